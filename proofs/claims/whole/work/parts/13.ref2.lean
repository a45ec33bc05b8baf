abbrev rm_X6_isGood : Room := { frames := 2, cells := 0, slots := 0, locals := 46 }
set_option maxRecDepth 20000 in
theorem qX6_isGood_1 : (Cond.fieldLink RX6 7 "FlashBootModel" "flash" "[I" : Cond) ∈ wsX6_isGood := List.mem_of_getElem? (i := 1) rfl
set_option maxRecDepth 20000 in
theorem iX6_isGood_X6 : ∀ w ∈ wsX60, w ∈ wsX6_isGood := by decide +kernel
set_option maxHeartbeats 4000000 in
set_option maxRecDepth 100000 in
theorem k_X6_isGood (l : Launch) (D : va_G) (cI : ClassId) (am : Nat → Nat) (ke : RW) (ve : Int32) (f : RW) (tb : RW) (tl : Nat) (p : Int32) (r : Int32) (lf : Int32) (k : Int32) (a : Int32) (im : RW) (md : Nat) (x : Nat) (hx2 : x < 2) : zMR l D cI yX6_isGood wsX6_isGood rm_X6_isGood [.ref (am 0), .int (nI x)] (mW cI am ke ve f tb tl p r lf k a im md) (.int (y_good f x)) := by
  refine zEntR (cc := cX6_isGood) (maxL := 4) (ret := (some .boolean)) (own := RX6) (lvs := [(0, .ref (am 0)), (1, .int (nI x))]) (by decide) rfl rfl rfl rfl (Nat.le_of_ble_eq_true rfl) rfl ?_
  intro p0 e s m args below meth c Q ls hx hb hml hts hown hP hK hN hl hret hretA
  refine lv_iload_n hx hb dX6_isGood_0 rfl (lv_at hl 1 rfl) ?_
  refine zSR (As := [.int (nI x)]) (rest := []) ⟨hx, hb, hml, hown, hts⟩ (k_X6_headerAt l D cI x) (va_cwS 1 hts gX6_isGood_X6_headerAt rfl rfl rfl (by decide +kernel) ⟨Nat.le_of_ble_eq_true rfl, Nat.le_of_ble_eq_true rfl⟩) hP hK hN [] rfl rfl hl.1 rfl (Nat.le_of_ble_eq_true rfl) dX6_isGood_1 ⟨Nat.zero_le _, Nat.zero_le _⟩ ?_
  refine lv_istore_n (lv' := [(2, .int (nI (224 * x + 192))), (0, .ref (am 0)), (1, .int (nI x))]) hx hb dX6_isGood_4 rfl hl (by decide) rfl (fun ls hl => ?_)
  refine lv_aload_n hx hb dX6_isGood_5 rfl (lv_at hl 1 rfl) ?_
  refine va_get (D := D) (ci := 6) (v := .ref (am 1)) (C := RX6) (T := TX6) (N := 13) hx hb hts iX6_isGood_X6 hown hK hP 0 rfl rfl 1 (by decide) (hts _ qX6_isGood_1) (fun _ h9 => h9) rfl dX6_isGood_6 ?_
  refine lv_iload_n hx hb dX6_isGood_9 rfl (lv_at hl 0 rfl) ?_
  refine z_iald hx hb hK hP 1 0 rfl rfl (224 * x + 192) rfl (by omega) (by decide) dX6_isGood_10 ?_
  refine lv_istore_n (lv' := [(3, .int (f (224 * x + 192))), (2, .int (nI (224 * x + 192))), (0, .ref (am 0)), (1, .int (nI x))]) hx hb dX6_isGood_11 rfl hl (by decide) rfl (fun ls hl => ?_)
  refine lv_aload_n hx hb dX6_isGood_12 rfl (lv_at hl 2 rfl) ?_
  refine va_get (D := D) (ci := 6) (v := .ref (am 1)) (C := RX6) (T := TX6) (N := 13) hx hb hts iX6_isGood_X6 hown hK hP 0 rfl rfl 1 (by decide) (hts _ qX6_isGood_1) (fun _ h9 => h9) rfl dX6_isGood_13 ?_
  refine lv_iload_n hx hb dX6_isGood_16 rfl (lv_at hl 1 rfl) ?_
  refine lv_bipush (v := 8) hx hb dX6_isGood_17 (by decide) ?_
  refine lv_iadd hx hb dX6_isGood_19 ?_
  refine z_top (v := nI ((224 * x + 192) + 8)) (nI_add (224 * x + 192) 8) ?_
  refine z_iald hx hb hK hP 1 0 rfl rfl ((224 * x + 192) + 8) rfl (by omega) (by decide) dX6_isGood_20 ?_
  refine lv_if_ne (tgt := 74) hx hb dX6_isGood_21 (by decide) (fun c_21 => ?_) (fun c_21 => ?_)
  · -- 21 t
    refine lv_iconst (v := 0) hx hb dX6_isGood_74 (by decide) ?_
    exact hret 75 ls 0 _ dX6_isGood_75 rfl rfl (congrArg Value.int (by simp only [y_good, if_neg c_21]))
  · -- 21 f
    refine lv_iload_n hx hb dX6_isGood_24 rfl (lv_at hl 0 rfl) ?_
    refine lv_iconst (v := 1) hx hb dX6_isGood_25 (by decide) ?_
    refine lv_icmp_lt (tgt := 74) hx hb dX6_isGood_26 (by decide) (fun c_26 => ?_) (fun c_26 => ?_)
    · -- 26 t
      refine lv_iconst (v := 0) hx hb dX6_isGood_74 (by decide) ?_
      exact hret 75 ls 0 _ dX6_isGood_75 rfl rfl (congrArg Value.int (by simp only [y_good, if_pos c_21, if_pos c_26]))
    · -- 26 f
      refine lv_iload_n hx hb dX6_isGood_29 rfl (lv_at hl 0 rfl) ?_
      refine lv_sipush (v := 192) hx hb dX6_isGood_30 (by decide) ?_
      refine lv_icmp_gt (tgt := 74) hx hb dX6_isGood_33 (by decide) (fun c_33 => ?_) (fun c_33 => ?_)
      · -- 33 t
        refine lv_iconst (v := 0) hx hb dX6_isGood_74 (by decide) ?_
        exact hret 75 ls 0 _ dX6_isGood_75 rfl rfl (congrArg Value.int (by simp only [y_good, if_pos c_21, if_neg c_26, if_pos c_33]))
      · -- 33 f
        obtain ⟨e1, e2, e3⟩ := y_lenOf c_26 c_33
        refine lv_aload_n hx hb dX6_isGood_36 rfl (lv_at hl 2 rfl) ?_
        refine lv_iload_n hx hb dX6_isGood_37 rfl (lv_at hl 3 rfl) ?_
        refine zSR (As := [.int (nI x)]) (rest := [.ref (am 0)]) ⟨hx, hb, hml, hown, hts⟩ (k_X6_imageAt l D cI x) (va_cwS 1 hts gX6_isGood_X6_imageAt rfl rfl rfl (by decide +kernel) ⟨Nat.le_of_ble_eq_true rfl, Nat.le_of_ble_eq_true rfl⟩) hP hK hN [] rfl rfl hl.1 rfl (Nat.le_of_ble_eq_true rfl) dX6_isGood_38 ⟨Nat.zero_le _, Nat.zero_le _⟩ ?_
        refine lv_iload_n hx hb dX6_isGood_41 rfl (lv_at hl 0 rfl) ?_
        refine z_top (v := nI (zb f (224 * x + 192))) (e1) ?_
        refine zVR (As := [.int (nI (224 * x)), .int (nI (zb f (224 * x + 192)))]) (rest := []) ⟨hx, hb, hml, hown, hts⟩ (k_X6_digestOf l D cI am ke ve f tb tl p r lf k a im md (224 * x) (zb f (224 * x + 192)) (by omega)) (cwV 2 hts gX6_isGood_X6_digestOf rfl rfl rfl (by decide +kernel) ⟨Nat.le_of_ble_eq_true rfl, Nat.le_of_ble_eq_true rfl⟩) hP hK hN [0, 1, 2, 3, 4] rfl (va_recv hK hP (ci := 6) (q0 := 0) rfl rfl) rfl hl.1 rfl (Nat.le_of_ble_eq_true rfl) dX6_isGood_42 ⟨Nat.zero_le _, Nat.zero_le _⟩ ?_
        refine lv_aload_n hx hb dX6_isGood_45 rfl (lv_at hl 2 rfl) ?_
        refine lv_iload_n hx hb dX6_isGood_46 rfl (lv_at hl 1 rfl) ?_
        refine lv_iconst (v := 2) hx hb dX6_isGood_47 (by decide) ?_
        refine lv_iadd hx hb dX6_isGood_48 ?_
        refine z_top (v := nI ((224 * x + 192) + 2)) (nI_add (224 * x + 192) 2) ?_
        refine zVR (As := [.int (nI ((224 * x + 192) + 2))]) (rest := [.int (y_digN f (224 * x) (zb f (224 * x + 192)))]) ⟨hx, hb, hml, hown, hts⟩ (k_X6_four l D cI am ke ve f tb tl p r lf k a im md ((224 * x + 192) + 2) (by omega)) (cwV 1 hts gX6_isGood_X6_four rfl rfl rfl (by decide +kernel) ⟨Nat.le_of_ble_eq_true rfl, Nat.le_of_ble_eq_true rfl⟩) hP hK hN [0, 1, 2, 3, 4] rfl (va_recv hK hP (ci := 6) (q0 := 0) rfl rfl) rfl hl.1 rfl (Nat.le_of_ble_eq_true rfl) dX6_isGood_49 ⟨Nat.zero_le _, Nat.zero_le _⟩ ?_
        refine lv_icmp_ne (tgt := 74) hx hb dX6_isGood_52 (by decide) (fun c_52 => ?_) (fun c_52 => ?_)
        · -- 52 t
          refine lv_iconst (v := 0) hx hb dX6_isGood_74 (by decide) ?_
          exact hret 75 ls 0 _ dX6_isGood_75 rfl rfl (congrArg Value.int (by simp only [y_good, if_pos c_21, if_neg c_26, if_neg c_33, if_neg c_52]))
        · -- 52 f
          refine lv_aload_n hx hb dX6_isGood_55 rfl (lv_at hl 2 rfl) ?_
          refine va_get (D := D) (ci := 6) (v := .ref (am 1)) (C := RX6) (T := TX6) (N := 13) hx hb hts iX6_isGood_X6 hown hK hP 0 rfl rfl 1 (by decide) (hts _ qX6_isGood_1) (fun _ h9 => h9) rfl dX6_isGood_56 ?_
          refine lv_iload_n hx hb dX6_isGood_59 rfl (lv_at hl 1 rfl) ?_
          refine lv_iconst (v := 1) hx hb dX6_isGood_60 (by decide) ?_
          refine lv_iadd hx hb dX6_isGood_61 ?_
          refine z_top (v := nI ((224 * x + 192) + 1)) (nI_add (224 * x + 192) 1) ?_
          refine z_iald hx hb hK hP 1 0 rfl rfl ((224 * x + 192) + 1) rfl (by omega) (by decide) dX6_isGood_62 ?_
          refine lv_aload_n hx hb dX6_isGood_63 rfl (lv_at hl 2 rfl) ?_
          refine zVR (As := []) (rest := [.int (f ((224 * x + 192) + 1))]) ⟨hx, hb, hml, hown, hts⟩ (k_X6_counterValue l D cI am ke ve f tb tl p r lf k a im md) (cwV 0 hts gX6_isGood_X6_counterValue rfl rfl rfl (by decide +kernel) ⟨Nat.le_of_ble_eq_true rfl, Nat.le_of_ble_eq_true rfl⟩) hP hK hN [0, 1, 2, 3, 4] rfl (va_recv hK hP (ci := 6) (q0 := 0) rfl rfl) rfl hl.1 rfl (Nat.le_of_ble_eq_true rfl) dX6_isGood_64 ⟨Nat.zero_le _, Nat.zero_le _⟩ ?_
          refine lv_icmp_lt (tgt := 74) hx hb dX6_isGood_67 (by decide) (fun c_67 => ?_) (fun c_67 => ?_)
          · -- 67 t
            refine lv_iconst (v := 0) hx hb dX6_isGood_74 (by decide) ?_
            exact hret 75 ls 0 _ dX6_isGood_75 rfl rfl (congrArg Value.int (by simp only [y_good, if_pos c_21, if_neg c_26, if_neg c_33, if_pos c_52, if_pos c_67]))
          · -- 67 f
            refine lv_iconst (v := 1) hx hb dX6_isGood_70 (by decide) ?_
            refine lv_goto (tgt := 75) hx hb dX6_isGood_71 (by decide) ?_
            exact hret 75 ls 1 _ dX6_isGood_75 rfl rfl (congrArg Value.int (by simp only [y_good, if_pos c_21, if_neg c_26, if_neg c_33, if_pos c_52, if_neg c_67]))
abbrev rm_X6_isConfirmed : Room := { frames := 1, cells := 0, slots := 0, locals := 20 }
set_option maxRecDepth 20000 in
theorem qX6_isConfirmed_1 : (Cond.fieldLink RX6 7 "FlashBootModel" "flash" "[I" : Cond) ∈ wsX6_isConfirmed := List.mem_of_getElem? (i := 1) rfl
set_option maxRecDepth 20000 in
theorem iX6_isConfirmed_X6 : ∀ w ∈ wsX60, w ∈ wsX6_isConfirmed := by decide +kernel
set_option maxHeartbeats 4000000 in
set_option maxRecDepth 100000 in
theorem k_X6_isConfirmed (l : Launch) (D : va_G) (cI : ClassId) (am : Nat → Nat) (ke : RW) (ve : Int32) (f : RW) (tb : RW) (tl : Nat) (p : Int32) (r : Int32) (lf : Int32) (k : Int32) (a : Int32) (im : RW) (md : Nat) (x : Nat) (hx2 : x < 2) : zMR l D cI yX6_isConfirmed wsX6_isConfirmed rm_X6_isConfirmed [.ref (am 0), .int (nI x)] (mW cI am ke ve f tb tl p r lf k a im md) (.int (y_conf f x)) := by
  refine zEntR (cc := cX6_isConfirmed) (maxL := 2) (ret := (some .boolean)) (own := RX6) (lvs := [(0, .ref (am 0)), (1, .int (nI x))]) (by decide) rfl rfl rfl rfl (Nat.le_of_ble_eq_true rfl) rfl ?_
  intro p0 e s m args below meth c Q ls hx hb hml hts hown hP hK hN hl hret hretA
  refine lv_aload_n hx hb dX6_isConfirmed_0 rfl (lv_at hl 0 rfl) ?_
  refine va_get (D := D) (ci := 6) (v := .ref (am 1)) (C := RX6) (T := TX6) (N := 13) hx hb hts iX6_isConfirmed_X6 hown hK hP 0 rfl rfl 1 (by decide) (hts _ qX6_isConfirmed_1) (fun _ h9 => h9) rfl dX6_isConfirmed_1 ?_
  refine lv_iload_n hx hb dX6_isConfirmed_4 rfl (lv_at hl 1 rfl) ?_
  refine zSR (As := [.int (nI x)]) (rest := [.ref (am 1)]) ⟨hx, hb, hml, hown, hts⟩ (k_X6_headerAt l D cI x) (va_cwS 1 hts gX6_isConfirmed_X6_headerAt rfl rfl rfl (by decide +kernel) ⟨Nat.le_of_ble_eq_true rfl, Nat.le_of_ble_eq_true rfl⟩) hP hK hN [] rfl rfl hl.1 rfl (Nat.le_of_ble_eq_true rfl) dX6_isConfirmed_5 ⟨Nat.zero_le _, Nat.zero_le _⟩ ?_
  refine lv_bipush (v := 7) hx hb dX6_isConfirmed_8 (by decide) ?_
  refine lv_iadd hx hb dX6_isConfirmed_10 ?_
  refine z_top (v := nI ((224 * x + 192) + 7)) (nI_add (224 * x + 192) 7) ?_
  refine z_iald hx hb hK hP 1 0 rfl rfl ((224 * x + 192) + 7) rfl (by omega) (by decide) dX6_isConfirmed_11 ?_
  refine lv_if_ne (tgt := 19) hx hb dX6_isConfirmed_12 (by decide) (fun c_12 => ?_) (fun c_12 => ?_)
  · -- 12 t
    refine lv_iconst (v := 0) hx hb dX6_isConfirmed_19 (by decide) ?_
    exact hret 20 ls 0 _ dX6_isConfirmed_20 rfl rfl (congrArg Value.int (by simp only [y_conf, if_neg c_12]))
  · -- 12 f
    refine lv_iconst (v := 1) hx hb dX6_isConfirmed_15 (by decide) ?_
    refine lv_goto (tgt := 20) hx hb dX6_isConfirmed_16 (by decide) ?_
    exact hret 20 ls 1 _ dX6_isConfirmed_20 rfl rfl (congrArg Value.int (by simp only [y_conf, if_pos c_12]))
abbrev rm_X6_lessOne : Room := { frames := 0, cells := 0, slots := 0, locals := 0 }
set_option maxHeartbeats 4000000 in
set_option maxRecDepth 100000 in
theorem k_X6_lessOne (l : Launch) (D : va_G) (cI : ClassId)   (b : Int32)  : zMR l D cI yX6_lessOne wsX6_lessOne rm_X6_lessOne [.int b] (w0 cI) (.int (y_less b)) := by
  refine zEntR (cc := cX6_lessOne) (maxL := 2) (ret := (some .int)) (own := RX6) (lvs := [(0, .int b)]) (by decide) rfl rfl rfl rfl (Nat.le_of_ble_eq_true rfl) rfl ?_
  intro p0 e s m args below meth c Q ls hx hb hml hts hown hP hK hN hl hret hretA
  refine lv_iconst (v := 1) hx hb dX6_lessOne_0 (by decide) ?_
  refine lv_istore_n (lv' := [(1, .int 1), (0, .int b)]) hx hb dX6_lessOne_1 rfl hl (by decide) rfl (fun ls hl => ?_)
  have lp_2 : ∀ (g_2 : Nat) (d : Nat) (j : Nat) (ls : Array Slot), j + d = 8 → y_lowN b d j = y_lowN b 8 0 → d < g_2 → lv_has ls 2 [(0, .int b), (1, .int (nI (2 ^ j)))] → W p0 l e rm_X6_lessOne s m args below meth c s.heap [] 0 0 Q (F0 m 2 ls []) := by
    intro g_2
    induction g_2 with
    | zero => intro d j ls h1 hy h9_2; exact absurd h9_2 (Nat.not_lt_zero _)
    | succ g_2 ih_2 =>
      intro d j ls h1 hy h9_2 hl
      refine lv_iload_n hx hb dX6_lessOne_2 rfl (lv_at hl 1 rfl) ?_
      refine lv_sipush (v := 256) hx hb dX6_lessOne_3 (by decide) ?_
      refine lv_icmp_ge (tgt := 22) hx hb dX6_lessOne_6 (by decide) (fun c_6 => ?_) (fun c_6 => ?_)
      · -- 6 t
        obtain rfl : d = 0 := by have h8 := y_pw8 j (by omega) c_6; omega
        refine lv_iload_n hx hb dX6_lessOne_22 rfl (lv_at hl 0 rfl) ?_
        refine lv_iload_n hx hb dX6_lessOne_23 rfl (lv_at hl 1 rfl) ?_
        refine lv_iconst (v := (-1)) hx hb dX6_lessOne_24 (by decide) ?_
        refine lv_ixor hx hb dX6_lessOne_25 ?_
        refine lv_iand hx hb dX6_lessOne_26 ?_
        refine lv_sipush (v := 255) hx hb dX6_lessOne_27 (by decide) ?_
        refine lv_iand hx hb dX6_lessOne_30 ?_
        exact hret 31 ls ((b &&& ((nI (2 ^ j)) ^^^ (-1))) &&& 255) _ dX6_lessOne_31 rfl rfl (congrArg Value.int (by rw [y_less, ← hy, y_lowN, y_less2]))
      · -- 6 f
        obtain ⟨d, rfl⟩ : ∃ d1, d = d1 + 1 := ⟨d - 1, by have h8 := y_pw7 j (by omega) c_6; omega⟩
        refine lv_iload_n hx hb dX6_lessOne_9 rfl (lv_at hl 0 rfl) ?_
        refine lv_iload_n hx hb dX6_lessOne_10 rfl (lv_at hl 1 rfl) ?_
        refine lv_iand hx hb dX6_lessOne_11 ?_
        refine lv_if_ne (tgt := 22) hx hb dX6_lessOne_12 (by decide) (fun c_12 => ?_) (fun c_12 => ?_)
        · -- 12 t
          refine lv_iload_n hx hb dX6_lessOne_22 rfl (lv_at hl 0 rfl) ?_
          refine lv_iload_n hx hb dX6_lessOne_23 rfl (lv_at hl 1 rfl) ?_
          refine lv_iconst (v := (-1)) hx hb dX6_lessOne_24 (by decide) ?_
          refine lv_ixor hx hb dX6_lessOne_25 ?_
          refine lv_iand hx hb dX6_lessOne_26 ?_
          refine lv_sipush (v := 255) hx hb dX6_lessOne_27 (by decide) ?_
          refine lv_iand hx hb dX6_lessOne_30 ?_
          exact hret 31 ls ((b &&& ((nI (2 ^ j)) ^^^ (-1))) &&& 255) _ dX6_lessOne_31 rfl rfl (congrArg Value.int (by rw [y_less, ← hy, y_lowN, if_neg c_12, y_less2]))
        · -- 12 f
          refine lv_iconst (v := 2) hx hb dX6_lessOne_15 (by decide) ?_
          refine lv_iload_n hx hb dX6_lessOne_16 rfl (lv_at hl 1 rfl) ?_
          refine lv_imul hx hb dX6_lessOne_17 ?_
          refine z_top (v := nI (2 ^ (j + 1))) (y_dbl j) ?_
          refine lv_istore_n (lv' := [(1, .int (nI (2 ^ (j + 1)))), (0, .int b)]) hx hb dX6_lessOne_18 rfl hl (by decide) rfl (fun ls hl => ?_)
          refine lv_goto (tgt := 2) hx hb dX6_lessOne_19 (by decide) ?_
          exact ih_2 d (j + 1) _ (by omega) (by rw [← hy, y_lowN, if_pos c_12]) (by omega) (lv_sub hl [1, 0] rfl)
  exact lp_2 _ 8 0 _ (by omega) rfl (Nat.lt_succ_self _) (lv_sub hl [1, 0] rfl)
abbrev rm_X6_type : Room := { frames := 0, cells := 0, slots := 0, locals := 0 }
set_option maxRecDepth 20000 in
theorem qX6_type_1 : (Cond.fieldLink RX6 36 "FlashBootModel" "thrown" "I" : Cond) ∈ wsX6_type := List.mem_of_getElem? (i := 1) rfl
set_option maxRecDepth 20000 in
theorem iX6_type_X6 : ∀ w ∈ wsX60, w ∈ wsX6_type := by decide +kernel
set_option maxRecDepth 20000 in
theorem qX6_type_2 : (Cond.fieldLink RX6 74 "FlashBootModel" "length" "I" : Cond) ∈ wsX6_type := List.mem_of_getElem? (i := 2) rfl
set_option maxRecDepth 20000 in
theorem qX6_type_3 : (Cond.fieldLink RX6 16 "FlashBootModel" "tape" "[I" : Cond) ∈ wsX6_type := List.mem_of_getElem? (i := 3) rfl
set_option maxRecDepth 20000 in
theorem qX6_type_4 : (Cond.constantLong RX6 77 (255) : Cond) ∈ wsX6_type := List.mem_of_getElem? (i := 4) rfl
set_option maxHeartbeats 4000000 in
set_option maxRecDepth 100000 in
theorem k_X6_type (l : Launch) (D : va_G) (cI : ClassId) (am : Nat → Nat) (ke : RW) (ve : Int32) (f : RW) (tb : RW) (tl : Nat) (p : Int32) (r : Int32) (lf : Int32) (k : Int32) (a : Int32) (im : RW) (md : Nat) (x : Int64) (y : Int32) (htl : tl ≤ 192) : zMW (S := Int32 × RW × Nat) l D cI yX6_type wsX6_type rm_X6_type [.ref (am 0), .long x, .int y] (mW cI am ke ve f tb tl p r lf k a im md) (y_type x y (tb, tl)) (fun u => some (.int u.1)) (fun u => mW cI am ke ve f u.2.1 u.2.2 p r lf k a im md) := by
  refine zEntW (cc := cX6_type) (maxL := 5) (ret := (some .int)) (own := RX6) (lvs := [(0, .ref (am 0)), (1, .long x), (3, .int y)]) (by decide) rfl rfl (Nat.le_of_ble_eq_true rfl) rfl ?_
  intro p0 e s m args below meth c Q ls A hx hb hml hts hown hP hK hN hD hS hA hl hret hretV
  refine lv_aload_n hx hb dX6_type_0 rfl (lv_at hl 0 rfl) ?_
  refine lv_iconst (v := 0) hx hb dX6_type_1 (by decide) ?_
  refine va_put (D := D) (ci := 6) (v := .int 0) (ty := .int) (C := RX6) (T := TX6) (N := 13) hx hb hts iX6_type_X6 tyX6 tyX6_ok nmX6 hown hK hP hD hS 0 rfl rfl 0 (by decide) (hts _ qX6_type_1) (fun _ h9 => h9) rfl (by decide +kernel) rfl rfl (Nat.le_of_ble_eq_true rfl) dX6_type_2 (fun H locs hP hD hS => ?_)
  have hP : va_P D vwCl (mW cI am ke ve f tb tl p r lf k a im md) _ := hP
  have hD : va_D A (mW cI am ke ve f tb tl p r lf k a im md) := hD
  refine lv_iload_n hx hb dX6_type_5 rfl (lv_at hl 2 rfl) ?_
  refine lv_iconst (v := 1) hx hb dX6_type_6 (by decide) ?_
  refine lv_icmp_lt (tgt := 16) hx hb dX6_type_7 (by decide) (fun c_7 => ?_) (fun c_7 => ?_)
  · -- 7 t
    refine lv_iconst (v := (-1)) hx hb dX6_type_16 (by decide) ?_
    exact hret 17 ls _ _ ((-1), tb, tl) (-1) _ dX6_type_17 rfl rfl rfl (by simp only [y_type, if_pos c_7]) hP hS
  · -- 7 f
    refine lv_iload_n hx hb dX6_type_10 rfl (lv_at hl 2 rfl) ?_
    refine lv_bipush (v := 8) hx hb dX6_type_11 (by decide) ?_
    refine lv_icmp_le (tgt := 18) hx hb dX6_type_13 (by decide) (fun c_13 => ?_) (fun c_13 => ?_)
    · -- 13 t
      obtain ⟨nn, hn1, hn2, rfl⟩ := z_natOf (m := 8) (n := 8) rfl (by decide) c_7 c_13
      refine lv_aload_n hx hb dX6_type_18 rfl (lv_at hl 0 rfl) ?_
      refine va_get (D := D) (ci := 6) (v := .int (nI tl)) (C := RX6) (T := TX6) (N := 13) hx hb hts iX6_type_X6 hown hK hP 0 rfl rfl 5 (by decide) (hts _ qX6_type_2) (fun _ h9 => h9) rfl dX6_type_19 ?_
      refine lv_iload_n hx hb dX6_type_22 rfl (lv_at hl 2 rfl) ?_
      refine lv_iadd hx hb dX6_type_23 ?_
      refine z_top (v := nI (tl + nn)) (nI_add tl nn) ?_
      refine lv_sipush (v := 192) hx hb dX6_type_24 (by decide) ?_
      refine z_icmp_le (tgt := 33) hx hb dX6_type_27 (by decide) (tl + nn) 192 rfl rfl (by omega) (by omega) (fun c_27 => ?_) (fun c_27 => ?_)
      · -- 27 t
        refine lv_bipush (v := 8) hx hb dX6_type_33 (by decide) ?_
        refine lv_iload_n hx hb dX6_type_35 rfl (lv_at hl 2 rfl) ?_
        refine lv_imul hx hb dX6_type_36 ?_
        refine z_top (v := nI (8 * nn)) (pk_mul 8 nn) ?_
        refine lv_bipush (v := 8) hx hb dX6_type_37 (by decide) ?_
        refine lv_isub hx hb dX6_type_39 ?_
        refine lv_istore (lv' := [(4, .int ((nI (8 * nn)) - 8)), (0, .ref (am 0)), (1, .long x), (3, .int (nI nn))]) hx hb dX6_type_40 hl (by decide) rfl (fun ls hl => ?_)
        have lp_42 : ∀ (g_42 : Nat) (m2 : Nat) (tb9 : RW) (t9 : Nat) (H : Heap) (locs : List Loc) (ls : Array Slot), t9 + m2 = tl + nn → y_addN x m2 tb9 t9 = y_addN x nn tb tl → m2 < g_42 → va_P D vwCl (mW cI am ke ve f tb9 t9 p r lf k a im md) H → va_D A (mW cI am ke ve f tb9 t9 p r lf k a im md) → va_S A s.heap H locs → lv_has ls 5 [(0, .ref (am 0)), (1, .long x), (3, .int (nI nn)), (4, .int (nI (8 * m2) - 8))] → W p0 l e rm_X6_type s m args below meth c H locs 0 0 Q (F0 m 42 ls []) := by
          intro g_42
          induction g_42 with
          | zero => intro m2 tb9 t9 H locs ls h1 hy h9_42; exact absurd h9_42 (Nat.not_lt_zero _)
          | succ g_42 ih_42 =>
            intro m2 tb9 t9 H locs ls h1 hy h9_42 hP hD hS hl
            refine lv_iload hx hb dX6_type_42 (lv_at hl 3 rfl) ?_
            refine lv_if_lt (tgt := 85) hx hb dX6_type_44 (by decide) (fun c_44 => ?_) (fun c_44 => ?_)
            · -- 44 t
              obtain rfl : m2 = 0 := by
                rcases m2 with _ | m1
                · rfl
                · exact absurd (by rw [y_dec8] at c_44; exact c_44) (nI_pos (by omega))
              refine lv_aload_n hx hb dX6_type_85 rfl (lv_at hl 0 rfl) ?_
              refine va_get (D := D) (ci := 6) (v := .int (nI t9)) (C := RX6) (T := TX6) (N := 13) hx hb hts iX6_type_X6 hown hK hP 0 rfl rfl 5 (by decide) (hts _ qX6_type_2) (fun _ h9 => h9) rfl dX6_type_86 ?_
              exact hret 89 ls _ _ (nI t9, tb9, t9) (nI t9) _ dX6_type_89 rfl rfl rfl (by simp only [y_type, if_neg c_7, if_pos c_13, nI_clamp (show nn < 2 ^ 31 by omega), if_pos c_27, ← hy, y_addN, ← (show t9 = tl + nn by omega), if_pos (show t9 ≤ 192 by omega)]) hP hS
            · -- 44 f
              obtain ⟨m1, rfl⟩ : ∃ m1, m2 = m1 + 1 := by
                rcases m2 with _ | m1
                · exact absurd (by decide) c_44
                · exact ⟨m1, rfl⟩
              rw [y_dec8] at hl
              refine lv_aload_n hx hb dX6_type_47 rfl (lv_at hl 0 rfl) ?_
              refine va_get (D := D) (ci := 6) (v := .ref (am 3)) (C := RX6) (T := TX6) (N := 13) hx hb hts iX6_type_X6 hown hK hP 0 rfl rfl 4 (by decide) (hts _ qX6_type_3) (fun _ h9 => h9) rfl dX6_type_48 ?_
              refine lv_aload_n hx hb dX6_type_51 rfl (lv_at hl 0 rfl) ?_
              refine va_get (D := D) (ci := 6) (v := .int (nI t9)) (C := RX6) (T := TX6) (N := 13) hx hb hts iX6_type_X6 hown hK hP 0 rfl rfl 5 (by decide) (hts _ qX6_type_2) (fun _ h9 => h9) rfl dX6_type_52 ?_
              refine lv_lload_n hx hb dX6_type_55 rfl (lv_at hl 1 rfl) ?_
              refine lv_iload hx hb dX6_type_56 (lv_at hl 3 rfl) ?_
              refine lv_lshr (v := zlshr x (nI (8 * m1))) hx hb dX6_type_58 rfl ?_
              refine lv_ldc2 (v := 255) hx hb hown (hts _ qX6_type_4) dX6_type_59 ?_
              refine lv_land hx hb dX6_type_62 ?_
              refine lv_l2i (v := Int64.toInt32 ((zlshr x (nI (8 * m1))) &&& 255)) hx hb dX6_type_63 rfl ?_
              refine z_iast hx hb hK hP hD hS 3 0 rfl rfl t9 (rfl) (by omega) (by decide) dX6_type_64 (fun H locs hP hD hS => ?_)
              have hP : va_P D vwCl (mW cI am ke ve f (upd tb9 t9 (Int64.toInt32 ((zlshr x (nI (8 * m1))) &&& 255))) t9 p r lf k a im md) _ := hP
              have hD : va_D A (mW cI am ke ve f (upd tb9 t9 (Int64.toInt32 ((zlshr x (nI (8 * m1))) &&& 255))) t9 p r lf k a im md) := hD
              refine lv_aload_n hx hb dX6_type_65 rfl (lv_at hl 0 rfl) ?_
              refine lv_dup hx hb dX6_type_66 rfl ?_
              refine va_get (D := D) (ci := 6) (v := .int (nI t9)) (C := RX6) (T := TX6) (N := 13) hx hb hts iX6_type_X6 hown hK hP 0 rfl rfl 5 (by decide) (hts _ qX6_type_2) (fun _ h9 => h9) rfl dX6_type_67 ?_
              refine lv_iconst (v := 1) hx hb dX6_type_70 (by decide) ?_
              refine lv_iadd hx hb dX6_type_71 ?_
              refine z_top (v := nI (t9 + 1)) (nI_add t9 1) ?_
              refine va_put (D := D) (ci := 6) (v := .int (nI (t9 + 1))) (ty := .int) (C := RX6) (T := TX6) (N := 13) hx hb hts iX6_type_X6 tyX6 tyX6_ok nmX6 hown hK hP hD hS 0 rfl rfl 5 (by decide) (hts _ qX6_type_2) (fun _ h9 => h9) rfl (by decide +kernel) rfl rfl (Nat.le_of_ble_eq_true rfl) dX6_type_72 (fun H locs hP hD hS => ?_)
              have hP : va_P D vwCl (mW cI am ke ve f (upd tb9 t9 (Int64.toInt32 ((zlshr x (nI (8 * m1))) &&& 255))) (t9 + 1) p r lf k a im md) _ := hP
              have hD : va_D A (mW cI am ke ve f (upd tb9 t9 (Int64.toInt32 ((zlshr x (nI (8 * m1))) &&& 255))) (t9 + 1) p r lf k a im md) := hD
              refine lv_iload hx hb dX6_type_75 (lv_at hl 3 rfl) ?_
              refine lv_bipush (v := 8) hx hb dX6_type_77 (by decide) ?_
              refine lv_isub hx hb dX6_type_79 ?_
              refine lv_istore (lv' := [(4, .int ((nI (8 * m1)) - 8)), (0, .ref (am 0)), (1, .long x), (3, .int (nI nn))]) hx hb dX6_type_80 hl (by decide) rfl (fun ls hl => ?_)
              refine lv_goto (tgt := 42) hx hb dX6_type_82 (by decide) ?_
              exact ih_42 m1 (upd tb9 t9 (Int64.toInt32 ((zlshr x (nI (8 * m1))) &&& 255))) (t9 + 1) _ _ _ (by omega) (by rw [← hy, y_addN]; rfl) (by omega) hP hD hS (lv_sub hl [1, 2, 3, 0] rfl)
        exact lp_42 _ nn tb tl _ _ _ (by omega) rfl (Nat.lt_succ_self _) hP hD hS (lv_sub hl [1, 2, 3, 0] rfl)
      · -- 27 f
        refine lv_bipush (v := (-8)) hx hb dX6_type_30 (by decide) ?_
        exact hret 32 ls _ _ ((-8), tb, tl) (-8) _ dX6_type_32 rfl rfl rfl (by simp only [y_type, if_neg c_7, if_pos c_13, nI_clamp (show nn < 2 ^ 31 by omega), if_neg (Nat.not_le_of_lt c_27)]) hP hS
    · -- 13 f
      refine lv_iconst (v := (-1)) hx hb dX6_type_16 (by decide) ?_
      exact hret 17 ls _ _ ((-1), tb, tl) (-1) _ dX6_type_17 rfl rfl rfl (by simp only [y_type, if_neg c_7, if_neg c_13]) hP hS
abbrev rm_X6_writeHeader : Room := { frames := 2, cells := 0, slots := 0, locals := 42 }
set_option maxHeartbeats 4000000 in
set_option maxRecDepth 100000 in
theorem k_X6_writeHeader (l : Launch) (D : va_G) (cI : ClassId) (am : Nat → Nat) (ke : RW) (ve : Int32) (f : RW) (tb : RW) (tl : Nat) (p : Int32) (r : Int32) (lf : Int32) (k : Int32) (a : Int32) (im : RW) (md : Nat) (x : Nat) (x1 : Int32) (x2 : Int32) (x3 : Int32) (hx2 : x < 2) : zMW (S := RW × Int32 × Int32 × Int32 × Int32) l D cI yX6_writeHeader wsX6_writeHeader rm_X6_writeHeader [.ref (am 0), .int (nI x), .int x1, .int x2, .int x3] (mW cI am ke ve f tb tl p r lf k a im md) (y_wh k x x1 x2 x3 (f, p, r, lf, a)) (fun _ => none) (fun u => mW cI am ke ve u.1 tb tl u.2.1 u.2.2.1 u.2.2.2.1 k u.2.2.2.2 im md) := by
  refine zEntW (cc := cX6_writeHeader) (maxL := 7) (ret := none) (own := RX6) (lvs := [(0, .ref (am 0)), (1, .int (nI x)), (2, .int x1), (3, .int x2), (4, .int x3)]) (by decide) rfl rfl (Nat.le_of_ble_eq_true rfl) rfl ?_
  intro p0 e s m args below meth c Q ls A hx hb hml hts hown hP hK hN hD hS hA hl hret hretV
  refine lv_iload_n hx hb dX6_writeHeader_0 rfl (lv_at hl 1 rfl) ?_
  refine zSR (As := [.int (nI x)]) (rest := []) ⟨hx, hb, hml, hown, hts⟩ (k_X6_headerAt l D cI x) (va_cwS 1 hts gX6_writeHeader_X6_headerAt rfl rfl rfl (by decide +kernel) ⟨Nat.le_of_ble_eq_true rfl, Nat.le_of_ble_eq_true rfl⟩) hP hK hN [] rfl rfl hl.1 rfl (Nat.le_of_ble_eq_true rfl) dX6_writeHeader_1 ⟨Nat.zero_le _, Nat.zero_le _⟩ ?_
  refine lv_istore (lv' := [(5, .int (nI (224 * x + 192))), (0, .ref (am 0)), (1, .int (nI x)), (2, .int x1), (3, .int x2), (4, .int x3)]) hx hb dX6_writeHeader_4 hl (by decide) rfl (fun ls hl => ?_)
  refine lv_aload_n hx hb dX6_writeHeader_6 rfl (lv_at hl 1 rfl) ?_
  refine lv_iload hx hb dX6_writeHeader_7 (lv_at hl 0 rfl) ?_
  refine lv_iload_n hx hb dX6_writeHeader_9 rfl (lv_at hl 3 rfl) ?_
  refine zVW (ws' := fun u => mW cI am ke ve u.1 tb tl u.2.1 u.2.2.1 u.2.2.2.1 k u.2.2.2.2 im md) (As := [.int (nI (224 * x + 192)), .int x1]) (rest := []) ⟨hx, hb, hml, hown, hts⟩ (k_X6_program l D cI am ke ve f tb tl p r lf k a im md (224 * x + 192) x1 (by omega)) (cwV 2 hts gX6_writeHeader_X6_program rfl rfl rfl (by decide +kernel) ⟨Nat.le_of_ble_eq_true rfl, Nat.le_of_ble_eq_true rfl⟩) hP hK hN hD hS hA [0, 1, 2, 3, 4] [] [] rfl (by decide) rfl (fun _ => rfl) (fun _ => rfl) (fun _ => rfl) rfl (va_recv hK hP (ci := 6) (q0 := 0) rfl rfl) rfl hl.1 rfl (Nat.le_of_ble_eq_true rfl) dX6_writeHeader_10 ⟨Nat.zero_le _, Nat.zero_le _⟩ (fun u_10 H locs hu_10 hP hD hS => ?_)
  obtain ⟨f_10, p_10, r_10, lf_10, a_10⟩ := u_10
  have hP : va_P D vwCl (mW cI am ke ve f_10 tb tl p_10 r_10 lf_10 k a_10 im md) _ := hP
  have hD : va_D A (mW cI am ke ve f_10 tb tl p_10 r_10 lf_10 k a_10 im md) := hD
  refine W.eq (g2 := F0 m 13 ls []) rfl ?_
  refine lv_aload_n hx hb dX6_writeHeader_13 rfl (lv_at hl 1 rfl) ?_
  refine lv_iload hx hb dX6_writeHeader_14 (lv_at hl 0 rfl) ?_
  refine lv_iconst (v := 1) hx hb dX6_writeHeader_16 (by decide) ?_
  refine lv_iadd hx hb dX6_writeHeader_17 ?_
  refine z_top (v := nI ((224 * x + 192) + 1)) (nI_add (224 * x + 192) 1) ?_
  refine lv_iload_n hx hb dX6_writeHeader_18 rfl (lv_at hl 4 rfl) ?_
  refine zVW (ws' := fun u => mW cI am ke ve u.1 tb tl u.2.1 u.2.2.1 u.2.2.2.1 k u.2.2.2.2 im md) (As := [.int (nI ((224 * x + 192) + 1)), .int x2]) (rest := []) ⟨hx, hb, hml, hown, hts⟩ (k_X6_program l D cI am ke ve f_10 tb tl p_10 r_10 lf_10 k a_10 im md ((224 * x + 192) + 1) x2 (by omega)) (cwV 2 hts gX6_writeHeader_X6_program rfl rfl rfl (by decide +kernel) ⟨Nat.le_of_ble_eq_true rfl, Nat.le_of_ble_eq_true rfl⟩) hP hK hN hD hS hA [0, 1, 2, 3, 4] [] [] rfl (by decide) rfl (fun _ => rfl) (fun _ => rfl) (fun _ => rfl) rfl (va_recv hK hP (ci := 6) (q0 := 0) rfl rfl) rfl hl.1 rfl (Nat.le_of_ble_eq_true rfl) dX6_writeHeader_19 ⟨Nat.zero_le _, Nat.zero_le _⟩ (fun u_19 H locs hu_19 hP hD hS => ?_)
  obtain ⟨f_19, p_19, r_19, lf_19, a_19⟩ := u_19
  have hP : va_P D vwCl (mW cI am ke ve f_19 tb tl p_19 r_19 lf_19 k a_19 im md) _ := hP
  have hD : va_D A (mW cI am ke ve f_19 tb tl p_19 r_19 lf_19 k a_19 im md) := hD
  refine W.eq (g2 := F0 m 22 ls []) rfl ?_
  refine lv_iconst (v := 0) hx hb dX6_writeHeader_22 (by decide) ?_
  refine lv_istore (lv' := [(6, .int 0), (5, .int (nI (224 * x + 192))), (0, .ref (am 0)), (1, .int (nI x)), (2, .int x1), (3, .int x2), (4, .int x3)]) hx hb dX6_writeHeader_23 hl (by decide) rfl (fun ls hl => ?_)
  have lp_25 : ∀ (g_25 : Nat) (i : Nat) (f9 : RW) (p9 : Int32) (r9 : Int32) (l9 : Int32) (a9 : Int32) (H : Heap) (locs : List Loc) (ls : Array Slot), i ≤ 4 → (f9, p9, r9, l9, a9) = y_pwN k x x3 (y_prog k (224 * x + 192 + 1) x2 (y_prog k (224 * x + 192) x1 (f, p, r, lf, a))) i → 4 - i < g_25 → va_P D vwCl (mW cI am ke ve f9 tb tl p9 r9 l9 k a9 im md) H → va_D A (mW cI am ke ve f9 tb tl p9 r9 l9 k a9 im md) → va_S A s.heap H locs → lv_has ls 7 [(0, .ref (am 0)), (1, .int (nI x)), (2, .int x1), (3, .int x2), (4, .int x3), (5, .int (nI (224 * x + 192))), (6, .int (nI i))] → W p0 l e rm_X6_writeHeader s m args below meth c H locs 0 0 Q (F0 m 25 ls []) := by
    intro g_25
    induction g_25 with
    | zero => intro i f9 p9 r9 l9 a9 H locs ls h1 hy h9_25; exact absurd h9_25 (Nat.not_lt_zero _)
    | succ g_25 ih_25 =>
      intro i f9 p9 r9 l9 a9 H locs ls h1 hy h9_25 hP hD hS hl
      refine lv_iload hx hb dX6_writeHeader_25 (lv_at hl 6 rfl) ?_
      refine lv_iconst (v := 4) hx hb dX6_writeHeader_27 (by decide) ?_
      refine z_icmp_ge (tgt := 55) hx hb dX6_writeHeader_28 (by decide) i 4 rfl rfl (by omega) (by omega) (fun c_28 => ?_) (fun c_28 => ?_)
      · -- 28 t
        exact hretV 55 ls _ _ (f9, p9, r9, l9, a9) dX6_writeHeader_55 rfl rfl (by rw [y_wh, show 4 = i by omega]; exact hy) hP hS
      · -- 28 f
        refine lv_aload_n hx hb dX6_writeHeader_31 rfl (lv_at hl 0 rfl) ?_
        refine lv_iload hx hb dX6_writeHeader_32 (lv_at hl 5 rfl) ?_
        refine lv_iconst (v := 2) hx hb dX6_writeHeader_34 (by decide) ?_
        refine lv_iadd hx hb dX6_writeHeader_35 ?_
        refine z_top (v := nI ((224 * x + 192) + 2)) (nI_add (224 * x + 192) 2) ?_
        refine lv_iload hx hb dX6_writeHeader_36 (lv_at hl 6 rfl) ?_
        refine lv_iadd hx hb dX6_writeHeader_38 ?_
        refine z_top (v := nI (((224 * x + 192) + 2) + i)) (nI_add ((224 * x + 192) + 2) i) ?_
        refine lv_iload hx hb dX6_writeHeader_39 (lv_at hl 4 rfl) ?_
        refine lv_iload hx hb dX6_writeHeader_41 (lv_at hl 6 rfl) ?_
        refine zSR (As := [.int x3, .int (nI i)]) (rest := [.int (nI (((224 * x + 192) + 2) + i)), .ref (am 0)]) ⟨hx, hb, hml, hown, hts⟩ (k_X6_part l D cI x3 (nI i)) (va_cwS 2 hts gX6_writeHeader_X6_part rfl rfl rfl (by decide +kernel) ⟨Nat.le_of_ble_eq_true rfl, Nat.le_of_ble_eq_true rfl⟩) hP hK hN [] rfl rfl hl.1 rfl (Nat.le_of_ble_eq_true rfl) dX6_writeHeader_43 ⟨Nat.zero_le _, Nat.zero_le _⟩ ?_
        refine zVW (ws' := fun u => mW cI am ke ve u.1 tb tl u.2.1 u.2.2.1 u.2.2.2.1 k u.2.2.2.2 im md) (As := [.int (nI (((224 * x + 192) + 2) + i)), .int (y_part x3 (nI i))]) (rest := []) ⟨hx, hb, hml, hown, hts⟩ (k_X6_program l D cI am ke ve f9 tb tl p9 r9 l9 k a9 im md (((224 * x + 192) + 2) + i) (y_part x3 (nI i)) (by omega)) (cwV 2 hts gX6_writeHeader_X6_program rfl rfl rfl (by decide +kernel) ⟨Nat.le_of_ble_eq_true rfl, Nat.le_of_ble_eq_true rfl⟩) hP hK hN hD hS hA [0, 1, 2, 3, 4] [] [] rfl (by decide) rfl (fun _ => rfl) (fun _ => rfl) (fun _ => rfl) rfl (va_recv hK hP (ci := 6) (q0 := 0) rfl rfl) rfl hl.1 rfl (Nat.le_of_ble_eq_true rfl) dX6_writeHeader_46 ⟨Nat.zero_le _, Nat.zero_le _⟩ (fun u_46 H locs hu_46 hP hD hS => ?_)
        obtain ⟨f_46, p_46, r_46, lf_46, a_46⟩ := u_46
        have hP : va_P D vwCl (mW cI am ke ve f_46 tb tl p_46 r_46 lf_46 k a_46 im md) _ := hP
        have hD : va_D A (mW cI am ke ve f_46 tb tl p_46 r_46 lf_46 k a_46 im md) := hD
        refine W.eq (g2 := F0 m 49 ls []) rfl ?_
        refine lv_iinc (v := (nI (i + 1))) (lv' := [(6, .int (nI (i + 1))), (0, .ref (am 0)), (1, .int (nI x)), (2, .int x1), (3, .int x2), (4, .int x3), (5, .int (nI (224 * x + 192)))]) hx hb dX6_writeHeader_49 hl (k := 6) rfl (z_inc _ _ rfl) (by decide) rfl (fun ls hl => ?_)
        refine lv_goto (tgt := 25) hx hb dX6_writeHeader_52 (by decide) ?_
        exact ih_25 (i + 1) f_46 p_46 r_46 lf_46 a_46 _ _ _ (by omega) (by rw [hu_46, y_pwN, ← hy]) (by omega) hP hD hS (lv_sub hl [1, 2, 3, 4, 5, 6, 0] rfl)
  exact lp_25 _ 0 f_19 p_19 r_19 lf_19 a_19 _ _ _ (by omega) (by rw [y_pwN, ← hu_10, ← hu_19]) (Nat.lt_succ_self _) hP hD hS (lv_sub hl [2, 3, 4, 5, 6, 1, 0] rfl)
abbrev rm_X6_factory : Room := { frames := 3, cells := 0, slots := 0, locals := 68 }
set_option maxRecDepth 20000 in
theorem qX6_factory_1 : (Cond.fieldLink RX6 36 "FlashBootModel" "thrown" "I" : Cond) ∈ wsX6_factory := List.mem_of_getElem? (i := 1) rfl
set_option maxRecDepth 20000 in
theorem iX6_factory_X6 : ∀ w ∈ wsX60, w ∈ wsX6_factory := by decide +kernel
set_option maxRecDepth 20000 in
theorem qX6_factory_2 : (Cond.fieldLink RX6 19 "FlashBootModel" "power" "Z" : Cond) ∈ wsX6_factory := List.mem_of_getElem? (i := 2) rfl
set_option maxRecDepth 20000 in
theorem qX6_factory_3 : (Cond.fieldLink RX6 74 "FlashBootModel" "length" "I" : Cond) ∈ wsX6_factory := List.mem_of_getElem? (i := 3) rfl
set_option maxRecDepth 20000 in
theorem qX6_factory_4 : (Cond.fieldLink RX6 23 "FlashBootModel" "runs" "I" : Cond) ∈ wsX6_factory := List.mem_of_getElem? (i := 4) rfl
set_option maxRecDepth 20000 in
theorem qX6_factory_5 : (Cond.fieldLink RX6 16 "FlashBootModel" "tape" "[I" : Cond) ∈ wsX6_factory := List.mem_of_getElem? (i := 5) rfl
set_option maxHeartbeats 4000000 in
set_option maxRecDepth 100000 in
theorem k_X6_factory (l : Launch) (D : va_G) (cI : ClassId) (am : Nat → Nat) (ke : RW) (ve : Int32) (f : RW) (tb : RW) (tl : Nat) (p : Int32) (r : Int32) (lf : Int32) (k : Int32) (a : Int32) (im : RW) (md : Nat) (x : Int32) (htl : tl ≤ 192) : zMW (S := Int32 × RW × Int32 × Int32 × Int32 × Int32 × Nat) l D cI yX6_factory wsX6_factory rm_X6_factory [.ref (am 0), .int x] (mW cI am ke ve f tb tl p r lf k a im md) (y_factory k x tb tl (f, p, r, lf, a)) (fun u => some (.int u.1)) (fun u => mW cI am ke ve u.2.1 tb u.2.2.2.2.2.2 u.2.2.1 u.2.2.2.1 u.2.2.2.2.1 k u.2.2.2.2.2.1 im md) := by
  refine zEntW (cc := cX6_factory) (maxL := 5) (ret := (some .int)) (own := RX6) (lvs := [(0, .ref (am 0)), (1, .int x)]) (by decide) rfl rfl (Nat.le_of_ble_eq_true rfl) rfl ?_
  intro p0 e s m args below meth c Q ls A hx hb hml hts hown hP hK hN hD hS hA hl hret hretV
  refine lv_aload_n hx hb dX6_factory_0 rfl (lv_at hl 0 rfl) ?_
  refine lv_iconst (v := 0) hx hb dX6_factory_1 (by decide) ?_
  refine va_put (D := D) (ci := 6) (v := .int 0) (ty := .int) (C := RX6) (T := TX6) (N := 13) hx hb hts iX6_factory_X6 tyX6 tyX6_ok nmX6 hown hK hP hD hS 0 rfl rfl 0 (by decide) (hts _ qX6_factory_1) (fun _ h9 => h9) rfl (by decide +kernel) rfl rfl (Nat.le_of_ble_eq_true rfl) dX6_factory_2 (fun H locs hP hD hS => ?_)
  have hP : va_P D vwCl (mW cI am ke ve f tb tl p r lf k a im md) _ := hP
  have hD : va_D A (mW cI am ke ve f tb tl p r lf k a im md) := hD
  refine lv_aload_n hx hb dX6_factory_5 rfl (lv_at hl 0 rfl) ?_
  refine va_get (D := D) (ci := 6) (v := .int p) (C := RX6) (T := TX6) (N := 13) hx hb hts iX6_factory_X6 hown hK hP 0 rfl rfl 6 (by decide) (hts _ qX6_factory_2) (fun _ h9 => h9) rfl dX6_factory_6 ?_
  refine lv_if_ne (tgt := 15) hx hb dX6_factory_9 (by decide) (fun c_9 => ?_) (fun c_9 => ?_)
  · -- 9 t
    refine lv_iload_n hx hb dX6_factory_15 rfl (lv_at hl 1 rfl) ?_
    refine lv_iconst (v := 1) hx hb dX6_factory_16 (by decide) ?_
    refine lv_icmp_lt (tgt := 35) hx hb dX6_factory_17 (by decide) (fun c_17 => ?_) (fun c_17 => ?_)
    · -- 17 t
      refine lv_iconst (v := (-1)) hx hb dX6_factory_35 (by decide) ?_
      exact hret 36 ls _ _ ((-1), f, p, r, lf, a, tl) (-1) _ dX6_factory_36 rfl rfl rfl (by simp only [y_factory, y_fact, y_fin, if_neg c_9, if_pos c_17]) hP hS
    · -- 17 f
      refine lv_iload_n hx hb dX6_factory_20 rfl (lv_at hl 1 rfl) ?_
      refine lv_sipush (v := 200) hx hb dX6_factory_21 (by decide) ?_
      refine lv_icmp_gt (tgt := 35) hx hb dX6_factory_24 (by decide) (fun c_24 => ?_) (fun c_24 => ?_)
      · -- 24 t
        refine lv_iconst (v := (-1)) hx hb dX6_factory_35 (by decide) ?_
        exact hret 36 ls _ _ ((-1), f, p, r, lf, a, tl) (-1) _ dX6_factory_36 rfl rfl rfl (by simp only [y_factory, y_fact, y_fin, if_neg c_9, if_neg c_17, if_pos c_24]) hP hS
      · -- 24 f
        refine lv_aload_n hx hb dX6_factory_27 rfl (lv_at hl 0 rfl) ?_
        refine va_get (D := D) (ci := 6) (v := .int (nI tl)) (C := RX6) (T := TX6) (N := 13) hx hb hts iX6_factory_X6 hown hK hP 0 rfl rfl 5 (by decide) (hts _ qX6_factory_3) (fun _ h9 => h9) rfl dX6_factory_28 ?_
        refine lv_iconst (v := 1) hx hb dX6_factory_31 (by decide) ?_
        refine z_icmp_ge (tgt := 37) hx hb dX6_factory_32 (by decide) tl 1 rfl rfl (by omega) (by omega) (fun c_32 => ?_) (fun c_32 => ?_)
        · -- 32 t
          refine lv_aload_n hx hb dX6_factory_37 rfl (lv_at hl 0 rfl) ?_
          refine va_get (D := D) (ci := 6) (v := .int (nI tl)) (C := RX6) (T := TX6) (N := 13) hx hb hts iX6_factory_X6 hown hK hP 0 rfl rfl 5 (by decide) (hts _ qX6_factory_3) (fun _ h9 => h9) rfl dX6_factory_38 ?_
          refine lv_istore_n (lv' := [(2, .int (nI tl)), (0, .ref (am 0)), (1, .int x)]) hx hb dX6_factory_41 rfl hl (by decide) rfl (fun ls hl => ?_)
          refine lv_aload_n hx hb dX6_factory_42 rfl (lv_at hl 1 rfl) ?_
          refine lv_iconst (v := 0) hx hb dX6_factory_43 (by decide) ?_
          refine va_put (D := D) (ci := 6) (v := .int 0) (ty := .int) (C := RX6) (T := TX6) (N := 13) hx hb hts iX6_factory_X6 tyX6 tyX6_ok nmX6 hown hK hP hD hS 0 rfl rfl 5 (by decide) (hts _ qX6_factory_3) (fun _ h9 => h9) rfl (by decide +kernel) rfl rfl (Nat.le_of_ble_eq_true rfl) dX6_factory_44 (fun H locs hP hD hS => ?_)
          have hP : va_P D vwCl (mW cI am ke ve f tb 0 p r lf k a im md) _ := hP
          have hD : va_D A (mW cI am ke ve f tb 0 p r lf k a im md) := hD
          refine lv_aload_n hx hb dX6_factory_47 rfl (lv_at hl 1 rfl) ?_
          refine lv_bipush (v := (-7)) hx hb dX6_factory_48 (by decide) ?_
          refine va_put (D := D) (ci := 6) (v := .int (-7)) (ty := .int) (C := RX6) (T := TX6) (N := 13) hx hb hts iX6_factory_X6 tyX6 tyX6_ok nmX6 hown hK hP hD hS 0 rfl rfl 7 (by decide) (hts _ qX6_factory_4) (fun _ h9 => h9) rfl (by decide +kernel) rfl rfl (Nat.le_of_ble_eq_true rfl) dX6_factory_50 (fun H locs hP hD hS => ?_)
          have hP : va_P D vwCl (mW cI am ke ve f tb 0 p (-7) lf k a im md) _ := hP
          have hD : va_D A (mW cI am ke ve f tb 0 p (-7) lf k a im md) := hD
          refine lv_iconst (v := 0) hx hb dX6_factory_53 (by decide) ?_
          refine lv_istore_n (lv' := [(3, .int 0), (2, .int (nI tl)), (0, .ref (am 0)), (1, .int x)]) hx hb dX6_factory_54 rfl hl (by decide) rfl (fun ls hl => ?_)
          have lp_55 : ∀ (g_55 : Nat) (i : Nat) (f9 : RW) (p9 : Int32) (r9 : Int32) (l9 : Int32) (a9 : Int32) (H : Heap) (locs : List Loc) (ls : Array Slot), i ≤ 7 → (f9, p9, r9, l9, a9) = y_eUpN k 0 (f, p, (-7), lf, a) i → 7 - i < g_55 → va_P D vwCl (mW cI am ke ve f9 tb 0 p9 r9 l9 k a9 im md) H → va_D A (mW cI am ke ve f9 tb 0 p9 r9 l9 k a9 im md) → va_S A s.heap H locs → lv_has ls 5 [(0, .ref (am 0)), (1, .int x), (2, .int (nI tl)), (3, .int (nI i))] → W p0 l e rm_X6_factory s m args below meth c H locs 0 0 Q (F0 m 55 ls []) := by
            intro g_55
            induction g_55 with
            | zero => intro i f9 p9 r9 l9 a9 H locs ls h1 hy h9_55; exact absurd h9_55 (Nat.not_lt_zero _)
            | succ g_55 ih_55 =>
              intro i f9 p9 r9 l9 a9 H locs ls h1 hy h9_55 hP hD hS hl
              refine lv_iload_n hx hb dX6_factory_55 rfl (lv_at hl 3 rfl) ?_
              refine lv_bipush (v := 7) hx hb dX6_factory_56 (by decide) ?_
              refine z_icmp_ge (tgt := 72) hx hb dX6_factory_58 (by decide) i 7 rfl rfl (by omega) (by omega) (fun c_58 => ?_) (fun c_58 => ?_)
              · -- 58 t
                refine lv_aload_n hx hb dX6_factory_72 rfl (lv_at hl 0 rfl) ?_
                refine lv_bipush (v := 22) hx hb dX6_factory_73 (by decide) ?_
                refine zVW (ws' := fun u => mW cI am ke ve u.1 tb 0 u.2.1 u.2.2.1 u.2.2.2.1 k u.2.2.2.2 im md) (As := [.int 22]) (rest := []) ⟨hx, hb, hml, hown, hts⟩ (k_X6_erase l D cI am ke ve f9 tb 0 p9 r9 l9 k a9 im md 22 (by omega)) (cwV 1 hts gX6_factory_X6_erase rfl rfl rfl (by decide +kernel) ⟨Nat.le_of_ble_eq_true rfl, Nat.le_of_ble_eq_true rfl⟩) hP hK hN hD hS hA [0, 1, 2, 3, 4] [] [] rfl (by decide) rfl (fun _ => rfl) (fun _ => rfl) (fun _ => rfl) rfl (va_recv hK hP (ci := 6) (q0 := 0) rfl rfl) rfl hl.1 rfl (Nat.le_of_ble_eq_true rfl) dX6_factory_75 ⟨Nat.zero_le _, Nat.zero_le _⟩ (fun u_75 H locs hu_75 hP hD hS => ?_)
                obtain ⟨f_75, p_75, r_75, lf_75, a_75⟩ := u_75
                have hP : va_P D vwCl (mW cI am ke ve f_75 tb 0 p_75 r_75 lf_75 k a_75 im md) _ := hP
                have hD : va_D A (mW cI am ke ve f_75 tb 0 p_75 r_75 lf_75 k a_75 im md) := hD
                refine W.eq (g2 := F0 m 78 ls []) rfl ?_
                refine lv_iconst (v := 0) hx hb dX6_factory_78 (by decide) ?_
                refine lv_istore_n (lv' := [(3, .int 0), (0, .ref (am 0)), (1, .int x), (2, .int (nI tl))]) hx hb dX6_factory_79 rfl hl (by decide) rfl (fun ls hl => ?_)
                refine lv_iconst (v := 0) hx hb dX6_factory_80 (by decide) ?_
                refine lv_istore (lv' := [(4, .int 0), (3, .int 0), (0, .ref (am 0)), (1, .int x), (2, .int (nI tl))]) hx hb dX6_factory_81 hl (by decide) rfl (fun ls hl => ?_)
                have lp_83 : ∀ (g_83 : Nat) (j : Nat) (f8 : RW) (p8 : Int32) (r8 : Int32) (l8 : Int32) (a8 : Int32) (H : Heap) (locs : List Loc) (ls : Array Slot), j ≤ tl → (f8, p8, r8, l8, a8) = y_rowN k 0 tb (y_erase k 22 (y_eUpN k 0 (f, p, (-7), lf, a) 7)) j → tl - j < g_83 → va_P D vwCl (mW cI am ke ve f8 tb 0 p8 r8 l8 k a8 im md) H → va_D A (mW cI am ke ve f8 tb 0 p8 r8 l8 k a8 im md) → va_S A s.heap H locs → lv_has ls 5 [(0, .ref (am 0)), (1, .int x), (2, .int (nI tl)), (3, .int (z_rdigN 0 tb j)), (4, .int (nI j))] → W p0 l e rm_X6_factory s m args below meth c H locs 0 0 Q (F0 m 83 ls []) := by
                  intro g_83
                  induction g_83 with
                  | zero => intro j f8 p8 r8 l8 a8 H locs ls h2 hz h9_83; exact absurd h9_83 (Nat.not_lt_zero _)
                  | succ g_83 ih_83 =>
                    intro j f8 p8 r8 l8 a8 H locs ls h2 hz h9_83 hP hD hS hl
                    refine lv_iload hx hb dX6_factory_83 (lv_at hl 4 rfl) ?_
                    refine lv_iload_n hx hb dX6_factory_85 rfl (lv_at hl 2 rfl) ?_
                    refine z_icmp_ge (tgt := 120) hx hb dX6_factory_86 (by decide) j tl rfl rfl (by omega) (by omega) (fun c_86 => ?_) (fun c_86 => ?_)
                    · -- 86 t
                      obtain rfl : tl = j := by omega
                      refine lv_aload_n hx hb dX6_factory_120 rfl (lv_at hl 0 rfl) ?_
                      refine lv_iconst (v := 0) hx hb dX6_factory_121 (by decide) ?_
                      refine lv_iload_n hx hb dX6_factory_122 rfl (lv_at hl 2 rfl) ?_
                      refine lv_iload_n hx hb dX6_factory_123 rfl (lv_at hl 1 rfl) ?_
                      refine lv_iload_n hx hb dX6_factory_124 rfl (lv_at hl 3 rfl) ?_
                      refine zVW (ws' := fun u => mW cI am ke ve u.1 tb 0 u.2.1 u.2.2.1 u.2.2.2.1 k u.2.2.2.2 im md) (As := [.int 0, .int (nI tl), .int x, .int (z_rdigN 0 tb tl)]) (rest := []) ⟨hx, hb, hml, hown, hts⟩ (k_X6_writeHeader l D cI am ke ve f8 tb 0 p8 r8 l8 k a8 im md 0 (nI tl) x (z_rdigN 0 tb tl) (by omega)) (cwV 4 hts gX6_factory_X6_writeHeader rfl rfl rfl (by decide +kernel) ⟨Nat.le_of_ble_eq_true rfl, Nat.le_of_ble_eq_true rfl⟩) hP hK hN hD hS hA [0, 1, 2, 3, 4] [] [] rfl (by decide) rfl (fun _ => rfl) (fun _ => rfl) (fun _ => rfl) rfl (va_recv hK hP (ci := 6) (q0 := 0) rfl rfl) rfl hl.1 rfl (Nat.le_of_ble_eq_true rfl) dX6_factory_125 ⟨Nat.zero_le _, Nat.zero_le _⟩ (fun u_125 H locs hu_125 hP hD hS => ?_)
                      obtain ⟨f_125, p_125, r_125, lf_125, a_125⟩ := u_125
                      have hP : va_P D vwCl (mW cI am ke ve f_125 tb 0 p_125 r_125 lf_125 k a_125 im md) _ := hP
                      have hD : va_D A (mW cI am ke ve f_125 tb 0 p_125 r_125 lf_125 k a_125 im md) := hD
                      refine W.eq (g2 := F0 m 128 ls []) rfl ?_
                      refine lv_aload_n hx hb dX6_factory_128 rfl (lv_at hl 0 rfl) ?_
                      refine lv_iconst (v := 0) hx hb dX6_factory_129 (by decide) ?_
                      refine zSR (As := [.int 0]) (rest := [.ref (am 0)]) ⟨hx, hb, hml, hown, hts⟩ (k_X6_headerAt l D cI 0) (va_cwS 1 hts gX6_factory_X6_headerAt rfl rfl rfl (by decide +kernel) ⟨Nat.le_of_ble_eq_true rfl, Nat.le_of_ble_eq_true rfl⟩) hP hK hN [] rfl rfl hl.1 rfl (Nat.le_of_ble_eq_true rfl) dX6_factory_130 ⟨Nat.zero_le _, Nat.zero_le _⟩ ?_
                      refine lv_bipush (v := 7) hx hb dX6_factory_133 (by decide) ?_
                      refine lv_iadd hx hb dX6_factory_135 ?_
                      refine z_top (v := nI ((224 * 0 + 192) + 7)) (nI_add (224 * 0 + 192) 7) ?_
                      refine lv_iconst (v := 0) hx hb dX6_factory_136 (by decide) ?_
                      refine zVW (ws' := fun u => mW cI am ke ve u.1 tb 0 u.2.1 u.2.2.1 u.2.2.2.1 k u.2.2.2.2 im md) (As := [.int (nI ((224 * 0 + 192) + 7)), .int 0]) (rest := []) ⟨hx, hb, hml, hown, hts⟩ (k_X6_program l D cI am ke ve f_125 tb 0 p_125 r_125 lf_125 k a_125 im md ((224 * 0 + 192) + 7) 0 (by omega)) (cwV 2 hts gX6_factory_X6_program rfl rfl rfl (by decide +kernel) ⟨Nat.le_of_ble_eq_true rfl, Nat.le_of_ble_eq_true rfl⟩) hP hK hN hD hS hA [0, 1, 2, 3, 4] [] [] rfl (by decide) rfl (fun _ => rfl) (fun _ => rfl) (fun _ => rfl) rfl (va_recv hK hP (ci := 6) (q0 := 0) rfl rfl) rfl hl.1 rfl (Nat.le_of_ble_eq_true rfl) dX6_factory_137 ⟨Nat.zero_le _, Nat.zero_le _⟩ (fun u_137 H locs hu_137 hP hD hS => ?_)
                      obtain ⟨f_137, p_137, r_137, lf_137, a_137⟩ := u_137
                      have hP : va_P D vwCl (mW cI am ke ve f_137 tb 0 p_137 r_137 lf_137 k a_137 im md) _ := hP
                      have hD : va_D A (mW cI am ke ve f_137 tb 0 p_137 r_137 lf_137 k a_137 im md) := hD
                      refine W.eq (g2 := F0 m 140 ls []) rfl ?_
                      refine lv_aload_n hx hb dX6_factory_140 rfl (lv_at hl 0 rfl) ?_
                      refine lv_iconst (v := 0) hx hb dX6_factory_141 (by decide) ?_
                      refine zSR (As := [.int 0]) (rest := [.ref (am 0)]) ⟨hx, hb, hml, hown, hts⟩ (k_X6_headerAt l D cI 0) (va_cwS 1 hts gX6_factory_X6_headerAt rfl rfl rfl (by decide +kernel) ⟨Nat.le_of_ble_eq_true rfl, Nat.le_of_ble_eq_true rfl⟩) hP hK hN [] rfl rfl hl.1 rfl (Nat.le_of_ble_eq_true rfl) dX6_factory_142 ⟨Nat.zero_le _, Nat.zero_le _⟩ ?_
                      refine lv_bipush (v := 8) hx hb dX6_factory_145 (by decide) ?_
                      refine lv_iadd hx hb dX6_factory_147 ?_
                      refine z_top (v := nI ((224 * 0 + 192) + 8)) (nI_add (224 * 0 + 192) 8) ?_
                      refine lv_iconst (v := 0) hx hb dX6_factory_148 (by decide) ?_
                      refine zVW (ws' := fun u => mW cI am ke ve u.1 tb 0 u.2.1 u.2.2.1 u.2.2.2.1 k u.2.2.2.2 im md) (As := [.int (nI ((224 * 0 + 192) + 8)), .int 0]) (rest := []) ⟨hx, hb, hml, hown, hts⟩ (k_X6_program l D cI am ke ve f_137 tb 0 p_137 r_137 lf_137 k a_137 im md ((224 * 0 + 192) + 8) 0 (by omega)) (cwV 2 hts gX6_factory_X6_program rfl rfl rfl (by decide +kernel) ⟨Nat.le_of_ble_eq_true rfl, Nat.le_of_ble_eq_true rfl⟩) hP hK hN hD hS hA [0, 1, 2, 3, 4] [] [] rfl (by decide) rfl (fun _ => rfl) (fun _ => rfl) (fun _ => rfl) rfl (va_recv hK hP (ci := 6) (q0 := 0) rfl rfl) rfl hl.1 rfl (Nat.le_of_ble_eq_true rfl) dX6_factory_149 ⟨Nat.zero_le _, Nat.zero_le _⟩ (fun u_149 H locs hu_149 hP hD hS => ?_)
                      obtain ⟨f_149, p_149, r_149, lf_149, a_149⟩ := u_149
                      have hP : va_P D vwCl (mW cI am ke ve f_149 tb 0 p_149 r_149 lf_149 k a_149 im md) _ := hP
                      have hD : va_D A (mW cI am ke ve f_149 tb 0 p_149 r_149 lf_149 k a_149 im md) := hD
                      refine W.eq (g2 := F0 m 152 ls []) rfl ?_
                      refine lv_aload_n hx hb dX6_factory_152 rfl (lv_at hl 0 rfl) ?_
                      refine va_get (D := D) (ci := 6) (v := .int p_149) (C := RX6) (T := TX6) (N := 13) hx hb hts iX6_factory_X6 hown hK hP 0 rfl rfl 6 (by decide) (hts _ qX6_factory_2) (fun _ h9 => h9) rfl dX6_factory_153 ?_
                      refine lv_if_eq (tgt := 163) hx hb dX6_factory_156 (by decide) (fun c_156 => ?_) (fun c_156 => ?_)
                      · -- 156 t
                        refine lv_bipush (v := (-2)) hx hb dX6_factory_163 (by decide) ?_
                        exact hret 165 ls _ _ ((-2), f_149, p_149, r_149, lf_149, a_149, 0) (-2) _ dX6_factory_165 rfl rfl rfl (by simp only [y_factory, y_fact, y_fin, ← hu_75, ← hz, ← hu_125, ← hu_137, ← hu_149, if_neg c_9, if_neg c_17, if_neg c_24, if_pos c_32, if_pos c_58, if_pos c_86, if_pos c_156]) hP hS
                      · -- 156 f
                        refine lv_iconst (v := 1) hx hb dX6_factory_159 (by decide) ?_
                        refine lv_goto (tgt := 165) hx hb dX6_factory_160 (by decide) ?_
                        exact hret 165 ls _ _ (1, f_149, p_149, r_149, lf_149, a_149, 0) 1 _ dX6_factory_165 rfl rfl rfl (by simp only [y_factory, y_fact, y_fin, ← hu_75, ← hz, ← hu_125, ← hu_137, ← hu_149, if_neg c_9, if_neg c_17, if_neg c_24, if_pos c_32, if_pos c_58, if_pos c_86, if_neg c_156]) hP hS
                    · -- 86 f
                      refine lv_aload_n hx hb dX6_factory_89 rfl (lv_at hl 0 rfl) ?_
                      refine lv_iload hx hb dX6_factory_90 (lv_at hl 4 rfl) ?_
                      refine lv_aload_n hx hb dX6_factory_92 rfl (lv_at hl 0 rfl) ?_
                      refine va_get (D := D) (ci := 6) (v := .ref (am 3)) (C := RX6) (T := TX6) (N := 13) hx hb hts iX6_factory_X6 hown hK hP 0 rfl rfl 4 (by decide) (hts _ qX6_factory_5) (fun _ h9 => h9) rfl dX6_factory_93 ?_
                      refine lv_iload hx hb dX6_factory_96 (lv_at hl 4 rfl) ?_
                      refine z_iald hx hb hK hP 3 0 rfl rfl j rfl (by omega) (by decide) dX6_factory_98 ?_
                      refine zVW (ws' := fun u => mW cI am ke ve u.1 tb 0 u.2.1 u.2.2.1 u.2.2.2.1 k u.2.2.2.2 im md) (As := [.int (nI j), .int (tb j)]) (rest := []) ⟨hx, hb, hml, hown, hts⟩ (k_X6_program l D cI am ke ve f8 tb 0 p8 r8 l8 k a8 im md j (tb j) (by omega)) (cwV 2 hts gX6_factory_X6_program rfl rfl rfl (by decide +kernel) ⟨Nat.le_of_ble_eq_true rfl, Nat.le_of_ble_eq_true rfl⟩) hP hK hN hD hS hA [0, 1, 2, 3, 4] [] [] rfl (by decide) rfl (fun _ => rfl) (fun _ => rfl) (fun _ => rfl) rfl (va_recv hK hP (ci := 6) (q0 := 0) rfl rfl) rfl hl.1 rfl (Nat.le_of_ble_eq_true rfl) dX6_factory_99 ⟨Nat.zero_le _, Nat.zero_le _⟩ (fun u_99 H locs hu_99 hP hD hS => ?_)
                      obtain ⟨f_99, p_99, r_99, lf_99, a_99⟩ := u_99
                      have hP : va_P D vwCl (mW cI am ke ve f_99 tb 0 p_99 r_99 lf_99 k a_99 im md) _ := hP
                      have hD : va_D A (mW cI am ke ve f_99 tb 0 p_99 r_99 lf_99 k a_99 im md) := hD
                      refine W.eq (g2 := F0 m 102 ls []) rfl ?_
                      refine lv_iload_n hx hb dX6_factory_102 rfl (lv_at hl 3 rfl) ?_
                      refine lv_aload_n hx hb dX6_factory_103 rfl (lv_at hl 0 rfl) ?_
                      refine va_get (D := D) (ci := 6) (v := .ref (am 3)) (C := RX6) (T := TX6) (N := 13) hx hb hts iX6_factory_X6 hown hK hP 0 rfl rfl 4 (by decide) (hts _ qX6_factory_5) (fun _ h9 => h9) rfl dX6_factory_104 ?_
                      refine lv_iload hx hb dX6_factory_107 (lv_at hl 4 rfl) ?_
                      refine z_iald hx hb hK hP 3 0 rfl rfl j rfl (by omega) (by decide) dX6_factory_109 ?_
                      refine zSR (As := [.int (z_rdigN 0 tb j), .int (tb j)]) (rest := []) ⟨hx, hb, hml, hown, hts⟩ (k_X6_digested l D cI (z_rdigN 0 tb j) (tb j)) (va_cwS 2 hts gX6_factory_X6_digested rfl rfl rfl (by decide +kernel) ⟨Nat.le_of_ble_eq_true rfl, Nat.le_of_ble_eq_true rfl⟩) hP hK hN [] rfl rfl hl.1 rfl (Nat.le_of_ble_eq_true rfl) dX6_factory_110 ⟨Nat.zero_le _, Nat.zero_le _⟩ ?_
                      refine lv_istore_n (lv' := [(3, .int (z_digB (z_rdigN 0 tb j) (tb j))), (0, .ref (am 0)), (1, .int x), (2, .int (nI tl)), (4, .int (nI j))]) hx hb dX6_factory_113 rfl hl (by decide) rfl (fun ls hl => ?_)
                      refine lv_iinc (v := (nI (j + 1))) (lv' := [(4, .int (nI (j + 1))), (3, .int (z_digB (z_rdigN 0 tb j) (tb j))), (0, .ref (am 0)), (1, .int x), (2, .int (nI tl))]) hx hb dX6_factory_114 hl (k := 4) rfl (z_inc _ _ rfl) (by decide) rfl (fun ls hl => ?_)
                      refine lv_goto (tgt := 83) hx hb dX6_factory_117 (by decide) ?_
                      exact ih_83 (j + 1) f_99 p_99 r_99 lf_99 a_99 _ _ _ (by omega) (by rw [hu_99, y_rowN, ← hz, Nat.zero_add]) (by omega) hP hD hS (lv_sub hl [2, 3, 4, 1, 0] rfl)
                exact lp_83 _ 0 f_75 p_75 r_75 lf_75 a_75 _ _ _ (by omega) (by rw [hu_75, y_rowN, show 7 = i by omega, ← hy]) (Nat.lt_succ_self _) hP hD hS (lv_sub hl [2, 3, 4, 1, 0] rfl)
              · -- 58 f
                refine lv_aload_n hx hb dX6_factory_61 rfl (lv_at hl 0 rfl) ?_
                refine lv_iload_n hx hb dX6_factory_62 rfl (lv_at hl 3 rfl) ?_
                refine zVW (ws' := fun u => mW cI am ke ve u.1 tb 0 u.2.1 u.2.2.1 u.2.2.2.1 k u.2.2.2.2 im md) (As := [.int (nI i)]) (rest := []) ⟨hx, hb, hml, hown, hts⟩ (k_X6_erase l D cI am ke ve f9 tb 0 p9 r9 l9 k a9 im md i (by omega)) (cwV 1 hts gX6_factory_X6_erase rfl rfl rfl (by decide +kernel) ⟨Nat.le_of_ble_eq_true rfl, Nat.le_of_ble_eq_true rfl⟩) hP hK hN hD hS hA [0, 1, 2, 3, 4] [] [] rfl (by decide) rfl (fun _ => rfl) (fun _ => rfl) (fun _ => rfl) rfl (va_recv hK hP (ci := 6) (q0 := 0) rfl rfl) rfl hl.1 rfl (Nat.le_of_ble_eq_true rfl) dX6_factory_63 ⟨Nat.zero_le _, Nat.zero_le _⟩ (fun u_63 H locs hu_63 hP hD hS => ?_)
                obtain ⟨f_63, p_63, r_63, lf_63, a_63⟩ := u_63
                have hP : va_P D vwCl (mW cI am ke ve f_63 tb 0 p_63 r_63 lf_63 k a_63 im md) _ := hP
                have hD : va_D A (mW cI am ke ve f_63 tb 0 p_63 r_63 lf_63 k a_63 im md) := hD
                refine W.eq (g2 := F0 m 66 ls []) rfl ?_
                refine lv_iinc (v := (nI (i + 1))) (lv' := [(3, .int (nI (i + 1))), (0, .ref (am 0)), (1, .int x), (2, .int (nI tl))]) hx hb dX6_factory_66 hl (k := 3) rfl (z_inc _ _ rfl) (by decide) rfl (fun ls hl => ?_)
                refine lv_goto (tgt := 55) hx hb dX6_factory_69 (by decide) ?_
                exact ih_55 (i + 1) f_63 p_63 r_63 lf_63 a_63 _ _ _ (by omega) (by rw [hu_63, y_eUpN, ← hy, Nat.zero_add]) (by omega) hP hD hS (lv_sub hl [1, 2, 3, 0] rfl)
          exact lp_55 _ 0 f p (-7) lf a _ _ _ (by omega) rfl (Nat.lt_succ_self _) hP hD hS (lv_sub hl [2, 3, 1, 0] rfl)
        · -- 32 f
          refine lv_iconst (v := (-1)) hx hb dX6_factory_35 (by decide) ?_
          exact hret 36 ls _ _ ((-1), f, p, r, lf, a, tl) (-1) _ dX6_factory_36 rfl rfl rfl (by simp only [y_factory, y_fact, y_fin, if_neg c_9, if_neg c_17, if_neg c_24, if_neg (Nat.not_le_of_lt c_32)]) hP hS
  · -- 9 f
    refine lv_bipush (v := (-2)) hx hb dX6_factory_12 (by decide) ?_
    exact hret 14 ls _ _ ((-2), f, p, r, lf, a, tl) (-2) _ dX6_factory_14 rfl rfl rfl (by simp only [y_factory, y_fact, y_fin, if_pos c_9]) hP hS
abbrev rm_X6_manifestByte : Room := { frames := 0, cells := 0, slots := 0, locals := 0 }
set_option maxRecDepth 20000 in
theorem qX6_manifestByte_2 : (Cond.fieldLink RX6 7 "FlashBootModel" "flash" "[I" : Cond) ∈ wsX6_manifestByte := List.mem_of_getElem? (i := 2) rfl
set_option maxRecDepth 20000 in
theorem iX6_manifestByte_X6 : ∀ w ∈ wsX60, w ∈ wsX6_manifestByte := by decide +kernel
set_option maxRecDepth 20000 in
theorem qX6_manifestByte_1 : (Cond.fieldLink RX6 16 "FlashBootModel" "tape" "[I" : Cond) ∈ wsX6_manifestByte := List.mem_of_getElem? (i := 1) rfl
set_option maxHeartbeats 4000000 in
set_option maxRecDepth 100000 in
theorem k_X6_manifestByte (l : Launch) (D : va_G) (cI : ClassId) (am : Nat → Nat) (ke : RW) (ve : Int32) (f : RW) (tb : RW) (tl : Nat) (p : Int32) (r : Int32) (lf : Int32) (k : Int32) (a : Int32) (im : RW) (md : Nat) (x : Int32) (i : Nat) (hi : i < 21) : zMR l D cI yX6_manifestByte wsX6_manifestByte rm_X6_manifestByte [.ref (am 0), .int x, .int (nI i)] (mW cI am ke ve f tb tl p r lf k a im md) (.int (y_mb x f tb i)) := by
  refine zEntR (cc := cX6_manifestByte) (maxL := 3) (ret := (some .int)) (own := RX6) (lvs := [(0, .ref (am 0)), (1, .int x), (2, .int (nI i))]) (by decide) rfl rfl rfl rfl (Nat.le_of_ble_eq_true rfl) rfl ?_
  intro p0 e s m args below meth c Q ls hx hb hml hts hown hP hK hN hl hret hretA
  refine lv_iload_n hx hb dX6_manifestByte_0 rfl (lv_at hl 1 rfl) ?_
  refine lv_if_eq (tgt := 13) hx hb dX6_manifestByte_1 (by decide) (fun c_1 => ?_) (fun c_1 => ?_)
  · -- 1 t
    refine lv_aload_n hx hb dX6_manifestByte_13 rfl (lv_at hl 0 rfl) ?_
    refine va_get (D := D) (ci := 6) (v := .ref (am 1)) (C := RX6) (T := TX6) (N := 13) hx hb hts iX6_manifestByte_X6 hown hK hP 0 rfl rfl 1 (by decide) (hts _ qX6_manifestByte_2) (fun _ h9 => h9) rfl dX6_manifestByte_14 ?_
    refine lv_sipush (v := 640) hx hb dX6_manifestByte_17 (by decide) ?_
    refine lv_iload_n hx hb dX6_manifestByte_20 rfl (lv_at hl 2 rfl) ?_
    refine lv_iadd hx hb dX6_manifestByte_21 ?_
    refine z_top (v := nI (640 + i)) (nI_add 640 i) ?_
    refine z_iald hx hb hK hP 1 0 rfl rfl (640 + i) rfl (by omega) (by decide) dX6_manifestByte_22 ?_
    exact hret 23 ls (f (640 + i)) _ dX6_manifestByte_23 rfl rfl (congrArg Value.int (by simp only [y_mb, if_pos c_1]))
  · -- 1 f
    refine lv_aload_n hx hb dX6_manifestByte_4 rfl (lv_at hl 0 rfl) ?_
    refine va_get (D := D) (ci := 6) (v := .ref (am 3)) (C := RX6) (T := TX6) (N := 13) hx hb hts iX6_manifestByte_X6 hown hK hP 0 rfl rfl 4 (by decide) (hts _ qX6_manifestByte_1) (fun _ h9 => h9) rfl dX6_manifestByte_5 ?_
    refine lv_iload_n hx hb dX6_manifestByte_8 rfl (lv_at hl 2 rfl) ?_
    refine z_iald hx hb hK hP 3 0 rfl rfl i rfl (by omega) (by decide) dX6_manifestByte_9 ?_
    refine lv_goto (tgt := 23) hx hb dX6_manifestByte_10 (by decide) ?_
    exact hret 23 ls (tb i) _ dX6_manifestByte_23 rfl rfl (congrArg Value.int (by simp only [y_mb, if_neg c_1]))
abbrev rm_X6_manifestFour : Room := { frames := 1, cells := 0, slots := 0, locals := 22 }
set_option maxHeartbeats 4000000 in
set_option maxRecDepth 100000 in
theorem k_X6_manifestFour (l : Launch) (D : va_G) (cI : ClassId) (am : Nat → Nat) (ke : RW) (ve : Int32) (f : RW) (tb : RW) (tl : Nat) (p : Int32) (r : Int32) (lf : Int32) (k : Int32) (a : Int32) (im : RW) (md : Nat) (x : Int32) (b : Nat) (hb : b ≤ 16) : zMR l D cI yX6_manifestFour wsX6_manifestFour rm_X6_manifestFour [.ref (am 0), .int x, .int (nI b)] (mW cI am ke ve f tb tl p r lf k a im md) (.int (y_mf x f tb b)) := by
  refine zEntR (cc := cX6_manifestFour) (maxL := 5) (ret := (some .int)) (own := RX6) (lvs := [(0, .ref (am 0)), (1, .int x), (2, .int (nI b))]) (by decide) rfl rfl rfl rfl (Nat.le_of_ble_eq_true rfl) rfl ?_
  intro p0 e s m args below meth c Q ls hx hb hml hts hown hP hK hN hl hret hretA
  refine lv_iconst (v := 0) hx hb dX6_manifestFour_0 (by decide) ?_
  refine lv_istore_n (lv' := [(3, .int 0), (0, .ref (am 0)), (1, .int x), (2, .int (nI b))]) hx hb dX6_manifestFour_1 rfl hl (by decide) rfl (fun ls hl => ?_)
  refine lv_iconst (v := 0) hx hb dX6_manifestFour_2 (by decide) ?_
  refine lv_istore (lv' := [(4, .int 0), (3, .int 0), (0, .ref (am 0)), (1, .int x), (2, .int (nI b))]) hx hb dX6_manifestFour_3 hl (by decide) rfl (fun ls hl => ?_)
  have lp_5 : ∀ (g_5 : Nat) (i : Nat) (ls : Array Slot), i ≤ 4 → 4 - i < g_5 → lv_has ls 5 [(0, .ref (am 0)), (1, .int x), (2, .int (nI b)), (3, .int (y_mfN x f tb b i)), (4, .int (nI i))] → W p0 l e rm_X6_manifestFour s m args below meth c s.heap [] 0 0 Q (F0 m 5 ls []) := by
    intro g_5
    induction g_5 with
    | zero => intro i ls h1 h9_5; exact absurd h9_5 (Nat.not_lt_zero _)
    | succ g_5 ih_5 =>
      intro i ls h1 h9_5 hl
      refine lv_iload hx hb dX6_manifestFour_5 (lv_at hl 4 rfl) ?_
      refine lv_iconst (v := 4) hx hb dX6_manifestFour_7 (by decide) ?_
      refine z_icmp_ge (tgt := 32) hx hb dX6_manifestFour_8 (by decide) i 4 rfl rfl (by omega) (by omega) (fun c_8 => ?_) (fun c_8 => ?_)
      · -- 8 t
        refine lv_iload_n hx hb dX6_manifestFour_32 rfl (lv_at hl 3 rfl) ?_
        exact hret 33 ls (y_mfN x f tb b i) _ dX6_manifestFour_33 rfl rfl (congrArg Value.int (by rw [y_mf, show 4 = i by omega]))
      · -- 8 f
        refine lv_iload_n hx hb dX6_manifestFour_11 rfl (lv_at hl 3 rfl) ?_
        refine lv_bipush (v := 8) hx hb dX6_manifestFour_12 (by decide) ?_
        refine lv_ishl hx hb dX6_manifestFour_14 ?_
        refine lv_aload_n hx hb dX6_manifestFour_15 rfl (lv_at hl 0 rfl) ?_
        refine lv_iload_n hx hb dX6_manifestFour_16 rfl (lv_at hl 1 rfl) ?_
        refine lv_iload_n hx hb dX6_manifestFour_17 rfl (lv_at hl 2 rfl) ?_
        refine lv_iload hx hb dX6_manifestFour_18 (lv_at hl 4 rfl) ?_
        refine lv_iadd hx hb dX6_manifestFour_20 ?_
        refine z_top (v := nI (b + i)) (nI_add b i) ?_
        refine zVR (As := [.int x, .int (nI (b + i))]) (rest := [.int ((y_mfN x f tb b i) <<< (8 &&& 31))]) ⟨hx, hb, hml, hown, hts⟩ (k_X6_manifestByte l D cI am ke ve f tb tl p r lf k a im md x (b + i) (by omega)) (cwV 2 hts gX6_manifestFour_X6_manifestByte rfl rfl rfl (by decide +kernel) ⟨Nat.le_of_ble_eq_true rfl, Nat.le_of_ble_eq_true rfl⟩) hP hK hN [0, 1, 2, 3, 4] rfl (va_recv hK hP (ci := 6) (q0 := 0) rfl rfl) rfl hl.1 rfl (Nat.le_of_ble_eq_true rfl) dX6_manifestFour_21 ⟨Nat.zero_le _, Nat.zero_le _⟩ ?_
        refine lv_ior hx hb dX6_manifestFour_24 ?_
        refine lv_istore_n (lv' := [(3, .int (((y_mfN x f tb b i) <<< (8 &&& 31)) ||| (y_mb x f tb (b + i)))), (0, .ref (am 0)), (1, .int x), (2, .int (nI b)), (4, .int (nI i))]) hx hb dX6_manifestFour_25 rfl hl (by decide) rfl (fun ls hl => ?_)
        refine lv_iinc (v := (nI (i + 1))) (lv' := [(4, .int (nI (i + 1))), (3, .int (((y_mfN x f tb b i) <<< (8 &&& 31)) ||| (y_mb x f tb (b + i)))), (0, .ref (am 0)), (1, .int x), (2, .int (nI b))]) hx hb dX6_manifestFour_26 hl (k := 4) rfl (z_inc _ _ rfl) (by decide) rfl (fun ls hl => ?_)
        refine lv_goto (tgt := 5) hx hb dX6_manifestFour_29 (by decide) ?_
        exact ih_5 (i + 1) _ (by omega) (by omega) (lv_sub hl [2, 3, 4, 1, 0] rfl)
  exact lp_5 _ 0 _ (by omega) (Nat.lt_succ_self _) (lv_sub hl [2, 3, 4, 1, 0] rfl)
abbrev rm_X6_isIn : Room := { frames := 0, cells := 0, slots := 0, locals := 0 }
set_option maxHeartbeats 4000000 in
set_option maxRecDepth 100000 in
theorem k_X6_isIn (l : Launch) (D : va_G) (cI : ClassId)   (x : Int32) (y : Int32) (z : Int32)  : zMR l D cI yX6_isIn wsX6_isIn rm_X6_isIn [.int x, .int y, .int z] (w0 cI) (.int (y_isIn x y z)) := by
  refine zEntR (cc := cX6_isIn) (maxL := 3) (ret := (some .boolean)) (own := RX6) (lvs := [(0, .int x), (1, .int y), (2, .int z)]) (by decide) rfl rfl rfl rfl (Nat.le_of_ble_eq_true rfl) rfl ?_
  intro p0 e s m args below meth c Q ls hx hb hml hts hown hP hK hN hl hret hretA
  refine lv_iload_n hx hb dX6_isIn_0 rfl (lv_at hl 0 rfl) ?_
  refine lv_iload_n hx hb dX6_isIn_1 rfl (lv_at hl 1 rfl) ?_
  refine lv_icmp_lt (tgt := 14) hx hb dX6_isIn_2 (by decide) (fun c_2 => ?_) (fun c_2 => ?_)
  · -- 2 t
    refine lv_iconst (v := 0) hx hb dX6_isIn_14 (by decide) ?_
    exact hret 15 ls 0 _ dX6_isIn_15 rfl rfl (congrArg Value.int (by simp only [y_isIn, if_pos c_2]))
  · -- 2 f
    refine lv_iload_n hx hb dX6_isIn_5 rfl (lv_at hl 0 rfl) ?_
    refine lv_iload_n hx hb dX6_isIn_6 rfl (lv_at hl 2 rfl) ?_
    refine lv_icmp_gt (tgt := 14) hx hb dX6_isIn_7 (by decide) (fun c_7 => ?_) (fun c_7 => ?_)
    · -- 7 t
      refine lv_iconst (v := 0) hx hb dX6_isIn_14 (by decide) ?_
      exact hret 15 ls 0 _ dX6_isIn_15 rfl rfl (congrArg Value.int (by simp only [y_isIn, if_neg c_2, if_pos c_7]))
    · -- 7 f
      refine lv_iconst (v := 1) hx hb dX6_isIn_10 (by decide) ?_
      refine lv_goto (tgt := 15) hx hb dX6_isIn_11 (by decide) ?_
      exact hret 15 ls 1 _ dX6_isIn_15 rfl rfl (congrArg Value.int (by simp only [y_isIn, if_neg c_2, if_neg c_7]))
abbrev rm_X6_isInRange : Room := { frames := 1, cells := 0, slots := 0, locals := 22 }
set_option maxHeartbeats 4000000 in
set_option maxRecDepth 100000 in
theorem k_X6_isInRange (l : Launch) (D : va_G) (cI : ClassId) (am : Nat → Nat) (ke : RW) (ve : Int32) (f : RW) (tb : RW) (tl : Nat) (p : Int32) (r : Int32) (lf : Int32) (k : Int32) (a : Int32) (im : RW) (md : Nat) (x : Int32)  : zMR l D cI yX6_isInRange wsX6_isInRange rm_X6_isInRange [.ref (am 0), .int x] (mW cI am ke ve f tb tl p r lf k a im md) (.int (y_rng x f tb)) := by
  refine zEntR (cc := cX6_isInRange) (maxL := 2) (ret := (some .boolean)) (own := RX6) (lvs := [(0, .ref (am 0)), (1, .int x)]) (by decide) rfl rfl rfl rfl (Nat.le_of_ble_eq_true rfl) rfl ?_
  intro p0 e s m args below meth c Q ls hx hb hml hts hown hP hK hN hl hret hretA
  refine lv_aload_n hx hb dX6_isInRange_0 rfl (lv_at hl 0 rfl) ?_
  refine lv_iload_n hx hb dX6_isInRange_1 rfl (lv_at hl 1 rfl) ?_
  refine lv_iconst (v := 1) hx hb dX6_isInRange_2 (by decide) ?_
  refine zVR (As := [.int x, .int 1]) (rest := []) ⟨hx, hb, hml, hown, hts⟩ (k_X6_manifestByte l D cI am ke ve f tb tl p r lf k a im md x 1 (by omega)) (cwV 2 hts gX6_isInRange_X6_manifestByte rfl rfl rfl (by decide +kernel) ⟨Nat.le_of_ble_eq_true rfl, Nat.le_of_ble_eq_true rfl⟩) hP hK hN [0, 1, 2, 3, 4] rfl (va_recv hK hP (ci := 6) (q0 := 0) rfl rfl) rfl hl.1 rfl (Nat.le_of_ble_eq_true rfl) dX6_isInRange_3 ⟨Nat.zero_le _, Nat.zero_le _⟩ ?_
  refine lv_iconst (v := 1) hx hb dX6_isInRange_6 (by decide) ?_
  refine lv_sipush (v := 200) hx hb dX6_isInRange_7 (by decide) ?_
  refine zSR (As := [.int (y_mb x f tb 1), .int 1, .int 200]) (rest := []) ⟨hx, hb, hml, hown, hts⟩ (k_X6_isIn l D cI (y_mb x f tb 1) 1 200) (va_cwS 3 hts gX6_isInRange_X6_isIn rfl rfl rfl (by decide +kernel) ⟨Nat.le_of_ble_eq_true rfl, Nat.le_of_ble_eq_true rfl⟩) hP hK hN [] rfl rfl hl.1 rfl (Nat.le_of_ble_eq_true rfl) dX6_isInRange_10 ⟨Nat.zero_le _, Nat.zero_le _⟩ ?_
  refine lv_if_eq (tgt := 54) hx hb dX6_isInRange_13 (by decide) (fun c_13 => ?_) (fun c_13 => ?_)
  · -- 13 t
    refine lv_iconst (v := 0) hx hb dX6_isInRange_54 (by decide) ?_
    exact hret 55 ls 0 _ dX6_isInRange_55 rfl rfl (congrArg Value.int (by simp only [y_rng, if_pos c_13]))
  · -- 13 f
    refine lv_aload_n hx hb dX6_isInRange_16 rfl (lv_at hl 0 rfl) ?_
    refine lv_iload_n hx hb dX6_isInRange_17 rfl (lv_at hl 1 rfl) ?_
    refine lv_bipush (v := 6) hx hb dX6_isInRange_18 (by decide) ?_
    refine zVR (As := [.int x, .int 6]) (rest := []) ⟨hx, hb, hml, hown, hts⟩ (k_X6_manifestByte l D cI am ke ve f tb tl p r lf k a im md x 6 (by omega)) (cwV 2 hts gX6_isInRange_X6_manifestByte rfl rfl rfl (by decide +kernel) ⟨Nat.le_of_ble_eq_true rfl, Nat.le_of_ble_eq_true rfl⟩) hP hK hN [0, 1, 2, 3, 4] rfl (va_recv hK hP (ci := 6) (q0 := 0) rfl rfl) rfl hl.1 rfl (Nat.le_of_ble_eq_true rfl) dX6_isInRange_20 ⟨Nat.zero_le _, Nat.zero_le _⟩ ?_
    refine lv_iconst (v := 1) hx hb dX6_isInRange_23 (by decide) ?_
    refine lv_sipush (v := 192) hx hb dX6_isInRange_24 (by decide) ?_
    refine zSR (As := [.int (y_mb x f tb 6), .int 1, .int 192]) (rest := []) ⟨hx, hb, hml, hown, hts⟩ (k_X6_isIn l D cI (y_mb x f tb 6) 1 192) (va_cwS 3 hts gX6_isInRange_X6_isIn rfl rfl rfl (by decide +kernel) ⟨Nat.le_of_ble_eq_true rfl, Nat.le_of_ble_eq_true rfl⟩) hP hK hN [] rfl rfl hl.1 rfl (Nat.le_of_ble_eq_true rfl) dX6_isInRange_27 ⟨Nat.zero_le _, Nat.zero_le _⟩ ?_
    refine lv_if_eq (tgt := 54) hx hb dX6_isInRange_30 (by decide) (fun c_30 => ?_) (fun c_30 => ?_)
    · -- 30 t
      refine lv_iconst (v := 0) hx hb dX6_isInRange_54 (by decide) ?_
      exact hret 55 ls 0 _ dX6_isInRange_55 rfl rfl (congrArg Value.int (by simp only [y_rng, if_neg c_13, if_pos c_30]))
    · -- 30 f
      refine lv_aload_n hx hb dX6_isInRange_33 rfl (lv_at hl 0 rfl) ?_
      refine lv_iload_n hx hb dX6_isInRange_34 rfl (lv_at hl 1 rfl) ?_
      refine lv_bipush (v := 11) hx hb dX6_isInRange_35 (by decide) ?_
      refine zVR (As := [.int x, .int 11]) (rest := []) ⟨hx, hb, hml, hown, hts⟩ (k_X6_manifestByte l D cI am ke ve f tb tl p r lf k a im md x 11 (by omega)) (cwV 2 hts gX6_isInRange_X6_manifestByte rfl rfl rfl (by decide +kernel) ⟨Nat.le_of_ble_eq_true rfl, Nat.le_of_ble_eq_true rfl⟩) hP hK hN [0, 1, 2, 3, 4] rfl (va_recv hK hP (ci := 6) (q0 := 0) rfl rfl) rfl hl.1 rfl (Nat.le_of_ble_eq_true rfl) dX6_isInRange_37 ⟨Nat.zero_le _, Nat.zero_le _⟩ ?_
      refine lv_iconst (v := 1) hx hb dX6_isInRange_40 (by decide) ?_
      refine lv_sipush (v := 192) hx hb dX6_isInRange_41 (by decide) ?_
      refine zSR (As := [.int (y_mb x f tb 11), .int 1, .int 192]) (rest := []) ⟨hx, hb, hml, hown, hts⟩ (k_X6_isIn l D cI (y_mb x f tb 11) 1 192) (va_cwS 3 hts gX6_isInRange_X6_isIn rfl rfl rfl (by decide +kernel) ⟨Nat.le_of_ble_eq_true rfl, Nat.le_of_ble_eq_true rfl⟩) hP hK hN [] rfl rfl hl.1 rfl (Nat.le_of_ble_eq_true rfl) dX6_isInRange_44 ⟨Nat.zero_le _, Nat.zero_le _⟩ ?_
      refine lv_if_eq (tgt := 54) hx hb dX6_isInRange_47 (by decide) (fun c_47 => ?_) (fun c_47 => ?_)
      · -- 47 t
        refine lv_iconst (v := 0) hx hb dX6_isInRange_54 (by decide) ?_
        exact hret 55 ls 0 _ dX6_isInRange_55 rfl rfl (congrArg Value.int (by simp only [y_rng, if_neg c_13, if_neg c_30, if_pos c_47]))
      · -- 47 f
        refine lv_iconst (v := 1) hx hb dX6_isInRange_50 (by decide) ?_
        refine lv_goto (tgt := 55) hx hb dX6_isInRange_51 (by decide) ?_
        exact hret 55 ls 1 _ dX6_isInRange_55 rfl rfl (congrArg Value.int (by simp only [y_rng, if_neg c_13, if_neg c_30, if_neg c_47]))
abbrev rm_X6_isTagged : Room := { frames := 2, cells := 0, slots := 0, locals := 46 }
set_option maxRecDepth 20000 in
theorem qX6_isTagged_2 : (Cond.fieldLink RX6 33 "FlashBootModel" "vendor" "I" : Cond) ∈ wsX6_isTagged := List.mem_of_getElem? (i := 2) rfl
set_option maxRecDepth 20000 in
theorem iX6_isTagged_X6 : ∀ w ∈ wsX60, w ∈ wsX6_isTagged := by decide +kernel
set_option maxRecDepth 20000 in
theorem qX6_isTagged_1 : (Cond.fieldLink RX6 13 "FlashBootModel" "keys" "[I" : Cond) ∈ wsX6_isTagged := List.mem_of_getElem? (i := 1) rfl
set_option maxHeartbeats 4000000 in
set_option maxRecDepth 100000 in
theorem k_X6_isTagged (l : Launch) (D : va_G) (cI : ClassId) (am : Nat → Nat) (ke : RW) (ve : Int32) (f : RW) (tb : RW) (tl : Nat) (p : Int32) (r : Int32) (lf : Int32) (k : Int32) (a : Int32) (im : RW) (md : Nat) (x : Int32)  : zMR l D cI yX6_isTagged wsX6_isTagged rm_X6_isTagged [.ref (am 0), .int x] (mW cI am ke ve f tb tl p r lf k a im md) (.int (y_tag x ke ve f tb)) := by
  refine zEntR (cc := cX6_isTagged) (maxL := 4) (ret := (some .boolean)) (own := RX6) (lvs := [(0, .ref (am 0)), (1, .int x)]) (by decide) rfl rfl rfl rfl (Nat.le_of_ble_eq_true rfl) rfl ?_
  intro p0 e s m args below meth c Q ls hx hb hml hts hown hP hK hN hl hret hretA
  refine lv_iconst (v := 0) hx hb dX6_isTagged_0 (by decide) ?_
  refine lv_istore_n (lv' := [(2, .int 0), (0, .ref (am 0)), (1, .int x)]) hx hb dX6_isTagged_1 rfl hl (by decide) rfl (fun ls hl => ?_)
  refine lv_iconst (v := 0) hx hb dX6_isTagged_2 (by decide) ?_
  refine lv_istore_n (lv' := [(3, .int 0), (2, .int 0), (0, .ref (am 0)), (1, .int x)]) hx hb dX6_isTagged_3 rfl hl (by decide) rfl (fun ls hl => ?_)
  have lp_4 : ∀ (g_4 : Nat) (i : Nat) (ls : Array Slot), i ≤ 8 → 8 - i < g_4 → lv_has ls 4 [(0, .ref (am 0)), (1, .int x), (2, .int (z_rdigN 0 ke i)), (3, .int (nI i))] → W p0 l e rm_X6_isTagged s m args below meth c s.heap [] 0 0 Q (F0 m 4 ls []) := by
    intro g_4
    induction g_4 with
    | zero => intro i ls h1 h9_4; exact absurd h9_4 (Nat.not_lt_zero _)
    | succ g_4 ih_4 =>
      intro i ls h1 h9_4 hl
      refine lv_iload_n hx hb dX6_isTagged_4 rfl (lv_at hl 3 rfl) ?_
      refine lv_bipush (v := 8) hx hb dX6_isTagged_5 (by decide) ?_
      refine z_icmp_ge (tgt := 27) hx hb dX6_isTagged_7 (by decide) i 8 rfl rfl (by omega) (by omega) (fun c_7 => ?_) (fun c_7 => ?_)
      · -- 7 t
        obtain rfl : i = 8 := by omega
        refine lv_iconst (v := 0) hx hb dX6_isTagged_27 (by decide) ?_
        refine lv_istore_n (lv' := [(3, .int 0), (0, .ref (am 0)), (1, .int x), (2, .int (z_rdigN 0 ke 8))]) hx hb dX6_isTagged_28 rfl hl (by decide) rfl (fun ls hl => ?_)
        have lp_29 : ∀ (g_29 : Nat) (j : Nat) (ls : Array Slot), j ≤ 16 → 16 - j < g_29 → lv_has ls 4 [(0, .ref (am 0)), (1, .int x), (2, .int (y_mdN x f tb (z_rdigN 0 ke 8) j)), (3, .int (nI j))] → W p0 l e rm_X6_isTagged s m args below meth c s.heap [] 0 0 Q (F0 m 29 ls []) := by
          intro g_29
          induction g_29 with
          | zero => intro j ls h2 h9_29; exact absurd h9_29 (Nat.not_lt_zero _)
          | succ g_29 ih_29 =>
            intro j ls h2 h9_29 hl
            refine lv_iload_n hx hb dX6_isTagged_29 rfl (lv_at hl 3 rfl) ?_
            refine lv_bipush (v := 16) hx hb dX6_isTagged_30 (by decide) ?_
            refine z_icmp_ge (tgt := 52) hx hb dX6_isTagged_32 (by decide) j 16 rfl rfl (by omega) (by omega) (fun c_32 => ?_) (fun c_32 => ?_)
            · -- 32 t
              obtain rfl : j = 16 := by omega
              refine lv_iload_n hx hb dX6_isTagged_52 rfl (lv_at hl 2 rfl) ?_
              refine lv_aload_n hx hb dX6_isTagged_53 rfl (lv_at hl 0 rfl) ?_
              refine lv_iload_n hx hb dX6_isTagged_54 rfl (lv_at hl 1 rfl) ?_
              refine lv_bipush (v := 16) hx hb dX6_isTagged_55 (by decide) ?_
              refine zVR (As := [.int x, .int 16]) (rest := [.int (y_mdN x f tb (z_rdigN 0 ke 8) 16)]) ⟨hx, hb, hml, hown, hts⟩ (k_X6_manifestFour l D cI am ke ve f tb tl p r lf k a im md x 16 (by omega)) (cwV 2 hts gX6_isTagged_X6_manifestFour rfl rfl rfl (by decide +kernel) ⟨Nat.le_of_ble_eq_true rfl, Nat.le_of_ble_eq_true rfl⟩) hP hK hN [0, 1, 2, 3, 4] rfl (va_recv hK hP (ci := 6) (q0 := 0) rfl rfl) rfl hl.1 rfl (Nat.le_of_ble_eq_true rfl) dX6_isTagged_57 ⟨Nat.zero_le _, Nat.zero_le _⟩ ?_
              refine lv_icmp_ne (tgt := 80) hx hb dX6_isTagged_60 (by decide) (fun c_60 => ?_) (fun c_60 => ?_)
              · -- 60 t
                refine lv_iconst (v := 0) hx hb dX6_isTagged_80 (by decide) ?_
                exact hret 81 ls 0 _ dX6_isTagged_81 rfl rfl (congrArg Value.int (by simp only [y_tag, if_pos c_7, if_pos c_32, if_neg c_60]))
              · -- 60 f
                refine lv_aload_n hx hb dX6_isTagged_63 rfl (lv_at hl 0 rfl) ?_
                refine lv_iload_n hx hb dX6_isTagged_64 rfl (lv_at hl 1 rfl) ?_
                refine lv_iconst (v := 0) hx hb dX6_isTagged_65 (by decide) ?_
                refine zVR (As := [.int x, .int 0]) (rest := []) ⟨hx, hb, hml, hown, hts⟩ (k_X6_manifestByte l D cI am ke ve f tb tl p r lf k a im md x 0 (by omega)) (cwV 2 hts gX6_isTagged_X6_manifestByte rfl rfl rfl (by decide +kernel) ⟨Nat.le_of_ble_eq_true rfl, Nat.le_of_ble_eq_true rfl⟩) hP hK hN [0, 1, 2, 3, 4] rfl (va_recv hK hP (ci := 6) (q0 := 0) rfl rfl) rfl hl.1 rfl (Nat.le_of_ble_eq_true rfl) dX6_isTagged_66 ⟨Nat.zero_le _, Nat.zero_le _⟩ ?_
                refine lv_aload_n hx hb dX6_isTagged_69 rfl (lv_at hl 0 rfl) ?_
                refine va_get (D := D) (ci := 6) (v := .int ve) (C := RX6) (T := TX6) (N := 13) hx hb hts iX6_isTagged_X6 hown hK hP 0 rfl rfl 3 (by decide) (hts _ qX6_isTagged_2) (fun _ h9 => h9) rfl dX6_isTagged_70 ?_
                refine lv_icmp_ne (tgt := 80) hx hb dX6_isTagged_73 (by decide) (fun c_73 => ?_) (fun c_73 => ?_)
                · -- 73 t
                  refine lv_iconst (v := 0) hx hb dX6_isTagged_80 (by decide) ?_
                  exact hret 81 ls 0 _ dX6_isTagged_81 rfl rfl (congrArg Value.int (by simp only [y_tag, if_pos c_7, if_pos c_32, if_pos c_60, if_neg c_73]))
                · -- 73 f
                  refine lv_iconst (v := 1) hx hb dX6_isTagged_76 (by decide) ?_
                  refine lv_goto (tgt := 81) hx hb dX6_isTagged_77 (by decide) ?_
                  exact hret 81 ls 1 _ dX6_isTagged_81 rfl rfl (congrArg Value.int (by simp only [y_tag, if_pos c_7, if_pos c_32, if_pos c_60, if_pos c_73]))
            · -- 32 f
              refine lv_iload_n hx hb dX6_isTagged_35 rfl (lv_at hl 2 rfl) ?_
              refine lv_aload_n hx hb dX6_isTagged_36 rfl (lv_at hl 0 rfl) ?_
              refine lv_iload_n hx hb dX6_isTagged_37 rfl (lv_at hl 1 rfl) ?_
              refine lv_iload_n hx hb dX6_isTagged_38 rfl (lv_at hl 3 rfl) ?_
              refine zVR (As := [.int x, .int (nI j)]) (rest := [.int (y_mdN x f tb (z_rdigN 0 ke 8) j)]) ⟨hx, hb, hml, hown, hts⟩ (k_X6_manifestByte l D cI am ke ve f tb tl p r lf k a im md x j (by omega)) (cwV 2 hts gX6_isTagged_X6_manifestByte rfl rfl rfl (by decide +kernel) ⟨Nat.le_of_ble_eq_true rfl, Nat.le_of_ble_eq_true rfl⟩) hP hK hN [0, 1, 2, 3, 4] rfl (va_recv hK hP (ci := 6) (q0 := 0) rfl rfl) rfl hl.1 rfl (Nat.le_of_ble_eq_true rfl) dX6_isTagged_39 ⟨Nat.zero_le _, Nat.zero_le _⟩ ?_
              refine zSR (As := [.int (y_mdN x f tb (z_rdigN 0 ke 8) j), .int (y_mb x f tb j)]) (rest := []) ⟨hx, hb, hml, hown, hts⟩ (k_X6_digested l D cI (y_mdN x f tb (z_rdigN 0 ke 8) j) (y_mb x f tb j)) (va_cwS 2 hts gX6_isTagged_X6_digested rfl rfl rfl (by decide +kernel) ⟨Nat.le_of_ble_eq_true rfl, Nat.le_of_ble_eq_true rfl⟩) hP hK hN [] rfl rfl hl.1 rfl (Nat.le_of_ble_eq_true rfl) dX6_isTagged_42 ⟨Nat.zero_le _, Nat.zero_le _⟩ ?_
              refine lv_istore_n (lv' := [(2, .int (z_digB (y_mdN x f tb (z_rdigN 0 ke 8) j) (y_mb x f tb j))), (0, .ref (am 0)), (1, .int x), (3, .int (nI j))]) hx hb dX6_isTagged_45 rfl hl (by decide) rfl (fun ls hl => ?_)
              refine lv_iinc (v := (nI (j + 1))) (lv' := [(3, .int (nI (j + 1))), (2, .int (z_digB (y_mdN x f tb (z_rdigN 0 ke 8) j) (y_mb x f tb j))), (0, .ref (am 0)), (1, .int x)]) hx hb dX6_isTagged_46 hl (k := 3) rfl (z_inc _ _ rfl) (by decide) rfl (fun ls hl => ?_)
              refine lv_goto (tgt := 29) hx hb dX6_isTagged_49 (by decide) ?_
              exact ih_29 (j + 1) _ (by omega) (by omega) (lv_sub hl [2, 3, 1, 0] rfl)
        exact lp_29 _ 0 _ (by omega) (Nat.lt_succ_self _) (lv_sub hl [1, 2, 3, 0] rfl)
      · -- 7 f
        refine lv_iload_n hx hb dX6_isTagged_10 rfl (lv_at hl 2 rfl) ?_
        refine lv_aload_n hx hb dX6_isTagged_11 rfl (lv_at hl 0 rfl) ?_
        refine va_get (D := D) (ci := 6) (v := .ref (am 2)) (C := RX6) (T := TX6) (N := 13) hx hb hts iX6_isTagged_X6 hown hK hP 0 rfl rfl 2 (by decide) (hts _ qX6_isTagged_1) (fun _ h9 => h9) rfl dX6_isTagged_12 ?_
        refine lv_iload_n hx hb dX6_isTagged_15 rfl (lv_at hl 3 rfl) ?_
        refine z_iald hx hb hK hP 2 0 rfl rfl i rfl (by omega) (by decide) dX6_isTagged_16 ?_
        refine zSR (As := [.int (z_rdigN 0 ke i), .int (ke i)]) (rest := []) ⟨hx, hb, hml, hown, hts⟩ (k_X6_digested l D cI (z_rdigN 0 ke i) (ke i)) (va_cwS 2 hts gX6_isTagged_X6_digested rfl rfl rfl (by decide +kernel) ⟨Nat.le_of_ble_eq_true rfl, Nat.le_of_ble_eq_true rfl⟩) hP hK hN [] rfl rfl hl.1 rfl (Nat.le_of_ble_eq_true rfl) dX6_isTagged_17 ⟨Nat.zero_le _, Nat.zero_le _⟩ ?_
        refine lv_istore_n (lv' := [(2, .int (z_digB (z_rdigN 0 ke i) (ke i))), (0, .ref (am 0)), (1, .int x), (3, .int (nI i))]) hx hb dX6_isTagged_20 rfl hl (by decide) rfl (fun ls hl => ?_)
        refine lv_iinc (v := (nI (i + 1))) (lv' := [(3, .int (nI (i + 1))), (2, .int (z_digB (z_rdigN 0 ke i) (ke i))), (0, .ref (am 0)), (1, .int x)]) hx hb dX6_isTagged_21 hl (k := 3) rfl (z_inc _ _ rfl) (by decide) rfl (fun ls hl => ?_)
        refine lv_goto (tgt := 4) hx hb dX6_isTagged_24 (by decide) ?_
        exact ih_4 (i + 1) _ (by omega) (by omega) (lv_sub hl [2, 3, 1, 0] rfl)
  exact lp_4 _ 0 _ (by omega) (Nat.lt_succ_self _) (lv_sub hl [2, 3, 1, 0] rfl)
abbrev rm_X6_isRight : Room := { frames := 3, cells := 0, slots := 0, locals := 69 }
set_option maxHeartbeats 4000000 in
set_option maxRecDepth 100000 in
theorem k_X6_isRight (l : Launch) (D : va_G) (cI : ClassId) (am : Nat → Nat) (ke : RW) (ve : Int32) (f : RW) (tb : RW) (tl : Nat) (p : Int32) (r : Int32) (lf : Int32) (k : Int32) (a : Int32) (im : RW) (md : Nat)   : zMR l D cI yX6_isRight wsX6_isRight rm_X6_isRight [.ref (am 0)] (mW cI am ke ve f tb tl p r lf k a im md) (.int (y_right ke ve f tb)) := by
  refine zEntR (cc := cX6_isRight) (maxL := 1) (ret := (some .boolean)) (own := RX6) (lvs := [(0, .ref (am 0))]) (by decide) rfl rfl rfl rfl (Nat.le_of_ble_eq_true rfl) rfl ?_
  intro p0 e s m args below meth c Q ls hx hb hml hts hown hP hK hN hl hret hretA
  refine lv_aload_n hx hb dX6_isRight_0 rfl (lv_at hl 0 rfl) ?_
  refine lv_iconst (v := 0) hx hb dX6_isRight_1 (by decide) ?_
  refine zVR (As := [.int 0]) (rest := []) ⟨hx, hb, hml, hown, hts⟩ (k_X6_isInRange l D cI am ke ve f tb tl p r lf k a im md 0) (cwV 1 hts gX6_isRight_X6_isInRange rfl rfl rfl (by decide +kernel) ⟨Nat.le_of_ble_eq_true rfl, Nat.le_of_ble_eq_true rfl⟩) hP hK hN [0, 1, 2, 3, 4] rfl (va_recv hK hP (ci := 6) (q0 := 0) rfl rfl) rfl hl.1 rfl (Nat.le_of_ble_eq_true rfl) dX6_isRight_2 ⟨Nat.zero_le _, Nat.zero_le _⟩ ?_
  refine lv_if_eq (tgt := 20) hx hb dX6_isRight_5 (by decide) (fun c_5 => ?_) (fun c_5 => ?_)
  · -- 5 t
    refine lv_iconst (v := 0) hx hb dX6_isRight_20 (by decide) ?_
    exact hret 21 ls 0 _ dX6_isRight_21 rfl rfl (congrArg Value.int (by simp only [y_right, if_pos c_5]))
  · -- 5 f
    refine lv_aload_n hx hb dX6_isRight_8 rfl (lv_at hl 0 rfl) ?_
    refine lv_iconst (v := 0) hx hb dX6_isRight_9 (by decide) ?_
    refine zVR (As := [.int 0]) (rest := []) ⟨hx, hb, hml, hown, hts⟩ (k_X6_isTagged l D cI am ke ve f tb tl p r lf k a im md 0) (cwV 1 hts gX6_isRight_X6_isTagged rfl rfl rfl (by decide +kernel) ⟨Nat.le_of_ble_eq_true rfl, Nat.le_of_ble_eq_true rfl⟩) hP hK hN [0, 1, 2, 3, 4] rfl (va_recv hK hP (ci := 6) (q0 := 0) rfl rfl) rfl hl.1 rfl (Nat.le_of_ble_eq_true rfl) dX6_isRight_10 ⟨Nat.zero_le _, Nat.zero_le _⟩ ?_
    refine lv_if_eq (tgt := 20) hx hb dX6_isRight_13 (by decide) (fun c_13 => ?_) (fun c_13 => ?_)
    · -- 13 t
      refine lv_iconst (v := 0) hx hb dX6_isRight_20 (by decide) ?_
      exact hret 21 ls 0 _ dX6_isRight_21 rfl rfl (congrArg Value.int (by simp only [y_right, if_neg c_5, if_pos c_13]))
    · -- 13 f
      refine lv_iconst (v := 1) hx hb dX6_isRight_16 (by decide) ?_
      refine lv_goto (tgt := 21) hx hb dX6_isRight_17 (by decide) ?_
      exact hret 21 ls 1 _ dX6_isRight_21 rfl rfl (congrArg Value.int (by simp only [y_right, if_neg c_5, if_neg c_13]))
abbrev rm_X6_isOld : Room := { frames := 2, cells := 0, slots := 0, locals := 44 }
set_option maxRecDepth 20000 in
theorem qX6_isOld_1 : (Cond.fieldLink RX6 23 "FlashBootModel" "runs" "I" : Cond) ∈ wsX6_isOld := List.mem_of_getElem? (i := 1) rfl
set_option maxRecDepth 20000 in
theorem iX6_isOld_X6 : ∀ w ∈ wsX60, w ∈ wsX6_isOld := by decide +kernel
set_option maxHeartbeats 4000000 in
set_option maxRecDepth 100000 in
theorem k_X6_isOld (l : Launch) (D : va_G) (cI : ClassId) (am : Nat → Nat) (ke : RW) (ve : Int32) (f : RW) (tb : RW) (tl : Nat) (p : Int32) (r : Int32) (lf : Int32) (k : Int32) (a : Int32) (im : RW) (md : Nat) (x : Int32) (hr : r = -7 ∨ ∃ j : Nat, j < 2 ∧ r = nI j) : zMR l D cI yX6_isOld wsX6_isOld rm_X6_isOld [.ref (am 0), .int x] (mW cI am ke ve f tb tl p r lf k a im md) (.int (y_old x f tb r)) := by
  refine zEntR (cc := cX6_isOld) (maxL := 3) (ret := (some .boolean)) (own := RX6) (lvs := [(0, .ref (am 0)), (1, .int x)]) (by decide) rfl rfl rfl rfl (Nat.le_of_ble_eq_true rfl) rfl ?_
  intro p0 e s m args below meth c Q ls hx hb hml hts hown hP hK hN hl hret hretA
  refine lv_aload_n hx hb dX6_isOld_0 rfl (lv_at hl 0 rfl) ?_
  refine lv_iload_n hx hb dX6_isOld_1 rfl (lv_at hl 1 rfl) ?_
  refine lv_iconst (v := 1) hx hb dX6_isOld_2 (by decide) ?_
  refine zVR (As := [.int x, .int 1]) (rest := []) ⟨hx, hb, hml, hown, hts⟩ (k_X6_manifestByte l D cI am ke ve f tb tl p r lf k a im md x 1 (by omega)) (cwV 2 hts gX6_isOld_X6_manifestByte rfl rfl rfl (by decide +kernel) ⟨Nat.le_of_ble_eq_true rfl, Nat.le_of_ble_eq_true rfl⟩) hP hK hN [0, 1, 2, 3, 4] rfl (va_recv hK hP (ci := 6) (q0 := 0) rfl rfl) rfl hl.1 rfl (Nat.le_of_ble_eq_true rfl) dX6_isOld_3 ⟨Nat.zero_le _, Nat.zero_le _⟩ ?_
  refine lv_istore_n (lv' := [(2, .int (y_mb x f tb 1)), (0, .ref (am 0)), (1, .int x)]) hx hb dX6_isOld_6 rfl hl (by decide) rfl (fun ls hl => ?_)
  refine lv_iload_n hx hb dX6_isOld_7 rfl (lv_at hl 0 rfl) ?_
  refine lv_aload_n hx hb dX6_isOld_8 rfl (lv_at hl 1 rfl) ?_
  refine zVR (As := []) (rest := [.int (y_mb x f tb 1)]) ⟨hx, hb, hml, hown, hts⟩ (k_X6_counterValue l D cI am ke ve f tb tl p r lf k a im md) (cwV 0 hts gX6_isOld_X6_counterValue rfl rfl rfl (by decide +kernel) ⟨Nat.le_of_ble_eq_true rfl, Nat.le_of_ble_eq_true rfl⟩) hP hK hN [0, 1, 2, 3, 4] rfl (va_recv hK hP (ci := 6) (q0 := 0) rfl rfl) rfl hl.1 rfl (Nat.le_of_ble_eq_true rfl) dX6_isOld_9 ⟨Nat.zero_le _, Nat.zero_le _⟩ ?_
  refine lv_icmp_le (tgt := 36) hx hb dX6_isOld_12 (by decide) (fun c_12 => ?_) (fun c_12 => ?_)
  · -- 12 t
    refine lv_iconst (v := 1) hx hb dX6_isOld_36 (by decide) ?_
    refine lv_goto (tgt := 41) hx hb dX6_isOld_37 (by decide) ?_
    exact hret 41 ls 1 _ dX6_isOld_41 rfl rfl (congrArg Value.int (by simp only [y_old, if_pos c_12]))
  · -- 12 f
    refine lv_aload_n hx hb dX6_isOld_15 rfl (lv_at hl 1 rfl) ?_
    refine va_get (D := D) (ci := 6) (v := .int r) (C := RX6) (T := TX6) (N := 13) hx hb hts iX6_isOld_X6 hown hK hP 0 rfl rfl 7 (by decide) (hts _ qX6_isOld_1) (fun _ h9 => h9) rfl dX6_isOld_16 ?_
    refine lv_bipush (v := (-7)) hx hb dX6_isOld_19 (by decide) ?_
    refine lv_icmp_eq (tgt := 36) hx hb dX6_isOld_21 (by decide) (fun c_21 => ?_) (fun c_21 => ?_)
    · -- 21 t
      refine lv_iconst (v := 1) hx hb dX6_isOld_36 (by decide) ?_
      refine lv_goto (tgt := 41) hx hb dX6_isOld_37 (by decide) ?_
      exact hret 41 ls 1 _ dX6_isOld_41 rfl rfl (congrArg Value.int (by simp only [y_old, if_neg c_12, if_pos c_21]))
    · -- 21 f
      obtain ⟨rj, hj, rfl⟩ := hr.resolve_left c_21
      refine lv_aload_n hx hb dX6_isOld_24 rfl (lv_at hl 1 rfl) ?_
      refine lv_aload_n hx hb dX6_isOld_25 rfl (lv_at hl 1 rfl) ?_
      refine va_get (D := D) (ci := 6) (v := .int (nI rj)) (C := RX6) (T := TX6) (N := 13) hx hb hts iX6_isOld_X6 hown hK hP 0 rfl rfl 7 (by decide) (hts _ qX6_isOld_1) (fun _ h9 => h9) rfl dX6_isOld_26 ?_
      refine zVR (As := [.int (nI rj)]) (rest := []) ⟨hx, hb, hml, hown, hts⟩ (k_X6_sequenceOf l D cI am ke ve f tb tl p (nI rj) lf k a im md rj (by omega)) (cwV 1 hts gX6_isOld_X6_sequenceOf rfl rfl rfl (by decide +kernel) ⟨Nat.le_of_ble_eq_true rfl, Nat.le_of_ble_eq_true rfl⟩) hP hK hN [0, 1, 2, 3, 4] rfl (va_recv hK hP (ci := 6) (q0 := 0) rfl rfl) rfl hl.1 rfl (Nat.le_of_ble_eq_true rfl) dX6_isOld_29 ⟨Nat.zero_le _, Nat.zero_le _⟩ ?_
      refine lv_iload_n hx hb dX6_isOld_32 rfl (lv_at hl 0 rfl) ?_
      refine lv_icmp_lt (tgt := 40) hx hb dX6_isOld_33 (by decide) (fun c_33 => ?_) (fun c_33 => ?_)
      · -- 33 t
        refine lv_iconst (v := 0) hx hb dX6_isOld_40 (by decide) ?_
        exact hret 41 ls 0 _ dX6_isOld_41 rfl rfl (congrArg Value.int (by simp only [y_old, nI_clamp (show rj < 2 ^ 31 by omega), if_neg c_12, if_neg c_21, if_pos c_33]))
      · -- 33 f
        refine lv_iconst (v := 1) hx hb dX6_isOld_36 (by decide) ?_
        refine lv_goto (tgt := 41) hx hb dX6_isOld_37 (by decide) ?_
        exact hret 41 ls 1 _ dX6_isOld_41 rfl rfl (congrArg Value.int (by simp only [y_old, nI_clamp (show rj < 2 ^ 31 by omega), if_neg c_12, if_neg c_21, if_neg c_33]))
abbrev rm_X6_manifest : Room := { frames := 3, cells := 0, slots := 0, locals := 69 }
set_option maxRecDepth 20000 in
theorem qX6_manifest_1 : (Cond.fieldLink RX6 36 "FlashBootModel" "thrown" "I" : Cond) ∈ wsX6_manifest := List.mem_of_getElem? (i := 1) rfl
set_option maxRecDepth 20000 in
theorem iX6_manifest_X6 : ∀ w ∈ wsX60, w ∈ wsX6_manifest := by decide +kernel
set_option maxRecDepth 20000 in
theorem qX6_manifest_2 : (Cond.fieldLink RX6 19 "FlashBootModel" "power" "Z" : Cond) ∈ wsX6_manifest := List.mem_of_getElem? (i := 2) rfl
set_option maxRecDepth 20000 in
theorem qX6_manifest_3 : (Cond.fieldLink RX6 74 "FlashBootModel" "length" "I" : Cond) ∈ wsX6_manifest := List.mem_of_getElem? (i := 3) rfl
set_option maxRecDepth 20000 in
theorem qX6_manifest_5 : (Cond.fieldLink RX6 16 "FlashBootModel" "tape" "[I" : Cond) ∈ wsX6_manifest := List.mem_of_getElem? (i := 5) rfl
set_option maxRecDepth 20000 in
theorem qX6_manifest_4 : (Cond.fieldLink RX6 7 "FlashBootModel" "flash" "[I" : Cond) ∈ wsX6_manifest := List.mem_of_getElem? (i := 4) rfl
set_option maxHeartbeats 4000000 in
set_option maxRecDepth 100000 in
theorem k_X6_manifest (l : Launch) (D : va_G) (cI : ClassId) (am : Nat → Nat) (ke : RW) (ve : Int32) (f : RW) (tb : RW) (tl : Nat) (p : Int32) (r : Int32) (lf : Int32) (k : Int32) (a : Int32) (im : RW) (md : Nat)  (htl : tl ≤ 192) (hr : r = -7 ∨ ∃ j : Nat, j < 2 ∧ r = nI j) : zMW (S := Int32 × RW × Int32 × Int32 × Int32 × Int32 × Nat) l D cI yX6_manifest wsX6_manifest rm_X6_manifest [.ref (am 0)] (mW cI am ke ve f tb tl p r lf k a im md) (y_manifest ke ve k tb tl (f, p, r, lf, a)) (fun u => some (.int u.1)) (fun u => mW cI am ke ve u.2.1 tb u.2.2.2.2.2.2 u.2.2.1 u.2.2.2.1 u.2.2.2.2.1 k u.2.2.2.2.2.1 im md) := by
  refine zEntW (cc := cX6_manifest) (maxL := 4) (ret := (some .int)) (own := RX6) (lvs := [(0, .ref (am 0))]) (by decide) rfl rfl (Nat.le_of_ble_eq_true rfl) rfl ?_
  intro p0 e s m args below meth c Q ls A hx hb hml hts hown hP hK hN hD hS hA hl hret hretV
  refine lv_aload_n hx hb dX6_manifest_0 rfl (lv_at hl 0 rfl) ?_
  refine lv_iconst (v := 0) hx hb dX6_manifest_1 (by decide) ?_
  refine va_put (D := D) (ci := 6) (v := .int 0) (ty := .int) (C := RX6) (T := TX6) (N := 13) hx hb hts iX6_manifest_X6 tyX6 tyX6_ok nmX6 hown hK hP hD hS 0 rfl rfl 0 (by decide) (hts _ qX6_manifest_1) (fun _ h9 => h9) rfl (by decide +kernel) rfl rfl (Nat.le_of_ble_eq_true rfl) dX6_manifest_2 (fun H locs hP hD hS => ?_)
  have hP : va_P D vwCl (mW cI am ke ve f tb tl p r lf k a im md) _ := hP
  have hD : va_D A (mW cI am ke ve f tb tl p r lf k a im md) := hD
  refine lv_aload_n hx hb dX6_manifest_5 rfl (lv_at hl 0 rfl) ?_
  refine va_get (D := D) (ci := 6) (v := .int p) (C := RX6) (T := TX6) (N := 13) hx hb hts iX6_manifest_X6 hown hK hP 0 rfl rfl 6 (by decide) (hts _ qX6_manifest_2) (fun _ h9 => h9) rfl dX6_manifest_6 ?_
  refine lv_if_ne (tgt := 15) hx hb dX6_manifest_9 (by decide) (fun c_9 => ?_) (fun c_9 => ?_)
  · -- 9 t
    refine lv_aload_n hx hb dX6_manifest_15 rfl (lv_at hl 0 rfl) ?_
    refine va_get (D := D) (ci := 6) (v := .int (nI tl)) (C := RX6) (T := TX6) (N := 13) hx hb hts iX6_manifest_X6 hown hK hP 0 rfl rfl 5 (by decide) (hts _ qX6_manifest_3) (fun _ h9 => h9) rfl dX6_manifest_16 ?_
    refine lv_istore_n (lv' := [(1, .int (nI tl)), (0, .ref (am 0))]) hx hb dX6_manifest_19 rfl hl (by decide) rfl (fun ls hl => ?_)
    refine lv_aload_n hx hb dX6_manifest_20 rfl (lv_at hl 1 rfl) ?_
    refine lv_iconst (v := 0) hx hb dX6_manifest_21 (by decide) ?_
    refine va_put (D := D) (ci := 6) (v := .int 0) (ty := .int) (C := RX6) (T := TX6) (N := 13) hx hb hts iX6_manifest_X6 tyX6 tyX6_ok nmX6 hown hK hP hD hS 0 rfl rfl 5 (by decide) (hts _ qX6_manifest_3) (fun _ h9 => h9) rfl (by decide +kernel) rfl rfl (Nat.le_of_ble_eq_true rfl) dX6_manifest_22 (fun H locs hP hD hS => ?_)
    have hP : va_P D vwCl (mW cI am ke ve f tb 0 p r lf k a im md) _ := hP
    have hD : va_D A (mW cI am ke ve f tb 0 p r lf k a im md) := hD
    refine lv_iload_n hx hb dX6_manifest_25 rfl (lv_at hl 0 rfl) ?_
    refine lv_bipush (v := 20) hx hb dX6_manifest_26 (by decide) ?_
    refine z_icmp_ne (tgt := 39) hx hb dX6_manifest_28 (by decide) tl 20 rfl rfl (by omega) (by omega) (fun c_28 => ?_) (fun c_28 => ?_)
    · -- 28 t
      refine lv_iconst (v := (-1)) hx hb dX6_manifest_39 (by decide) ?_
      exact hret 40 ls _ _ ((-1), f, p, r, lf, a, 0) (-1) _ dX6_manifest_40 rfl rfl rfl (by simp only [y_manifest, y_man, y_fin, if_neg c_9, if_neg c_28]) hP hS
    · -- 28 f
      refine lv_aload_n hx hb dX6_manifest_31 rfl (lv_at hl 1 rfl) ?_
      refine lv_iconst (v := 1) hx hb dX6_manifest_32 (by decide) ?_
      refine zVR (As := [.int 1]) (rest := []) ⟨hx, hb, hml, hown, hts⟩ (k_X6_isInRange l D cI am ke ve f tb 0 p r lf k a im md 1) (cwV 1 hts gX6_manifest_X6_isInRange rfl rfl rfl (by decide +kernel) ⟨Nat.le_of_ble_eq_true rfl, Nat.le_of_ble_eq_true rfl⟩) hP hK hN [0, 1, 2, 3, 4] rfl (va_recv hK hP (ci := 6) (q0 := 0) rfl rfl) rfl hl.1 rfl (Nat.le_of_ble_eq_true rfl) dX6_manifest_33 ⟨Nat.zero_le _, Nat.zero_le _⟩ ?_
      refine lv_if_ne (tgt := 41) hx hb dX6_manifest_36 (by decide) (fun c_36 => ?_) (fun c_36 => ?_)
      · -- 36 t
        refine lv_aload_n hx hb dX6_manifest_41 rfl (lv_at hl 1 rfl) ?_
        refine lv_iconst (v := 1) hx hb dX6_manifest_42 (by decide) ?_
        refine zVR (As := [.int 1]) (rest := []) ⟨hx, hb, hml, hown, hts⟩ (k_X6_isTagged l D cI am ke ve f tb 0 p r lf k a im md 1) (cwV 1 hts gX6_manifest_X6_isTagged rfl rfl rfl (by decide +kernel) ⟨Nat.le_of_ble_eq_true rfl, Nat.le_of_ble_eq_true rfl⟩) hP hK hN [0, 1, 2, 3, 4] rfl (va_recv hK hP (ci := 6) (q0 := 0) rfl rfl) rfl hl.1 rfl (Nat.le_of_ble_eq_true rfl) dX6_manifest_43 ⟨Nat.zero_le _, Nat.zero_le _⟩ ?_
        refine lv_if_ne (tgt := 52) hx hb dX6_manifest_46 (by decide) (fun c_46 => ?_) (fun c_46 => ?_)
        · -- 46 t
          refine lv_aload_n hx hb dX6_manifest_52 rfl (lv_at hl 1 rfl) ?_
          refine lv_iconst (v := 1) hx hb dX6_manifest_53 (by decide) ?_
          refine zVR (As := [.int 1]) (rest := []) ⟨hx, hb, hml, hown, hts⟩ (k_X6_isOld l D cI am ke ve f tb 0 p r lf k a im md 1 hr) (cwV 1 hts gX6_manifest_X6_isOld rfl rfl rfl (by decide +kernel) ⟨Nat.le_of_ble_eq_true rfl, Nat.le_of_ble_eq_true rfl⟩) hP hK hN [0, 1, 2, 3, 4] rfl (va_recv hK hP (ci := 6) (q0 := 0) rfl rfl) rfl hl.1 rfl (Nat.le_of_ble_eq_true rfl) dX6_manifest_54 ⟨Nat.zero_le _, Nat.zero_le _⟩ ?_
          refine lv_if_eq (tgt := 63) hx hb dX6_manifest_57 (by decide) (fun c_57 => ?_) (fun c_57 => ?_)
          · -- 57 t
            refine lv_iconst (v := 1) hx hb dX6_manifest_63 (by decide) ?_
            refine lv_istore_n (lv' := [(2, .int 1), (1, .int (nI tl)), (0, .ref (am 0))]) hx hb dX6_manifest_64 rfl hl (by decide) rfl (fun ls hl => ?_)
            refine lv_iconst (v := 0) hx hb dX6_manifest_65 (by decide) ?_
            refine lv_istore_n (lv' := [(3, .int 0), (2, .int 1), (1, .int (nI tl)), (0, .ref (am 0))]) hx hb dX6_manifest_66 rfl hl (by decide) rfl (fun ls hl => ?_)
            have lp_67 : ∀ (g_67 : Nat) (i : Nat) (H : Heap) (locs : List Loc) (ls : Array Slot), i ≤ 20 → 20 - i < g_67 → va_P D vwCl (mW cI am ke ve f tb 0 p r lf k a im md) H → va_D A (mW cI am ke ve f tb 0 p r lf k a im md) → va_S A s.heap H locs → lv_has ls 4 [(0, .ref (am 0)), (1, .int (nI tl)), (2, .int (y_sameN f tb i)), (3, .int (nI i))] → W p0 l e rm_X6_manifest s m args below meth c H locs 0 0 Q (F0 m 67 ls []) := by
              intro g_67
              induction g_67 with
              | zero => intro i H locs ls h1 h9_67; exact absurd h9_67 (Nat.not_lt_zero _)
              | succ g_67 ih_67 =>
                intro i H locs ls h1 h9_67 hP hD hS hl
                refine lv_iload_n hx hb dX6_manifest_67 rfl (lv_at hl 3 rfl) ?_
                refine lv_bipush (v := 20) hx hb dX6_manifest_68 (by decide) ?_
                refine z_icmp_ge (tgt := 108) hx hb dX6_manifest_70 (by decide) i 20 rfl rfl (by omega) (by omega) (fun c_70 => ?_) (fun c_70 => ?_)
                · -- 70 t
                  obtain rfl : i = 20 := by omega
                  refine lv_iload_n hx hb dX6_manifest_108 rfl (lv_at hl 2 rfl) ?_
                  refine lv_if_eq (tgt := 114) hx hb dX6_manifest_109 (by decide) (fun c_109 => ?_) (fun c_109 => ?_)
                  · -- 109 t
                    refine lv_aload_n hx hb dX6_manifest_114 rfl (lv_at hl 0 rfl) ?_
                    refine lv_bipush (v := 21) hx hb dX6_manifest_115 (by decide) ?_
                    refine zVW (ws' := fun u => mW cI am ke ve u.1 tb 0 u.2.1 u.2.2.1 u.2.2.2.1 k u.2.2.2.2 im md) (As := [.int 21]) (rest := []) ⟨hx, hb, hml, hown, hts⟩ (k_X6_erase l D cI am ke ve f tb 0 p r lf k a im md 21 (by omega)) (cwV 1 hts gX6_manifest_X6_erase rfl rfl rfl (by decide +kernel) ⟨Nat.le_of_ble_eq_true rfl, Nat.le_of_ble_eq_true rfl⟩) hP hK hN hD hS hA [0, 1, 2, 3, 4] [] [] rfl (by decide) rfl (fun _ => rfl) (fun _ => rfl) (fun _ => rfl) rfl (va_recv hK hP (ci := 6) (q0 := 0) rfl rfl) rfl hl.1 rfl (Nat.le_of_ble_eq_true rfl) dX6_manifest_117 ⟨Nat.zero_le _, Nat.zero_le _⟩ (fun u_117 H locs hu_117 hP hD hS => ?_)
                    obtain ⟨f_117, p_117, r_117, lf_117, a_117⟩ := u_117
                    have hP : va_P D vwCl (mW cI am ke ve f_117 tb 0 p_117 r_117 lf_117 k a_117 im md) _ := hP
                    have hD : va_D A (mW cI am ke ve f_117 tb 0 p_117 r_117 lf_117 k a_117 im md) := hD
                    refine W.eq (g2 := F0 m 120 ls []) rfl ?_
                    refine lv_aload_n hx hb dX6_manifest_120 rfl (lv_at hl 0 rfl) ?_
                    refine lv_bipush (v := 20) hx hb dX6_manifest_121 (by decide) ?_
                    refine zVW (ws' := fun u => mW cI am ke ve u.1 tb 0 u.2.1 u.2.2.1 u.2.2.2.1 k u.2.2.2.2 im md) (As := [.int 20]) (rest := []) ⟨hx, hb, hml, hown, hts⟩ (k_X6_erase l D cI am ke ve f_117 tb 0 p_117 r_117 lf_117 k a_117 im md 20 (by omega)) (cwV 1 hts gX6_manifest_X6_erase rfl rfl rfl (by decide +kernel) ⟨Nat.le_of_ble_eq_true rfl, Nat.le_of_ble_eq_true rfl⟩) hP hK hN hD hS hA [0, 1, 2, 3, 4] [] [] rfl (by decide) rfl (fun _ => rfl) (fun _ => rfl) (fun _ => rfl) rfl (va_recv hK hP (ci := 6) (q0 := 0) rfl rfl) rfl hl.1 rfl (Nat.le_of_ble_eq_true rfl) dX6_manifest_123 ⟨Nat.zero_le _, Nat.zero_le _⟩ (fun u_123 H locs hu_123 hP hD hS => ?_)
                    obtain ⟨f_123, p_123, r_123, lf_123, a_123⟩ := u_123
                    have hP : va_P D vwCl (mW cI am ke ve f_123 tb 0 p_123 r_123 lf_123 k a_123 im md) _ := hP
                    have hD : va_D A (mW cI am ke ve f_123 tb 0 p_123 r_123 lf_123 k a_123 im md) := hD
                    refine W.eq (g2 := F0 m 126 ls []) rfl ?_
                    refine lv_bipush (v := 14) hx hb dX6_manifest_126 (by decide) ?_
                    refine lv_istore_n (lv' := [(3, .int 14), (0, .ref (am 0)), (1, .int (nI tl)), (2, .int (y_sameN f tb 20))]) hx hb dX6_manifest_128 rfl hl (by decide) rfl (fun ls hl => ?_)
                    have lp_129 : ∀ (g_129 : Nat) (i : Nat) (f9 : RW) (p9 : Int32) (r9 : Int32) (l9 : Int32) (a9 : Int32) (H : Heap) (locs : List Loc) (ls : Array Slot), i ≤ 6 → (f9, p9, r9, l9, a9) = y_eUpN k 14 (y_erase k 20 (y_erase k 21 (f, p, r, lf, a))) i → 6 - i < g_129 → va_P D vwCl (mW cI am ke ve f9 tb 0 p9 r9 l9 k a9 im md) H → va_D A (mW cI am ke ve f9 tb 0 p9 r9 l9 k a9 im md) → va_S A s.heap H locs → lv_has ls 4 [(0, .ref (am 0)), (1, .int (nI tl)), (2, .int (y_sameN f tb 20)), (3, .int (nI (14 + i)))] → W p0 l e rm_X6_manifest s m args below meth c H locs 0 0 Q (F0 m 129 ls []) := by
                      intro g_129
                      induction g_129 with
                      | zero => intro i f9 p9 r9 l9 a9 H locs ls h1 hy h9_129; exact absurd h9_129 (Nat.not_lt_zero _)
                      | succ g_129 ih_129 =>
                        intro i f9 p9 r9 l9 a9 H locs ls h1 hy h9_129 hP hD hS hl
                        refine lv_iload_n hx hb dX6_manifest_129 rfl (lv_at hl 3 rfl) ?_
                        refine lv_bipush (v := 20) hx hb dX6_manifest_130 (by decide) ?_
                        refine z_icmp_ge (tgt := 146) hx hb dX6_manifest_132 (by decide) (14 + i) 20 rfl rfl (by omega) (by omega) (fun c_132 => ?_) (fun c_132 => ?_)
                        · -- 132 t
                          refine lv_iconst (v := 0) hx hb dX6_manifest_146 (by decide) ?_
                          refine lv_istore_n (lv' := [(3, .int 0), (0, .ref (am 0)), (1, .int (nI tl)), (2, .int (y_sameN f tb 20))]) hx hb dX6_manifest_147 rfl hl (by decide) rfl (fun ls hl => ?_)
                          have lp_148 : ∀ (g_148 : Nat) (j : Nat) (f8 : RW) (p8 : Int32) (r8 : Int32) (l8 : Int32) (a8 : Int32) (H : Heap) (locs : List Loc) (ls : Array Slot), j ≤ 20 → (f8, p8, r8, l8, a8) = y_rowN k 640 tb (y_eUpN k 14 (y_erase k 20 (y_erase k 21 (f, p, r, lf, a))) 6) j → 20 - j < g_148 → va_P D vwCl (mW cI am ke ve f8 tb 0 p8 r8 l8 k a8 im md) H → va_D A (mW cI am ke ve f8 tb 0 p8 r8 l8 k a8 im md) → va_S A s.heap H locs → lv_has ls 4 [(0, .ref (am 0)), (1, .int (nI tl)), (2, .int (y_sameN f tb 20)), (3, .int (nI j))] → W p0 l e rm_X6_manifest s m args below meth c H locs 0 0 Q (F0 m 148 ls []) := by
                            intro g_148
                            induction g_148 with
                            | zero => intro j f8 p8 r8 l8 a8 H locs ls h2 hz h9_148; exact absurd h9_148 (Nat.not_lt_zero _)
                            | succ g_148 ih_148 =>
                              intro j f8 p8 r8 l8 a8 H locs ls h2 hz h9_148 hP hD hS hl
                              refine lv_iload_n hx hb dX6_manifest_148 rfl (lv_at hl 3 rfl) ?_
                              refine lv_bipush (v := 20) hx hb dX6_manifest_149 (by decide) ?_
                              refine z_icmp_ge (tgt := 175) hx hb dX6_manifest_151 (by decide) j 20 rfl rfl (by omega) (by omega) (fun c_151 => ?_) (fun c_151 => ?_)
                              · -- 151 t
                                obtain rfl : j = 20 := by omega
                                refine lv_aload_n hx hb dX6_manifest_175 rfl (lv_at hl 0 rfl) ?_
                                refine va_get (D := D) (ci := 6) (v := .int p8) (C := RX6) (T := TX6) (N := 13) hx hb hts iX6_manifest_X6 hown hK hP 0 rfl rfl 6 (by decide) (hts _ qX6_manifest_2) (fun _ h9 => h9) rfl dX6_manifest_176 ?_
                                refine lv_if_eq (tgt := 186) hx hb dX6_manifest_179 (by decide) (fun c_179 => ?_) (fun c_179 => ?_)
                                · -- 179 t
                                  refine lv_bipush (v := (-2)) hx hb dX6_manifest_186 (by decide) ?_
                                  exact hret 188 ls _ _ ((-2), f8, p8, r8, l8, a8, 0) (-2) _ dX6_manifest_188 rfl rfl rfl (by simp only [y_manifest, if_neg c_9, if_pos c_28, if_neg c_36, if_neg c_46, if_pos c_57, if_pos c_109, y_man, ← hz, y_fin, if_pos c_179]) hP hS
                                · -- 179 f
                                  refine lv_iconst (v := 0) hx hb dX6_manifest_182 (by decide) ?_
                                  refine lv_goto (tgt := 188) hx hb dX6_manifest_183 (by decide) ?_
                                  exact hret 188 ls _ _ (0, f8, p8, r8, l8, a8, 0) 0 _ dX6_manifest_188 rfl rfl rfl (by simp only [y_manifest, if_neg c_9, if_pos c_28, if_neg c_36, if_neg c_46, if_pos c_57, if_pos c_109, y_man, ← hz, y_fin, if_neg c_179]) hP hS
                              · -- 151 f
                                refine lv_aload_n hx hb dX6_manifest_154 rfl (lv_at hl 0 rfl) ?_
                                refine lv_sipush (v := 640) hx hb dX6_manifest_155 (by decide) ?_
                                refine lv_iload_n hx hb dX6_manifest_158 rfl (lv_at hl 3 rfl) ?_
                                refine lv_iadd hx hb dX6_manifest_159 ?_
                                refine z_top (v := nI (640 + j)) (nI_add 640 j) ?_
                                refine lv_aload_n hx hb dX6_manifest_160 rfl (lv_at hl 0 rfl) ?_
                                refine va_get (D := D) (ci := 6) (v := .ref (am 3)) (C := RX6) (T := TX6) (N := 13) hx hb hts iX6_manifest_X6 hown hK hP 0 rfl rfl 4 (by decide) (hts _ qX6_manifest_5) (fun _ h9 => h9) rfl dX6_manifest_161 ?_
                                refine lv_iload_n hx hb dX6_manifest_164 rfl (lv_at hl 3 rfl) ?_
                                refine z_iald hx hb hK hP 3 0 rfl rfl j rfl (by omega) (by decide) dX6_manifest_165 ?_
                                refine zVW (ws' := fun u => mW cI am ke ve u.1 tb 0 u.2.1 u.2.2.1 u.2.2.2.1 k u.2.2.2.2 im md) (As := [.int (nI (640 + j)), .int (tb j)]) (rest := []) ⟨hx, hb, hml, hown, hts⟩ (k_X6_program l D cI am ke ve f8 tb 0 p8 r8 l8 k a8 im md (640 + j) (tb j) (by omega)) (cwV 2 hts gX6_manifest_X6_program rfl rfl rfl (by decide +kernel) ⟨Nat.le_of_ble_eq_true rfl, Nat.le_of_ble_eq_true rfl⟩) hP hK hN hD hS hA [0, 1, 2, 3, 4] [] [] rfl (by decide) rfl (fun _ => rfl) (fun _ => rfl) (fun _ => rfl) rfl (va_recv hK hP (ci := 6) (q0 := 0) rfl rfl) rfl hl.1 rfl (Nat.le_of_ble_eq_true rfl) dX6_manifest_166 ⟨Nat.zero_le _, Nat.zero_le _⟩ (fun u_166 H locs hu_166 hP hD hS => ?_)
                                obtain ⟨f_166, p_166, r_166, lf_166, a_166⟩ := u_166
                                have hP : va_P D vwCl (mW cI am ke ve f_166 tb 0 p_166 r_166 lf_166 k a_166 im md) _ := hP
                                have hD : va_D A (mW cI am ke ve f_166 tb 0 p_166 r_166 lf_166 k a_166 im md) := hD
                                refine W.eq (g2 := F0 m 169 ls []) rfl ?_
                                refine lv_iinc (v := (nI (j + 1))) (lv' := [(3, .int (nI (j + 1))), (0, .ref (am 0)), (1, .int (nI tl)), (2, .int (y_sameN f tb 20))]) hx hb dX6_manifest_169 hl (k := 3) rfl (z_inc _ _ rfl) (by decide) rfl (fun ls hl => ?_)
                                refine lv_goto (tgt := 148) hx hb dX6_manifest_172 (by decide) ?_
                                exact ih_148 (j + 1) f_166 p_166 r_166 lf_166 a_166 _ _ _ (by omega) (by rw [hu_166, y_rowN, ← hz]) (by omega) hP hD hS (lv_sub hl [1, 2, 3, 0] rfl)
                          exact lp_148 _ 0 f9 p9 r9 l9 a9 _ _ _ (by omega) (by rw [y_rowN, show 6 = i by omega]; exact hy) (Nat.lt_succ_self _) hP hD hS (lv_sub hl [1, 2, 3, 0] rfl)
                        · -- 132 f
                          refine lv_aload_n hx hb dX6_manifest_135 rfl (lv_at hl 0 rfl) ?_
                          refine lv_iload_n hx hb dX6_manifest_136 rfl (lv_at hl 3 rfl) ?_
                          refine zVW (ws' := fun u => mW cI am ke ve u.1 tb 0 u.2.1 u.2.2.1 u.2.2.2.1 k u.2.2.2.2 im md) (As := [.int (nI (14 + i))]) (rest := []) ⟨hx, hb, hml, hown, hts⟩ (k_X6_erase l D cI am ke ve f9 tb 0 p9 r9 l9 k a9 im md (14 + i) (by omega)) (cwV 1 hts gX6_manifest_X6_erase rfl rfl rfl (by decide +kernel) ⟨Nat.le_of_ble_eq_true rfl, Nat.le_of_ble_eq_true rfl⟩) hP hK hN hD hS hA [0, 1, 2, 3, 4] [] [] rfl (by decide) rfl (fun _ => rfl) (fun _ => rfl) (fun _ => rfl) rfl (va_recv hK hP (ci := 6) (q0 := 0) rfl rfl) rfl hl.1 rfl (Nat.le_of_ble_eq_true rfl) dX6_manifest_137 ⟨Nat.zero_le _, Nat.zero_le _⟩ (fun u_137 H locs hu_137 hP hD hS => ?_)
                          obtain ⟨f_137, p_137, r_137, lf_137, a_137⟩ := u_137
                          have hP : va_P D vwCl (mW cI am ke ve f_137 tb 0 p_137 r_137 lf_137 k a_137 im md) _ := hP
                          have hD : va_D A (mW cI am ke ve f_137 tb 0 p_137 r_137 lf_137 k a_137 im md) := hD
                          refine W.eq (g2 := F0 m 140 ls []) rfl ?_
                          refine lv_iinc (v := (nI ((14 + i) + 1))) (lv' := [(3, .int (nI ((14 + i) + 1))), (0, .ref (am 0)), (1, .int (nI tl)), (2, .int (y_sameN f tb 20))]) hx hb dX6_manifest_140 hl (k := 3) rfl (z_inc _ _ rfl) (by decide) rfl (fun ls hl => ?_)
                          refine lv_goto (tgt := 129) hx hb dX6_manifest_143 (by decide) ?_
                          exact ih_129 (i + 1) f_137 p_137 r_137 lf_137 a_137 _ _ _ (by omega) (by rw [hu_137, y_eUpN, ← hy]) (by omega) hP hD hS (lv_sub hl [1, 2, 3, 0] rfl)
                    exact lp_129 _ 0 f_123 p_123 r_123 lf_123 a_123 _ _ _ (by omega) (by rw [y_eUpN, ← hu_117, ← hu_123]) (Nat.lt_succ_self _) hP hD hS (lv_sub hl [1, 2, 3, 0] rfl)
                  · -- 109 f
                    refine lv_iconst (v := 1) hx hb dX6_manifest_112 (by decide) ?_
                    exact hret 113 ls _ _ (1, f, p, r, lf, a, 0) 1 _ dX6_manifest_113 rfl rfl rfl (by simp only [y_manifest, y_man, y_fin, if_neg c_9, if_pos c_28, if_neg c_36, if_neg c_46, if_pos c_57, if_pos c_70, if_neg c_109]) hP hS
                · -- 70 f
                  refine lv_iload_n hx hb dX6_manifest_73 rfl (lv_at hl 2 rfl) ?_
                  refine lv_if_eq (tgt := 100) hx hb dX6_manifest_74 (by decide) (fun c_74 => ?_) (fun c_74 => ?_)
                  · -- 74 t
                    refine lv_iconst (v := 0) hx hb dX6_manifest_100 (by decide) ?_
                    refine z_top (v := y_sameN f tb (i + 1)) (by simp only [y_sameN, if_pos c_74]) ?_
                    refine lv_istore_n (lv' := [(2, .int (y_sameN f tb (i + 1))), (0, .ref (am 0)), (1, .int (nI tl)), (3, .int (nI i))]) hx hb dX6_manifest_101 rfl hl (by decide) rfl (fun ls hl => ?_)
                    refine lv_iinc (v := (nI (i + 1))) (lv' := [(3, .int (nI (i + 1))), (2, .int (y_sameN f tb (i + 1))), (0, .ref (am 0)), (1, .int (nI tl))]) hx hb dX6_manifest_102 hl (k := 3) rfl (z_inc _ _ rfl) (by decide) rfl (fun ls hl => ?_)
                    refine lv_goto (tgt := 67) hx hb dX6_manifest_105 (by decide) ?_
                    exact ih_67 (i + 1) _ _ _ (by omega) (by omega) hP hD hS (lv_sub hl [2, 3, 1, 0] rfl)
                  · -- 74 f
                    refine lv_aload_n hx hb dX6_manifest_77 rfl (lv_at hl 0 rfl) ?_
                    refine va_get (D := D) (ci := 6) (v := .ref (am 1)) (C := RX6) (T := TX6) (N := 13) hx hb hts iX6_manifest_X6 hown hK hP 0 rfl rfl 1 (by decide) (hts _ qX6_manifest_4) (fun _ h9 => h9) rfl dX6_manifest_78 ?_
                    refine lv_sipush (v := 640) hx hb dX6_manifest_81 (by decide) ?_
                    refine lv_iload_n hx hb dX6_manifest_84 rfl (lv_at hl 3 rfl) ?_
                    refine lv_iadd hx hb dX6_manifest_85 ?_
                    refine z_top (v := nI (640 + i)) (nI_add 640 i) ?_
                    refine z_iald hx hb hK hP 1 0 rfl rfl (640 + i) rfl (by omega) (by decide) dX6_manifest_86 ?_
                    refine lv_aload_n hx hb dX6_manifest_87 rfl (lv_at hl 0 rfl) ?_
                    refine va_get (D := D) (ci := 6) (v := .ref (am 3)) (C := RX6) (T := TX6) (N := 13) hx hb hts iX6_manifest_X6 hown hK hP 0 rfl rfl 4 (by decide) (hts _ qX6_manifest_5) (fun _ h9 => h9) rfl dX6_manifest_88 ?_
                    refine lv_iload_n hx hb dX6_manifest_91 rfl (lv_at hl 3 rfl) ?_
                    refine z_iald hx hb hK hP 3 0 rfl rfl i rfl (by omega) (by decide) dX6_manifest_92 ?_
                    refine lv_icmp_ne (tgt := 100) hx hb dX6_manifest_93 (by decide) (fun c_93 => ?_) (fun c_93 => ?_)
                    · -- 93 t
                      refine lv_iconst (v := 0) hx hb dX6_manifest_100 (by decide) ?_
                      refine z_top (v := y_sameN f tb (i + 1)) (by simp only [y_sameN, if_neg c_74, if_neg c_93]) ?_
                      refine lv_istore_n (lv' := [(2, .int (y_sameN f tb (i + 1))), (0, .ref (am 0)), (1, .int (nI tl)), (3, .int (nI i))]) hx hb dX6_manifest_101 rfl hl (by decide) rfl (fun ls hl => ?_)
                      refine lv_iinc (v := (nI (i + 1))) (lv' := [(3, .int (nI (i + 1))), (2, .int (y_sameN f tb (i + 1))), (0, .ref (am 0)), (1, .int (nI tl))]) hx hb dX6_manifest_102 hl (k := 3) rfl (z_inc _ _ rfl) (by decide) rfl (fun ls hl => ?_)
                      refine lv_goto (tgt := 67) hx hb dX6_manifest_105 (by decide) ?_
                      exact ih_67 (i + 1) _ _ _ (by omega) (by omega) hP hD hS (lv_sub hl [2, 3, 1, 0] rfl)
                    · -- 93 f
                      refine lv_iconst (v := 1) hx hb dX6_manifest_96 (by decide) ?_
                      refine lv_goto (tgt := 101) hx hb dX6_manifest_97 (by decide) ?_
                      refine z_top (v := y_sameN f tb (i + 1)) (by simp only [y_sameN, if_neg c_74, if_pos c_93]) ?_
                      refine lv_istore_n (lv' := [(2, .int (y_sameN f tb (i + 1))), (0, .ref (am 0)), (1, .int (nI tl)), (3, .int (nI i))]) hx hb dX6_manifest_101 rfl hl (by decide) rfl (fun ls hl => ?_)
                      refine lv_iinc (v := (nI (i + 1))) (lv' := [(3, .int (nI (i + 1))), (2, .int (y_sameN f tb (i + 1))), (0, .ref (am 0)), (1, .int (nI tl))]) hx hb dX6_manifest_102 hl (k := 3) rfl (z_inc _ _ rfl) (by decide) rfl (fun ls hl => ?_)
                      refine lv_goto (tgt := 67) hx hb dX6_manifest_105 (by decide) ?_
                      exact ih_67 (i + 1) _ _ _ (by omega) (by omega) hP hD hS (lv_sub hl [2, 3, 1, 0] rfl)
            exact lp_67 _ 0 _ _ _ (by omega) (Nat.lt_succ_self _) hP hD hS (lv_sub hl [3, 2, 1, 0] rfl)
          · -- 57 f
            refine lv_bipush (v := (-3)) hx hb dX6_manifest_60 (by decide) ?_
            exact hret 62 ls _ _ ((-3), f, p, r, lf, a, 0) (-3) _ dX6_manifest_62 rfl rfl rfl (by simp only [y_manifest, y_man, y_fin, if_neg c_9, if_pos c_28, if_neg c_36, if_neg c_46, if_neg c_57]) hP hS
        · -- 46 f
          refine lv_bipush (v := (-4)) hx hb dX6_manifest_49 (by decide) ?_
          exact hret 51 ls _ _ ((-4), f, p, r, lf, a, 0) (-4) _ dX6_manifest_51 rfl rfl rfl (by simp only [y_manifest, y_man, y_fin, if_neg c_9, if_pos c_28, if_neg c_36, if_pos c_46]) hP hS
      · -- 36 f
        refine lv_iconst (v := (-1)) hx hb dX6_manifest_39 (by decide) ?_
        exact hret 40 ls _ _ ((-1), f, p, r, lf, a, 0) (-1) _ dX6_manifest_40 rfl rfl rfl (by simp only [y_manifest, y_man, y_fin, if_neg c_9, if_pos c_28, if_pos c_36]) hP hS
  · -- 9 f
    refine lv_bipush (v := (-2)) hx hb dX6_manifest_12 (by decide) ?_
    exact hret 14 ls _ _ ((-2), f, p, r, lf, a, tl) (-2) _ dX6_manifest_14 rfl rfl rfl (by simp only [y_manifest, y_man, y_fin, if_pos c_9]) hP hS
abbrev rm_X6_blocks : Room := { frames := 0, cells := 0, slots := 0, locals := 0 }
set_option maxRecDepth 20000 in
theorem qX6_blocks_1 : (Cond.fieldLink RX6 7 "FlashBootModel" "flash" "[I" : Cond) ∈ wsX6_blocks := List.mem_of_getElem? (i := 1) rfl
set_option maxRecDepth 20000 in
theorem iX6_blocks_X6 : ∀ w ∈ wsX60, w ∈ wsX6_blocks := by decide +kernel
set_option maxHeartbeats 4000000 in
set_option maxRecDepth 100000 in
theorem k_X6_blocks (l : Launch) (D : va_G) (cI : ClassId) (am : Nat → Nat) (ke : RW) (ve : Int32) (f : RW) (tb : RW) (tl : Nat) (p : Int32) (r : Int32) (lf : Int32) (k : Int32) (a : Int32) (im : RW) (md : Nat)   : zMR l D cI yX6_blocks wsX6_blocks rm_X6_blocks [.ref (am 0)] (mW cI am ke ve f tb tl p r lf k a im md) (.int (y_blks f)) := by
  refine zEntR (cc := cX6_blocks) (maxL := 1) (ret := (some .int)) (own := RX6) (lvs := [(0, .ref (am 0))]) (by decide) rfl rfl rfl rfl (Nat.le_of_ble_eq_true rfl) rfl ?_
  intro p0 e s m args below meth c Q ls hx hb hml hts hown hP hK hN hl hret hretA
  refine lv_aload_n hx hb dX6_blocks_0 rfl (lv_at hl 0 rfl) ?_
  refine va_get (D := D) (ci := 6) (v := .ref (am 1)) (C := RX6) (T := TX6) (N := 13) hx hb hts iX6_blocks_X6 hown hK hP 0 rfl rfl 1 (by decide) (hts _ qX6_blocks_1) (fun _ h9 => h9) rfl dX6_blocks_1 ?_
  refine lv_sipush (v := 646) hx hb dX6_blocks_4 (by decide) ?_
  refine z_iald hx hb hK hP 1 0 rfl rfl 646 rfl (by omega) (by decide) dX6_blocks_7 ?_
  refine lv_bipush (v := 15) hx hb dX6_blocks_8 (by decide) ?_
  refine lv_iadd hx hb dX6_blocks_10 ?_
  refine lv_bipush (v := 16) hx hb dX6_blocks_11 (by decide) ?_
  refine lv_idiv hx hb dX6_blocks_13 (by decide) ?_
  exact hret 14 ls (((f 646) + 15) / 16) _ dX6_blocks_14 rfl rfl (congrArg Value.int (by rfl))
abbrev rm_X6_block : Room := { frames := 4, cells := 0, slots := 0, locals := 89 }
set_option maxRecDepth 20000 in
theorem qX6_block_1 : (Cond.fieldLink RX6 36 "FlashBootModel" "thrown" "I" : Cond) ∈ wsX6_block := List.mem_of_getElem? (i := 1) rfl
set_option maxRecDepth 20000 in
theorem iX6_block_X6 : ∀ w ∈ wsX60, w ∈ wsX6_block := by decide +kernel
set_option maxRecDepth 20000 in
theorem qX6_block_2 : (Cond.fieldLink RX6 19 "FlashBootModel" "power" "Z" : Cond) ∈ wsX6_block := List.mem_of_getElem? (i := 2) rfl
set_option maxRecDepth 20000 in
theorem qX6_block_3 : (Cond.fieldLink RX6 7 "FlashBootModel" "flash" "[I" : Cond) ∈ wsX6_block := List.mem_of_getElem? (i := 3) rfl
set_option maxRecDepth 20000 in
theorem qX6_block_4 : (Cond.fieldLink RX6 74 "FlashBootModel" "length" "I" : Cond) ∈ wsX6_block := List.mem_of_getElem? (i := 4) rfl
set_option maxRecDepth 20000 in
theorem qX6_block_5 : (Cond.fieldLink RX6 16 "FlashBootModel" "tape" "[I" : Cond) ∈ wsX6_block := List.mem_of_getElem? (i := 5) rfl
set_option maxHeartbeats 4000000 in
set_option maxRecDepth 100000 in
theorem k_X6_block (l : Launch) (D : va_G) (cI : ClassId) (am : Nat → Nat) (ke : RW) (ve : Int32) (f : RW) (tb : RW) (tl : Nat) (p : Int32) (r : Int32) (lf : Int32) (k : Int32) (a : Int32) (im : RW) (md : Nat) (x : Int32) (htl : tl ≤ 192) : zMW (S := Int32 × RW × Int32 × Int32 × Int32 × Int32 × Nat) l D cI yX6_block wsX6_block rm_X6_block [.ref (am 0), .int x] (mW cI am ke ve f tb tl p r lf k a im md) (y_block ke ve k x tb tl (f, p, r, lf, a)) (fun u => some (.int u.1)) (fun u => mW cI am ke ve u.2.1 tb u.2.2.2.2.2.2 u.2.2.1 u.2.2.2.1 u.2.2.2.2.1 k u.2.2.2.2.2.1 im md) := by
  refine zEntW (cc := cX6_block) (maxL := 4) (ret := (some .int)) (own := RX6) (lvs := [(0, .ref (am 0)), (1, .int x)]) (by decide) rfl rfl (Nat.le_of_ble_eq_true rfl) rfl ?_
  intro p0 e s m args below meth c Q ls A hx hb hml hts hown hP hK hN hD hS hA hl hret hretV
  refine lv_aload_n hx hb dX6_block_0 rfl (lv_at hl 0 rfl) ?_
  refine lv_iconst (v := 0) hx hb dX6_block_1 (by decide) ?_
  refine va_put (D := D) (ci := 6) (v := .int 0) (ty := .int) (C := RX6) (T := TX6) (N := 13) hx hb hts iX6_block_X6 tyX6 tyX6_ok nmX6 hown hK hP hD hS 0 rfl rfl 0 (by decide) (hts _ qX6_block_1) (fun _ h9 => h9) rfl (by decide +kernel) rfl rfl (Nat.le_of_ble_eq_true rfl) dX6_block_2 (fun H locs hP hD hS => ?_)
  have hP : va_P D vwCl (mW cI am ke ve f tb tl p r lf k a im md) _ := hP
  have hD : va_D A (mW cI am ke ve f tb tl p r lf k a im md) := hD
  refine lv_aload_n hx hb dX6_block_5 rfl (lv_at hl 0 rfl) ?_
  refine va_get (D := D) (ci := 6) (v := .int p) (C := RX6) (T := TX6) (N := 13) hx hb hts iX6_block_X6 hown hK hP 0 rfl rfl 6 (by decide) (hts _ qX6_block_2) (fun _ h9 => h9) rfl dX6_block_6 ?_
  refine lv_if_ne (tgt := 15) hx hb dX6_block_9 (by decide) (fun c_9 => ?_) (fun c_9 => ?_)
  · -- 9 t
    refine lv_aload_n hx hb dX6_block_15 rfl (lv_at hl 0 rfl) ?_
    refine zVR (As := []) (rest := []) ⟨hx, hb, hml, hown, hts⟩ (k_X6_isRight l D cI am ke ve f tb tl p r lf k a im md) (cwV 0 hts gX6_block_X6_isRight rfl rfl rfl (by decide +kernel) ⟨Nat.le_of_ble_eq_true rfl, Nat.le_of_ble_eq_true rfl⟩) hP hK hN [0, 1, 2, 3, 4] rfl (va_recv hK hP (ci := 6) (q0 := 0) rfl rfl) rfl hl.1 rfl (Nat.le_of_ble_eq_true rfl) dX6_block_16 ⟨Nat.zero_le _, Nat.zero_le _⟩ ?_
    refine lv_if_eq (tgt := 34) hx hb dX6_block_19 (by decide) (fun c_19 => ?_) (fun c_19 => ?_)
    · -- 19 t
      refine lv_iconst (v := (-1)) hx hb dX6_block_34 (by decide) ?_
      exact hret 35 ls _ _ ((-1), f, p, r, lf, a, tl) (-1) _ dX6_block_35 rfl rfl rfl (by simp only [y_block, if_neg c_9, if_pos c_19]) hP hS
    · -- 19 f
      refine lv_iload_n hx hb dX6_block_22 rfl (lv_at hl 1 rfl) ?_
      refine lv_if_lt (tgt := 34) hx hb dX6_block_23 (by decide) (fun c_23 => ?_) (fun c_23 => ?_)
      · -- 23 t
        refine lv_iconst (v := (-1)) hx hb dX6_block_34 (by decide) ?_
        exact hret 35 ls _ _ ((-1), f, p, r, lf, a, tl) (-1) _ dX6_block_35 rfl rfl rfl (by simp only [y_block, if_neg c_9, if_neg c_19, if_pos c_23]) hP hS
      · -- 23 f
        refine lv_iload_n hx hb dX6_block_26 rfl (lv_at hl 1 rfl) ?_
        refine lv_aload_n hx hb dX6_block_27 rfl (lv_at hl 0 rfl) ?_
        refine zVR (As := []) (rest := [.int x]) ⟨hx, hb, hml, hown, hts⟩ (k_X6_blocks l D cI am ke ve f tb tl p r lf k a im md) (cwV 0 hts gX6_block_X6_blocks rfl rfl rfl (by decide +kernel) ⟨Nat.le_of_ble_eq_true rfl, Nat.le_of_ble_eq_true rfl⟩) hP hK hN [0, 1, 2, 3, 4] rfl (va_recv hK hP (ci := 6) (q0 := 0) rfl rfl) rfl hl.1 rfl (Nat.le_of_ble_eq_true rfl) dX6_block_28 ⟨Nat.zero_le _, Nat.zero_le _⟩ ?_
        refine lv_icmp_lt (tgt := 36) hx hb dX6_block_31 (by decide) (fun c_31 => ?_) (fun c_31 => ?_)
        · -- 31 t
          obtain ⟨xj, hj1, hj2, rfl⟩ := y_blkIx c_19 c_23 c_31
          obtain ⟨⟨e1, e2, e3⟩, -⟩ := y_rng6 (y_right0 c_19)
          refine lv_iload_n hx hb dX6_block_36 rfl (lv_at hl 1 rfl) ?_
          refine lv_iconst (v := 1) hx hb dX6_block_37 (by decide) ?_
          refine lv_iadd hx hb dX6_block_38 ?_
          refine z_top (v := nI (xj + 1)) (nI_add xj 1) ?_
          refine lv_aload_n hx hb dX6_block_39 rfl (lv_at hl 0 rfl) ?_
          refine zVR (As := []) (rest := [.int (nI (xj + 1))]) ⟨hx, hb, hml, hown, hts⟩ (k_X6_blocks l D cI am ke ve f tb tl p r lf k a im md) (cwV 0 hts gX6_block_X6_blocks rfl rfl rfl (by decide +kernel) ⟨Nat.le_of_ble_eq_true rfl, Nat.le_of_ble_eq_true rfl⟩) hP hK hN [0, 1, 2, 3, 4] rfl (va_recv hK hP (ci := 6) (q0 := 0) rfl rfl) rfl hl.1 rfl (Nat.le_of_ble_eq_true rfl) dX6_block_40 ⟨Nat.zero_le _, Nat.zero_le _⟩ ?_
          refine lv_icmp_ge (tgt := 51) hx hb dX6_block_43 (by decide) (fun c_43 => ?_) (fun c_43 => ?_)
          · -- 43 t
            refine lv_aload_n hx hb dX6_block_51 rfl (lv_at hl 0 rfl) ?_
            refine va_get (D := D) (ci := 6) (v := .ref (am 1)) (C := RX6) (T := TX6) (N := 13) hx hb hts iX6_block_X6 hown hK hP 0 rfl rfl 1 (by decide) (hts _ qX6_block_3) (fun _ h9 => h9) rfl dX6_block_52 ?_
            refine lv_sipush (v := 646) hx hb dX6_block_55 (by decide) ?_
            refine z_iald hx hb hK hP 1 0 rfl rfl 646 rfl (by omega) (by decide) dX6_block_58 ?_
            refine z_top (v := nI (zb f 646)) (e1) ?_
            refine lv_bipush (v := 16) hx hb dX6_block_59 (by decide) ?_
            refine lv_iload_n hx hb dX6_block_61 rfl (lv_at hl 1 rfl) ?_
            refine lv_imul hx hb dX6_block_62 ?_
            refine z_top (v := nI (16 * xj)) (pk_mul 16 xj) ?_
            refine lv_isub hx hb dX6_block_63 ?_
            refine z_top (v := nI (zb f 646 - 16 * xj)) (z_sub1 (by omega)) ?_
            refine lv_istore_n (lv' := [(2, .int (nI (zb f 646 - 16 * xj))), (0, .ref (am 0)), (1, .int (nI xj))]) hx hb dX6_block_64 rfl hl (by decide) rfl (fun ls hl => ?_)
            refine lv_aload_n hx hb dX6_block_65 rfl (lv_at hl 1 rfl) ?_
            refine va_get (D := D) (ci := 6) (v := .int (nI tl)) (C := RX6) (T := TX6) (N := 13) hx hb hts iX6_block_X6 hown hK hP 0 rfl rfl 5 (by decide) (hts _ qX6_block_4) (fun _ h9 => h9) rfl dX6_block_66 ?_
            refine lv_iload_n hx hb dX6_block_69 rfl (lv_at hl 0 rfl) ?_
            refine z_icmp_eq (tgt := 75) hx hb dX6_block_70 (by decide) tl (zb f 646 - 16 * xj) rfl rfl (by omega) (by omega) (fun c_70 => ?_) (fun c_70 => ?_)
            · -- 70 t
              refine lv_aload_n hx hb dX6_block_75 rfl (lv_at hl 1 rfl) ?_
              refine lv_iconst (v := 0) hx hb dX6_block_76 (by decide) ?_
              refine va_put (D := D) (ci := 6) (v := .int 0) (ty := .int) (C := RX6) (T := TX6) (N := 13) hx hb hts iX6_block_X6 tyX6 tyX6_ok nmX6 hown hK hP hD hS 0 rfl rfl 5 (by decide) (hts _ qX6_block_4) (fun _ h9 => h9) rfl (by decide +kernel) rfl rfl (Nat.le_of_ble_eq_true rfl) dX6_block_77 (fun H locs hP hD hS => ?_)
              have hP : va_P D vwCl (mW cI am ke ve f tb 0 p r lf k a im md) _ := hP
              have hD : va_D A (mW cI am ke ve f tb 0 p r lf k a im md) := hD
              refine lv_aload_n hx hb dX6_block_80 rfl (lv_at hl 1 rfl) ?_
              refine va_get (D := D) (ci := 6) (v := .ref (am 1)) (C := RX6) (T := TX6) (N := 13) hx hb hts iX6_block_X6 hown hK hP 0 rfl rfl 1 (by decide) (hts _ qX6_block_3) (fun _ h9 => h9) rfl dX6_block_81 ?_
              refine lv_sipush (v := 672) hx hb dX6_block_84 (by decide) ?_
              refine lv_iload_n hx hb dX6_block_87 rfl (lv_at hl 2 rfl) ?_
              refine lv_iadd hx hb dX6_block_88 ?_
              refine z_top (v := nI (672 + xj)) (nI_add 672 xj) ?_
              refine z_iald hx hb hK hP 1 0 rfl rfl (672 + xj) rfl (by omega) (by decide) dX6_block_89 ?_
              refine lv_if_ne (tgt := 95) hx hb dX6_block_90 (by decide) (fun c_90 => ?_) (fun c_90 => ?_)
              · -- 90 t
                refine lv_iconst (v := 0) hx hb dX6_block_95 (by decide) ?_
                refine lv_istore_n (lv' := [(3, .int 0), (2, .int (nI (zb f 646 - 16 * xj))), (0, .ref (am 0)), (1, .int (nI xj))]) hx hb dX6_block_96 rfl hl (by decide) rfl (fun ls hl => ?_)
                have lp_97 : ∀ (g_97 : Nat) (i : Nat) (f9 : RW) (p9 : Int32) (r9 : Int32) (l9 : Int32) (a9 : Int32) (H : Heap) (locs : List Loc) (ls : Array Slot), i ≤ (zb f 646 - 16 * xj) → (f9, p9, r9, l9, a9) = y_rowN k (448 + 16 * xj) tb (f, p, r, lf, a) i → (zb f 646 - 16 * xj) - i < g_97 → va_P D vwCl (mW cI am ke ve f9 tb 0 p9 r9 l9 k a9 im md) H → va_D A (mW cI am ke ve f9 tb 0 p9 r9 l9 k a9 im md) → va_S A s.heap H locs → lv_has ls 4 [(0, .ref (am 0)), (1, .int (nI xj)), (2, .int (nI (zb f 646 - 16 * xj))), (3, .int (nI i))] → W p0 l e rm_X6_block s m args below meth c H locs 0 0 Q (F0 m 97 ls []) := by
                  intro g_97
                  induction g_97 with
                  | zero => intro i f9 p9 r9 l9 a9 H locs ls h1 hy h9_97; exact absurd h9_97 (Nat.not_lt_zero _)
                  | succ g_97 ih_97 =>
                    intro i f9 p9 r9 l9 a9 H locs ls h1 hy h9_97 hP hD hS hl
                    refine lv_iload_n hx hb dX6_block_97 rfl (lv_at hl 3 rfl) ?_
                    refine lv_iload_n hx hb dX6_block_98 rfl (lv_at hl 2 rfl) ?_
                    refine z_icmp_ge (tgt := 128) hx hb dX6_block_99 (by decide) i (zb f 646 - 16 * xj) rfl rfl (by omega) (by omega) (fun c_99 => ?_) (fun c_99 => ?_)
                    · -- 99 t
                      have e9 : (zb f 646 - 16 * xj) = i := by omega
                      have hy9 : (f9, p9, r9, l9, a9) = y_rowN k (448 + 16 * xj) tb (f, p, r, lf, a) (zb f 646 - 16 * xj) := hy.trans (by rw [e9])
                      refine lv_aload_n hx hb dX6_block_128 rfl (lv_at hl 0 rfl) ?_
                      refine lv_sipush (v := 672) hx hb dX6_block_129 (by decide) ?_
                      refine lv_iload_n hx hb dX6_block_132 rfl (lv_at hl 1 rfl) ?_
                      refine lv_iadd hx hb dX6_block_133 ?_
                      refine z_top (v := nI (672 + xj)) (nI_add 672 xj) ?_
                      refine lv_iconst (v := 0) hx hb dX6_block_134 (by decide) ?_
                      refine zVW (ws' := fun u => mW cI am ke ve u.1 tb 0 u.2.1 u.2.2.1 u.2.2.2.1 k u.2.2.2.2 im md) (As := [.int (nI (672 + xj)), .int 0]) (rest := []) ⟨hx, hb, hml, hown, hts⟩ (k_X6_program l D cI am ke ve f9 tb 0 p9 r9 l9 k a9 im md (672 + xj) 0 (by omega)) (cwV 2 hts gX6_block_X6_program rfl rfl rfl (by decide +kernel) ⟨Nat.le_of_ble_eq_true rfl, Nat.le_of_ble_eq_true rfl⟩) hP hK hN hD hS hA [0, 1, 2, 3, 4] [] [] rfl (by decide) rfl (fun _ => rfl) (fun _ => rfl) (fun _ => rfl) rfl (va_recv hK hP (ci := 6) (q0 := 0) rfl rfl) rfl hl.1 rfl (Nat.le_of_ble_eq_true rfl) dX6_block_135 ⟨Nat.zero_le _, Nat.zero_le _⟩ (fun u_135 H locs hu_135 hP hD hS => ?_)
                      obtain ⟨f_135, p_135, r_135, lf_135, a_135⟩ := u_135
                      have hP : va_P D vwCl (mW cI am ke ve f_135 tb 0 p_135 r_135 lf_135 k a_135 im md) _ := hP
                      have hD : va_D A (mW cI am ke ve f_135 tb 0 p_135 r_135 lf_135 k a_135 im md) := hD
                      refine W.eq (g2 := F0 m 138 ls []) rfl ?_
                      refine lv_aload_n hx hb dX6_block_138 rfl (lv_at hl 0 rfl) ?_
                      refine va_get (D := D) (ci := 6) (v := .int p_135) (C := RX6) (T := TX6) (N := 13) hx hb hts iX6_block_X6 hown hK hP 0 rfl rfl 6 (by decide) (hts _ qX6_block_2) (fun _ h9 => h9) rfl dX6_block_139 ?_
                      refine lv_if_eq (tgt := 149) hx hb dX6_block_142 (by decide) (fun c_142 => ?_) (fun c_142 => ?_)
                      · -- 142 t
                        refine lv_bipush (v := (-2)) hx hb dX6_block_149 (by decide) ?_
                        exact hret 151 ls _ _ ((-2), f_135, p_135, r_135, lf_135, a_135, 0) (-2) _ dX6_block_151 rfl rfl rfl (by simp only [y_block, if_neg c_9, if_neg c_19, if_neg c_23, if_pos c_31, nI_clamp (show xj < 2 ^ 31 by omega), y_many, if_pos c_43, if_pos c_70, if_neg c_90, y_blk, ← hy9, ← hu_135, y_fin, if_pos c_142]) hP hS
                      · -- 142 f
                        refine lv_iconst (v := 1) hx hb dX6_block_145 (by decide) ?_
                        refine lv_goto (tgt := 151) hx hb dX6_block_146 (by decide) ?_
                        exact hret 151 ls _ _ (1, f_135, p_135, r_135, lf_135, a_135, 0) 1 _ dX6_block_151 rfl rfl rfl (by simp only [y_block, if_neg c_9, if_neg c_19, if_neg c_23, if_pos c_31, nI_clamp (show xj < 2 ^ 31 by omega), y_many, if_pos c_43, if_pos c_70, if_neg c_90, y_blk, ← hy9, ← hu_135, y_fin, if_neg c_142]) hP hS
                    · -- 99 f
                      refine lv_aload_n hx hb dX6_block_102 rfl (lv_at hl 0 rfl) ?_
                      refine lv_sipush (v := 448) hx hb dX6_block_103 (by decide) ?_
                      refine lv_bipush (v := 16) hx hb dX6_block_106 (by decide) ?_
                      refine lv_iload_n hx hb dX6_block_108 rfl (lv_at hl 1 rfl) ?_
                      refine lv_imul hx hb dX6_block_109 ?_
                      refine z_top (v := nI (16 * xj)) (pk_mul 16 xj) ?_
                      refine lv_iadd hx hb dX6_block_110 ?_
                      refine z_top (v := nI (448 + (16 * xj))) (nI_add 448 (16 * xj)) ?_
                      refine lv_iload_n hx hb dX6_block_111 rfl (lv_at hl 3 rfl) ?_
                      refine lv_iadd hx hb dX6_block_112 ?_
                      refine z_top (v := nI ((448 + (16 * xj)) + i)) (nI_add (448 + (16 * xj)) i) ?_
                      refine lv_aload_n hx hb dX6_block_113 rfl (lv_at hl 0 rfl) ?_
                      refine va_get (D := D) (ci := 6) (v := .ref (am 3)) (C := RX6) (T := TX6) (N := 13) hx hb hts iX6_block_X6 hown hK hP 0 rfl rfl 4 (by decide) (hts _ qX6_block_5) (fun _ h9 => h9) rfl dX6_block_114 ?_
                      refine lv_iload_n hx hb dX6_block_117 rfl (lv_at hl 3 rfl) ?_
                      refine z_iald hx hb hK hP 3 0 rfl rfl i rfl (by omega) (by decide) dX6_block_118 ?_
                      refine zVW (ws' := fun u => mW cI am ke ve u.1 tb 0 u.2.1 u.2.2.1 u.2.2.2.1 k u.2.2.2.2 im md) (As := [.int (nI ((448 + (16 * xj)) + i)), .int (tb i)]) (rest := []) ⟨hx, hb, hml, hown, hts⟩ (k_X6_program l D cI am ke ve f9 tb 0 p9 r9 l9 k a9 im md ((448 + (16 * xj)) + i) (tb i) (by omega)) (cwV 2 hts gX6_block_X6_program rfl rfl rfl (by decide +kernel) ⟨Nat.le_of_ble_eq_true rfl, Nat.le_of_ble_eq_true rfl⟩) hP hK hN hD hS hA [0, 1, 2, 3, 4] [] [] rfl (by decide) rfl (fun _ => rfl) (fun _ => rfl) (fun _ => rfl) rfl (va_recv hK hP (ci := 6) (q0 := 0) rfl rfl) rfl hl.1 rfl (Nat.le_of_ble_eq_true rfl) dX6_block_119 ⟨Nat.zero_le _, Nat.zero_le _⟩ (fun u_119 H locs hu_119 hP hD hS => ?_)
                      obtain ⟨f_119, p_119, r_119, lf_119, a_119⟩ := u_119
                      have hP : va_P D vwCl (mW cI am ke ve f_119 tb 0 p_119 r_119 lf_119 k a_119 im md) _ := hP
                      have hD : va_D A (mW cI am ke ve f_119 tb 0 p_119 r_119 lf_119 k a_119 im md) := hD
                      refine W.eq (g2 := F0 m 122 ls []) rfl ?_
                      refine lv_iinc (v := (nI (i + 1))) (lv' := [(3, .int (nI (i + 1))), (0, .ref (am 0)), (1, .int (nI xj)), (2, .int (nI (zb f 646 - 16 * xj)))]) hx hb dX6_block_122 hl (k := 3) rfl (z_inc _ _ rfl) (by decide) rfl (fun ls hl => ?_)
                      refine lv_goto (tgt := 97) hx hb dX6_block_125 (by decide) ?_
                      exact ih_97 (i + 1) f_119 p_119 r_119 lf_119 a_119 _ _ _ (by omega) (by rw [hu_119, y_rowN, ← hy]) (by omega) hP hD hS (lv_sub hl [1, 2, 3, 0] rfl)
                exact lp_97 _ 0 f p r lf a _ _ _ (Nat.zero_le _) rfl (Nat.lt_succ_self _) hP hD hS (lv_sub hl [2, 3, 1, 0] rfl)
              · -- 90 f
                refine lv_iconst (v := 0) hx hb dX6_block_93 (by decide) ?_
                exact hret 94 ls _ _ (0, f, p, r, lf, a, 0) 0 _ dX6_block_94 rfl rfl rfl (by simp only [y_block, if_neg c_9, if_neg c_19, if_neg c_23, if_pos c_31, nI_clamp (show xj < 2 ^ 31 by omega), y_many, if_pos c_43, if_pos c_70, if_pos c_90]) hP hS
            · -- 70 f
              refine lv_iconst (v := (-1)) hx hb dX6_block_73 (by decide) ?_
              exact hret 74 ls _ _ ((-1), f, p, r, lf, a, tl) (-1) _ dX6_block_74 rfl rfl rfl (by simp only [y_block, if_neg c_9, if_neg c_19, if_neg c_23, if_pos c_31, nI_clamp (show xj < 2 ^ 31 by omega), y_many, if_pos c_43, if_neg c_70]) hP hS
          · -- 43 f
            refine lv_bipush (v := 16) hx hb dX6_block_46 (by decide) ?_
            refine lv_goto (tgt := 64) hx hb dX6_block_48 (by decide) ?_
            refine lv_istore_n (lv' := [(2, .int 16), (0, .ref (am 0)), (1, .int (nI xj))]) hx hb dX6_block_64 rfl hl (by decide) rfl (fun ls hl => ?_)
            refine lv_aload_n hx hb dX6_block_65 rfl (lv_at hl 1 rfl) ?_
            refine va_get (D := D) (ci := 6) (v := .int (nI tl)) (C := RX6) (T := TX6) (N := 13) hx hb hts iX6_block_X6 hown hK hP 0 rfl rfl 5 (by decide) (hts _ qX6_block_4) (fun _ h9 => h9) rfl dX6_block_66 ?_
            refine lv_iload_n hx hb dX6_block_69 rfl (lv_at hl 0 rfl) ?_
            refine z_icmp_eq (tgt := 75) hx hb dX6_block_70 (by decide) tl 16 rfl rfl (by omega) (by omega) (fun c_70 => ?_) (fun c_70 => ?_)
            · -- 70 t
              refine lv_aload_n hx hb dX6_block_75 rfl (lv_at hl 1 rfl) ?_
              refine lv_iconst (v := 0) hx hb dX6_block_76 (by decide) ?_
              refine va_put (D := D) (ci := 6) (v := .int 0) (ty := .int) (C := RX6) (T := TX6) (N := 13) hx hb hts iX6_block_X6 tyX6 tyX6_ok nmX6 hown hK hP hD hS 0 rfl rfl 5 (by decide) (hts _ qX6_block_4) (fun _ h9 => h9) rfl (by decide +kernel) rfl rfl (Nat.le_of_ble_eq_true rfl) dX6_block_77 (fun H locs hP hD hS => ?_)
              have hP : va_P D vwCl (mW cI am ke ve f tb 0 p r lf k a im md) _ := hP
              have hD : va_D A (mW cI am ke ve f tb 0 p r lf k a im md) := hD
              refine lv_aload_n hx hb dX6_block_80 rfl (lv_at hl 1 rfl) ?_
              refine va_get (D := D) (ci := 6) (v := .ref (am 1)) (C := RX6) (T := TX6) (N := 13) hx hb hts iX6_block_X6 hown hK hP 0 rfl rfl 1 (by decide) (hts _ qX6_block_3) (fun _ h9 => h9) rfl dX6_block_81 ?_
              refine lv_sipush (v := 672) hx hb dX6_block_84 (by decide) ?_
              refine lv_iload_n hx hb dX6_block_87 rfl (lv_at hl 2 rfl) ?_
              refine lv_iadd hx hb dX6_block_88 ?_
              refine z_top (v := nI (672 + xj)) (nI_add 672 xj) ?_
              refine z_iald hx hb hK hP 1 0 rfl rfl (672 + xj) rfl (by omega) (by decide) dX6_block_89 ?_
              refine lv_if_ne (tgt := 95) hx hb dX6_block_90 (by decide) (fun c_90 => ?_) (fun c_90 => ?_)
              · -- 90 t
                refine lv_iconst (v := 0) hx hb dX6_block_95 (by decide) ?_
                refine lv_istore_n (lv' := [(3, .int 0), (2, .int 16), (0, .ref (am 0)), (1, .int (nI xj))]) hx hb dX6_block_96 rfl hl (by decide) rfl (fun ls hl => ?_)
                have lp_97 : ∀ (g_97 : Nat) (i : Nat) (f9 : RW) (p9 : Int32) (r9 : Int32) (l9 : Int32) (a9 : Int32) (H : Heap) (locs : List Loc) (ls : Array Slot), i ≤ 16 → (f9, p9, r9, l9, a9) = y_rowN k (448 + 16 * xj) tb (f, p, r, lf, a) i → 16 - i < g_97 → va_P D vwCl (mW cI am ke ve f9 tb 0 p9 r9 l9 k a9 im md) H → va_D A (mW cI am ke ve f9 tb 0 p9 r9 l9 k a9 im md) → va_S A s.heap H locs → lv_has ls 4 [(0, .ref (am 0)), (1, .int (nI xj)), (2, .int 16), (3, .int (nI i))] → W p0 l e rm_X6_block s m args below meth c H locs 0 0 Q (F0 m 97 ls []) := by
                  intro g_97
                  induction g_97 with
                  | zero => intro i f9 p9 r9 l9 a9 H locs ls h1 hy h9_97; exact absurd h9_97 (Nat.not_lt_zero _)
                  | succ g_97 ih_97 =>
                    intro i f9 p9 r9 l9 a9 H locs ls h1 hy h9_97 hP hD hS hl
                    refine lv_iload_n hx hb dX6_block_97 rfl (lv_at hl 3 rfl) ?_
                    refine lv_iload_n hx hb dX6_block_98 rfl (lv_at hl 2 rfl) ?_
                    refine z_icmp_ge (tgt := 128) hx hb dX6_block_99 (by decide) i 16 rfl rfl (by omega) (by omega) (fun c_99 => ?_) (fun c_99 => ?_)
                    · -- 99 t
                      have e9 : 16 = i := by omega
                      have hy9 : (f9, p9, r9, l9, a9) = y_rowN k (448 + 16 * xj) tb (f, p, r, lf, a) 16 := hy.trans (by rw [e9])
                      refine lv_aload_n hx hb dX6_block_128 rfl (lv_at hl 0 rfl) ?_
                      refine lv_sipush (v := 672) hx hb dX6_block_129 (by decide) ?_
                      refine lv_iload_n hx hb dX6_block_132 rfl (lv_at hl 1 rfl) ?_
                      refine lv_iadd hx hb dX6_block_133 ?_
                      refine z_top (v := nI (672 + xj)) (nI_add 672 xj) ?_
                      refine lv_iconst (v := 0) hx hb dX6_block_134 (by decide) ?_
                      refine zVW (ws' := fun u => mW cI am ke ve u.1 tb 0 u.2.1 u.2.2.1 u.2.2.2.1 k u.2.2.2.2 im md) (As := [.int (nI (672 + xj)), .int 0]) (rest := []) ⟨hx, hb, hml, hown, hts⟩ (k_X6_program l D cI am ke ve f9 tb 0 p9 r9 l9 k a9 im md (672 + xj) 0 (by omega)) (cwV 2 hts gX6_block_X6_program rfl rfl rfl (by decide +kernel) ⟨Nat.le_of_ble_eq_true rfl, Nat.le_of_ble_eq_true rfl⟩) hP hK hN hD hS hA [0, 1, 2, 3, 4] [] [] rfl (by decide) rfl (fun _ => rfl) (fun _ => rfl) (fun _ => rfl) rfl (va_recv hK hP (ci := 6) (q0 := 0) rfl rfl) rfl hl.1 rfl (Nat.le_of_ble_eq_true rfl) dX6_block_135 ⟨Nat.zero_le _, Nat.zero_le _⟩ (fun u_135 H locs hu_135 hP hD hS => ?_)
                      obtain ⟨f_135, p_135, r_135, lf_135, a_135⟩ := u_135
                      have hP : va_P D vwCl (mW cI am ke ve f_135 tb 0 p_135 r_135 lf_135 k a_135 im md) _ := hP
                      have hD : va_D A (mW cI am ke ve f_135 tb 0 p_135 r_135 lf_135 k a_135 im md) := hD
                      refine W.eq (g2 := F0 m 138 ls []) rfl ?_
                      refine lv_aload_n hx hb dX6_block_138 rfl (lv_at hl 0 rfl) ?_
                      refine va_get (D := D) (ci := 6) (v := .int p_135) (C := RX6) (T := TX6) (N := 13) hx hb hts iX6_block_X6 hown hK hP 0 rfl rfl 6 (by decide) (hts _ qX6_block_2) (fun _ h9 => h9) rfl dX6_block_139 ?_
                      refine lv_if_eq (tgt := 149) hx hb dX6_block_142 (by decide) (fun c_142 => ?_) (fun c_142 => ?_)
                      · -- 142 t
                        refine lv_bipush (v := (-2)) hx hb dX6_block_149 (by decide) ?_
                        exact hret 151 ls _ _ ((-2), f_135, p_135, r_135, lf_135, a_135, 0) (-2) _ dX6_block_151 rfl rfl rfl (by simp only [y_block, if_neg c_9, if_neg c_19, if_neg c_23, if_pos c_31, nI_clamp (show xj < 2 ^ 31 by omega), y_many, if_neg c_43, if_pos c_70, if_neg c_90, y_blk, ← hy9, ← hu_135, y_fin, if_pos c_142]) hP hS
                      · -- 142 f
                        refine lv_iconst (v := 1) hx hb dX6_block_145 (by decide) ?_
                        refine lv_goto (tgt := 151) hx hb dX6_block_146 (by decide) ?_
                        exact hret 151 ls _ _ (1, f_135, p_135, r_135, lf_135, a_135, 0) 1 _ dX6_block_151 rfl rfl rfl (by simp only [y_block, if_neg c_9, if_neg c_19, if_neg c_23, if_pos c_31, nI_clamp (show xj < 2 ^ 31 by omega), y_many, if_neg c_43, if_pos c_70, if_neg c_90, y_blk, ← hy9, ← hu_135, y_fin, if_neg c_142]) hP hS
                    · -- 99 f
                      refine lv_aload_n hx hb dX6_block_102 rfl (lv_at hl 0 rfl) ?_
                      refine lv_sipush (v := 448) hx hb dX6_block_103 (by decide) ?_
                      refine lv_bipush (v := 16) hx hb dX6_block_106 (by decide) ?_
                      refine lv_iload_n hx hb dX6_block_108 rfl (lv_at hl 1 rfl) ?_
                      refine lv_imul hx hb dX6_block_109 ?_
                      refine z_top (v := nI (16 * xj)) (pk_mul 16 xj) ?_
                      refine lv_iadd hx hb dX6_block_110 ?_
                      refine z_top (v := nI (448 + (16 * xj))) (nI_add 448 (16 * xj)) ?_
                      refine lv_iload_n hx hb dX6_block_111 rfl (lv_at hl 3 rfl) ?_
                      refine lv_iadd hx hb dX6_block_112 ?_
                      refine z_top (v := nI ((448 + (16 * xj)) + i)) (nI_add (448 + (16 * xj)) i) ?_
                      refine lv_aload_n hx hb dX6_block_113 rfl (lv_at hl 0 rfl) ?_
                      refine va_get (D := D) (ci := 6) (v := .ref (am 3)) (C := RX6) (T := TX6) (N := 13) hx hb hts iX6_block_X6 hown hK hP 0 rfl rfl 4 (by decide) (hts _ qX6_block_5) (fun _ h9 => h9) rfl dX6_block_114 ?_
                      refine lv_iload_n hx hb dX6_block_117 rfl (lv_at hl 3 rfl) ?_
                      refine z_iald hx hb hK hP 3 0 rfl rfl i rfl (by omega) (by decide) dX6_block_118 ?_
                      refine zVW (ws' := fun u => mW cI am ke ve u.1 tb 0 u.2.1 u.2.2.1 u.2.2.2.1 k u.2.2.2.2 im md) (As := [.int (nI ((448 + (16 * xj)) + i)), .int (tb i)]) (rest := []) ⟨hx, hb, hml, hown, hts⟩ (k_X6_program l D cI am ke ve f9 tb 0 p9 r9 l9 k a9 im md ((448 + (16 * xj)) + i) (tb i) (by omega)) (cwV 2 hts gX6_block_X6_program rfl rfl rfl (by decide +kernel) ⟨Nat.le_of_ble_eq_true rfl, Nat.le_of_ble_eq_true rfl⟩) hP hK hN hD hS hA [0, 1, 2, 3, 4] [] [] rfl (by decide) rfl (fun _ => rfl) (fun _ => rfl) (fun _ => rfl) rfl (va_recv hK hP (ci := 6) (q0 := 0) rfl rfl) rfl hl.1 rfl (Nat.le_of_ble_eq_true rfl) dX6_block_119 ⟨Nat.zero_le _, Nat.zero_le _⟩ (fun u_119 H locs hu_119 hP hD hS => ?_)
                      obtain ⟨f_119, p_119, r_119, lf_119, a_119⟩ := u_119
                      have hP : va_P D vwCl (mW cI am ke ve f_119 tb 0 p_119 r_119 lf_119 k a_119 im md) _ := hP
                      have hD : va_D A (mW cI am ke ve f_119 tb 0 p_119 r_119 lf_119 k a_119 im md) := hD
                      refine W.eq (g2 := F0 m 122 ls []) rfl ?_
                      refine lv_iinc (v := (nI (i + 1))) (lv' := [(3, .int (nI (i + 1))), (0, .ref (am 0)), (1, .int (nI xj)), (2, .int 16)]) hx hb dX6_block_122 hl (k := 3) rfl (z_inc _ _ rfl) (by decide) rfl (fun ls hl => ?_)
                      refine lv_goto (tgt := 97) hx hb dX6_block_125 (by decide) ?_
                      exact ih_97 (i + 1) f_119 p_119 r_119 lf_119 a_119 _ _ _ (by omega) (by rw [hu_119, y_rowN, ← hy]) (by omega) hP hD hS (lv_sub hl [1, 2, 3, 0] rfl)
                exact lp_97 _ 0 f p r lf a _ _ _ (Nat.zero_le _) rfl (Nat.lt_succ_self _) hP hD hS (lv_sub hl [2, 3, 1, 0] rfl)
              · -- 90 f
                refine lv_iconst (v := 0) hx hb dX6_block_93 (by decide) ?_
                exact hret 94 ls _ _ (0, f, p, r, lf, a, 0) 0 _ dX6_block_94 rfl rfl rfl (by simp only [y_block, if_neg c_9, if_neg c_19, if_neg c_23, if_pos c_31, nI_clamp (show xj < 2 ^ 31 by omega), y_many, if_neg c_43, if_pos c_70, if_pos c_90]) hP hS
            · -- 70 f
              refine lv_iconst (v := (-1)) hx hb dX6_block_73 (by decide) ?_
              exact hret 74 ls _ _ ((-1), f, p, r, lf, a, tl) (-1) _ dX6_block_74 rfl rfl rfl (by simp only [y_block, if_neg c_9, if_neg c_19, if_neg c_23, if_pos c_31, nI_clamp (show xj < 2 ^ 31 by omega), y_many, if_neg c_43, if_neg c_70]) hP hS
        · -- 31 f
          refine lv_iconst (v := (-1)) hx hb dX6_block_34 (by decide) ?_
          exact hret 35 ls _ _ ((-1), f, p, r, lf, a, tl) (-1) _ dX6_block_35 rfl rfl rfl (by simp only [y_block, if_neg c_9, if_neg c_19, if_neg c_23, if_neg c_31]) hP hS
  · -- 9 f
    refine lv_bipush (v := (-2)) hx hb dX6_block_12 (by decide) ?_
    exact hret 14 ls _ _ ((-2), f, p, r, lf, a, tl) (-2) _ dX6_block_14 rfl rfl rfl (by simp only [y_block, if_pos c_9]) hP hS
