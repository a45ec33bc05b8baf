abbrev rm_X6_add : Room := { frames := 0, cells := 0, slots := 0, locals := 0 }
set_option maxRecDepth 20000 in
theorem qX6_add_1 : (Cond.fieldLink RX6 124 "FlashBootModel" "made" "I" : Cond) ∈ wsX6_add := List.mem_of_getElem? (i := 1) rfl
set_option maxRecDepth 20000 in
theorem iX6_add_X6 : ∀ w ∈ wsX60, w ∈ wsX6_add := by decide +kernel
set_option maxRecDepth 20000 in
theorem qX6_add_2 : (Cond.fieldLink RX6 30 "FlashBootModel" "image" "[I" : Cond) ∈ wsX6_add := List.mem_of_getElem? (i := 2) rfl
set_option maxHeartbeats 4000000 in
set_option maxRecDepth 100000 in
theorem k_X6_add (l : Launch) (D : va_G) (cI : ClassId) (am : Nat → Nat) (ke : RW) (ve : Int32) (f : RW) (tb : RW) (tl : Nat) (p : Int32) (r : Int32) (lf : Int32) (k : Int32) (a : Int32) (im : RW) (md : Nat) (b : Int32) (hmd : md < 1000000) : zMW (S := RW × Nat) l D cI yX6_add wsX6_add rm_X6_add [.ref (am 0), .int b] (mW cI am ke ve f tb tl p r lf k a im md) (y_add b (im, md)) (fun _ => none) (fun u => mW cI am ke ve f tb tl p r lf k a u.1 u.2) := by
  refine zEntW (cc := cX6_add) (maxL := 2) (ret := none) (own := RX6) (lvs := [(0, .ref (am 0)), (1, .int b)]) (by decide) rfl rfl (Nat.le_of_ble_eq_true rfl) rfl ?_
  intro p0 e s m args below meth c Q ls A hx hb hml hts hown hP hK hN hD hS hA hl hret hretV
  refine lv_aload_n hx hb dX6_add_0 rfl (lv_at hl 0 rfl) ?_
  refine va_get (D := D) (ci := 6) (v := .int (nI md)) (C := RX6) (T := TX6) (N := 13) hx hb hts iX6_add_X6 hown hK hP 0 rfl rfl 12 (by decide) (hts _ qX6_add_1) (fun _ h9 => h9) rfl dX6_add_1 ?_
  refine lv_sipush (v := 192) hx hb dX6_add_4 (by decide) ?_
  refine z_icmp_ge (tgt := 20) hx hb dX6_add_7 (by decide) md 192 rfl rfl (by omega) (by omega) (fun c_7 => ?_) (fun c_7 => ?_)
  · -- 7 t
    refine lv_aload_n hx hb dX6_add_20 rfl (lv_at hl 0 rfl) ?_
    refine lv_dup hx hb dX6_add_21 rfl ?_
    refine va_get (D := D) (ci := 6) (v := .int (nI md)) (C := RX6) (T := TX6) (N := 13) hx hb hts iX6_add_X6 hown hK hP 0 rfl rfl 12 (by decide) (hts _ qX6_add_1) (fun _ h9 => h9) rfl dX6_add_22 ?_
    refine lv_iconst (v := 1) hx hb dX6_add_25 (by decide) ?_
    refine lv_iadd hx hb dX6_add_26 ?_
    refine z_top (v := nI (md + 1)) (nI_add md 1) ?_
    refine va_put (D := D) (ci := 6) (v := .int (nI (md + 1))) (ty := .int) (C := RX6) (T := TX6) (N := 13) hx hb hts iX6_add_X6 tyX6 tyX6_ok nmX6 hown hK hP hD hS 0 rfl rfl 12 (by decide) (hts _ qX6_add_1) (fun _ h9 => h9) rfl (by decide +kernel) rfl rfl (Nat.le_of_ble_eq_true rfl) dX6_add_27 (fun H locs hP hD hS => ?_)
    have hP : va_P D vwCl (mW cI am ke ve f tb tl p r lf k a im (md + 1)) _ := hP
    have hD : va_D A (mW cI am ke ve f tb tl p r lf k a im (md + 1)) := hD
    exact hretV 30 ls _ _ (im, (md + 1)) dX6_add_30 rfl rfl (by simp only [y_add, if_pos c_7]) hP hS
  · -- 7 f
    refine lv_aload_n hx hb dX6_add_10 rfl (lv_at hl 0 rfl) ?_
    refine va_get (D := D) (ci := 6) (v := .ref (am 4)) (C := RX6) (T := TX6) (N := 13) hx hb hts iX6_add_X6 hown hK hP 0 rfl rfl 11 (by decide) (hts _ qX6_add_2) (fun _ h9 => h9) rfl dX6_add_11 ?_
    refine lv_aload_n hx hb dX6_add_14 rfl (lv_at hl 0 rfl) ?_
    refine va_get (D := D) (ci := 6) (v := .int (nI md)) (C := RX6) (T := TX6) (N := 13) hx hb hts iX6_add_X6 hown hK hP 0 rfl rfl 12 (by decide) (hts _ qX6_add_1) (fun _ h9 => h9) rfl dX6_add_15 ?_
    refine lv_iload_n hx hb dX6_add_18 rfl (lv_at hl 1 rfl) ?_
    refine z_iast hx hb hK hP hD hS 4 0 rfl rfl md (rfl) (by omega) (by decide) dX6_add_19 (fun H locs hP hD hS => ?_)
    have hP : va_P D vwCl (mW cI am ke ve f tb tl p r lf k a (upd im md b) md) _ := hP
    have hD : va_D A (mW cI am ke ve f tb tl p r lf k a (upd im md b) md) := hD
    refine lv_aload_n hx hb dX6_add_20 rfl (lv_at hl 0 rfl) ?_
    refine lv_dup hx hb dX6_add_21 rfl ?_
    refine va_get (D := D) (ci := 6) (v := .int (nI md)) (C := RX6) (T := TX6) (N := 13) hx hb hts iX6_add_X6 hown hK hP 0 rfl rfl 12 (by decide) (hts _ qX6_add_1) (fun _ h9 => h9) rfl dX6_add_22 ?_
    refine lv_iconst (v := 1) hx hb dX6_add_25 (by decide) ?_
    refine lv_iadd hx hb dX6_add_26 ?_
    refine z_top (v := nI (md + 1)) (nI_add md 1) ?_
    refine va_put (D := D) (ci := 6) (v := .int (nI (md + 1))) (ty := .int) (C := RX6) (T := TX6) (N := 13) hx hb hts iX6_add_X6 tyX6 tyX6_ok nmX6 hown hK hP hD hS 0 rfl rfl 12 (by decide) (hts _ qX6_add_1) (fun _ h9 => h9) rfl (by decide +kernel) rfl rfl (Nat.le_of_ble_eq_true rfl) dX6_add_27 (fun H locs hP hD hS => ?_)
    have hP : va_P D vwCl (mW cI am ke ve f tb tl p r lf k a (upd im md b) (md + 1)) _ := hP
    have hD : va_D A (mW cI am ke ve f tb tl p r lf k a (upd im md b) (md + 1)) := hD
    exact hretV 30 ls _ _ (upd im md b, (md + 1)) dX6_add_30 rfl rfl (by simp only [y_add, if_neg (Nat.not_le_of_lt c_7)]) hP hS
abbrev rm_X6_patches : Room := { frames := 1, cells := 0, slots := 0, locals := 21 }
set_option maxRecDepth 20000 in
theorem qX6_patches_1 : (Cond.fieldLink RX6 7 "FlashBootModel" "flash" "[I" : Cond) ∈ wsX6_patches := List.mem_of_getElem? (i := 1) rfl
set_option maxRecDepth 20000 in
theorem iX6_patches_X6 : ∀ w ∈ wsX60, w ∈ wsX6_patches := by decide +kernel
set_option maxRecDepth 20000 in
theorem qX6_patches_2 : (Cond.fieldLink RX6 124 "FlashBootModel" "made" "I" : Cond) ∈ wsX6_patches := List.mem_of_getElem? (i := 2) rfl
set_option maxHeartbeats 4000000 in
set_option maxRecDepth 100000 in
theorem k_X6_patches (l : Launch) (D : va_G) (cI : ClassId) (am : Nat → Nat) (ke : RW) (ve : Int32) (f : RW) (tb : RW) (tl : Nat) (p : Int32) (r : Int32) (lf : Int32) (k : Int32) (a : Int32) (im : RW) (md : Nat) (bs : Nat) (bl : Nat) (hbs : bs ≤ 224) (hbl : bl ≤ 255) (hB : zbOk f) : zMW (S := Int32 × RW × Nat) l D cI yX6_patches wsX6_patches rm_X6_patches [.ref (am 0), .int (nI bs), .int (nI bl)] (mW cI am ke ve f tb tl p r lf k a im md) (y_pat f bs bl im) (fun u => some (.int u.1)) (fun u => mW cI am ke ve f tb tl p r lf k a u.2.1 u.2.2) := by
  refine zEntW (cc := cX6_patches) (maxL := 8) (ret := (some .boolean)) (own := RX6) (lvs := [(0, .ref (am 0)), (1, .int (nI bs)), (2, .int (nI bl))]) (by decide) rfl rfl (Nat.le_of_ble_eq_true rfl) rfl ?_
  intro p0 e s m args below meth c Q ls A hx hb hml hts hown hP hK hN hD hS hA hl hret hretV
  have hs := (hB 646 (by omega)).2
  refine lv_aload_n hx hb dX6_patches_0 rfl (lv_at hl 0 rfl) ?_
  refine va_get (D := D) (ci := 6) (v := .ref (am 1)) (C := RX6) (T := TX6) (N := 13) hx hb hts iX6_patches_X6 hown hK hP 0 rfl rfl 1 (by decide) (hts _ qX6_patches_1) (fun _ h9 => h9) rfl dX6_patches_1 ?_
  refine lv_sipush (v := 646) hx hb dX6_patches_4 (by decide) ?_
  refine z_iald hx hb hK hP 1 0 rfl rfl 646 rfl (by omega) (by decide) dX6_patches_7 ?_
  refine z_top (v := nI (zb f 646)) ((hB 646 (by omega)).1) ?_
  refine lv_istore_n (lv' := [(3, .int (nI (zb f 646))), (0, .ref (am 0)), (1, .int (nI bs)), (2, .int (nI bl))]) hx hb dX6_patches_8 rfl hl (by decide) rfl (fun ls hl => ?_)
  refine lv_iconst (v := 0) hx hb dX6_patches_9 (by decide) ?_
  refine lv_istore (lv' := [(4, .int 0), (3, .int (nI (zb f 646))), (0, .ref (am 0)), (1, .int (nI bs)), (2, .int (nI bl))]) hx hb dX6_patches_10 hl (by decide) rfl (fun ls hl => ?_)
  refine lv_aload_n hx hb dX6_patches_12 rfl (lv_at hl 2 rfl) ?_
  refine lv_iconst (v := 0) hx hb dX6_patches_13 (by decide) ?_
  refine va_put (D := D) (ci := 6) (v := .int 0) (ty := .int) (C := RX6) (T := TX6) (N := 13) hx hb hts iX6_patches_X6 tyX6 tyX6_ok nmX6 hown hK hP hD hS 0 rfl rfl 12 (by decide) (hts _ qX6_patches_2) (fun _ h9 => h9) rfl (by decide +kernel) rfl rfl (Nat.le_of_ble_eq_true rfl) dX6_patches_14 (fun H locs hP hD hS => ?_)
  have hP : va_P D vwCl (mW cI am ke ve f tb tl p r lf k a im 0) _ := hP
  have hD : va_D A (mW cI am ke ve f tb tl p r lf k a im 0) := hD
  have lp_17 : ∀ (g_17 : Nat) (d : Nat) (i : Nat) (im9 : RW) (md9 : Nat) (H : Heap) (locs : List Loc) (ls : Array Slot), 1 ≤ d → zb f 646 + 1 ≤ i + d → i ≤ 600 → md9 ≤ 128 * i → y_patN f bs bl d i (im9, md9) = y_pat f bs bl im → d < g_17 → va_P D vwCl (mW cI am ke ve f tb tl p r lf k a im9 md9) H → va_D A (mW cI am ke ve f tb tl p r lf k a im9 md9) → va_S A s.heap H locs → lv_has ls 8 [(0, .ref (am 0)), (1, .int (nI bs)), (2, .int (nI bl)), (3, .int (nI (zb f 646))), (4, .int (nI i))] → W p0 l e rm_X6_patches s m args below meth c H locs 0 0 Q (F0 m 17 ls []) := by
    intro g_17
    induction g_17 with
    | zero => intro d i im9 md9 H locs ls h1 h2 h3 h4 hy h9_17; exact absurd h9_17 (Nat.not_lt_zero _)
    | succ g_17 ih_17 =>
      intro d i im9 md9 H locs ls h1 h2 h3 h4 hy h9_17 hP hD hS hl
      refine lv_iload hx hb dX6_patches_17 (lv_at hl 4 rfl) ?_
      refine lv_iload_n hx hb dX6_patches_19 rfl (lv_at hl 3 rfl) ?_
      refine z_icmp_ge (tgt := 190) hx hb dX6_patches_20 (by decide) i (zb f 646) rfl rfl (by omega) (by omega) (fun c_20 => ?_) (fun c_20 => ?_)
      · -- 20 t
        obtain ⟨d, rfl⟩ : ∃ d1, d = d1 + 1 := ⟨d - 1, by omega⟩
        refine lv_aload_n hx hb dX6_patches_190 rfl (lv_at hl 0 rfl) ?_
        refine va_get (D := D) (ci := 6) (v := .int (nI md9)) (C := RX6) (T := TX6) (N := 13) hx hb hts iX6_patches_X6 hown hK hP 0 rfl rfl 12 (by decide) (hts _ qX6_patches_2) (fun _ h9 => h9) rfl dX6_patches_191 ?_
        refine lv_aload_n hx hb dX6_patches_194 rfl (lv_at hl 0 rfl) ?_
        refine va_get (D := D) (ci := 6) (v := .ref (am 1)) (C := RX6) (T := TX6) (N := 13) hx hb hts iX6_patches_X6 hown hK hP 0 rfl rfl 1 (by decide) (hts _ qX6_patches_1) (fun _ h9 => h9) rfl dX6_patches_195 ?_
        refine lv_sipush (v := 651) hx hb dX6_patches_198 (by decide) ?_
        refine z_iald hx hb hK hP 1 0 rfl rfl 651 rfl (by omega) (by decide) dX6_patches_201 ?_
        refine lv_icmp_ne (tgt := 209) hx hb dX6_patches_202 (by decide) (fun c_202 => ?_) (fun c_202 => ?_)
        · -- 202 t
          refine lv_iconst (v := 0) hx hb dX6_patches_209 (by decide) ?_
          exact hret 210 ls _ _ (0, im9, md9) 0 _ dX6_patches_210 rfl rfl rfl (by rw [← hy, y_patN, if_pos (by omega), if_neg c_202]) hP hS
        · -- 202 f
          refine lv_iconst (v := 1) hx hb dX6_patches_205 (by decide) ?_
          refine lv_goto (tgt := 210) hx hb dX6_patches_206 (by decide) ?_
          exact hret 210 ls _ _ (1, im9, md9) 1 _ dX6_patches_210 rfl rfl rfl (by rw [← hy, y_patN, if_pos (by omega), if_pos c_202]) hP hS
      · -- 20 f
        obtain ⟨d, rfl⟩ : ∃ d1, d = d1 + 1 := ⟨d - 1, by omega⟩
        have hb9 := (hB (448 + i) (by omega)).2
        refine lv_aload_n hx hb dX6_patches_23 rfl (lv_at hl 0 rfl) ?_
        refine va_get (D := D) (ci := 6) (v := .ref (am 1)) (C := RX6) (T := TX6) (N := 13) hx hb hts iX6_patches_X6 hown hK hP 0 rfl rfl 1 (by decide) (hts _ qX6_patches_1) (fun _ h9 => h9) rfl dX6_patches_24 ?_
        refine lv_sipush (v := 448) hx hb dX6_patches_27 (by decide) ?_
        refine lv_iload hx hb dX6_patches_30 (lv_at hl 4 rfl) ?_
        refine lv_iadd hx hb dX6_patches_32 ?_
        refine z_top (v := nI (448 + i)) (nI_add 448 i) ?_
        refine z_iald hx hb hK hP 1 0 rfl rfl (448 + i) rfl (by omega) (by decide) dX6_patches_33 ?_
        refine z_top (v := nI (zb f (448 + i))) ((hB (448 + i) (by omega)).1) ?_
        refine lv_istore (lv' := [(5, .int (nI (zb f (448 + i)))), (0, .ref (am 0)), (1, .int (nI bs)), (2, .int (nI bl)), (3, .int (nI (zb f 646))), (4, .int (nI i))]) hx hb dX6_patches_34 hl (by decide) rfl (fun ls hl => ?_)
        refine lv_iload hx hb dX6_patches_36 (lv_at hl 0 rfl) ?_
        refine lv_sipush (v := 128) hx hb dX6_patches_38 (by decide) ?_
        refine z_icmp_ge (tgt := 107) hx hb dX6_patches_41 (by decide) (zb f (448 + i)) 128 rfl rfl (by omega) (by omega) (fun c_41 => ?_) (fun c_41 => ?_)
        · -- 41 t
          refine lv_iload hx hb dX6_patches_107 (lv_at hl 5 rfl) ?_
          refine lv_iconst (v := 2) hx hb dX6_patches_109 (by decide) ?_
          refine lv_iadd hx hb dX6_patches_110 ?_
          refine z_top (v := nI (i + 2)) (nI_add i 2) ?_
          refine lv_iload_n hx hb dX6_patches_111 rfl (lv_at hl 4 rfl) ?_
          refine z_icmp_le (tgt := 117) hx hb dX6_patches_112 (by decide) (i + 2) (zb f 646) rfl rfl (by omega) (by omega) (fun c_112 => ?_) (fun c_112 => ?_)
          · -- 112 t
            have hb8 := (hB (448 + i + 1) (by omega)).2
            refine lv_aload_n hx hb dX6_patches_117 rfl (lv_at hl 1 rfl) ?_
            refine va_get (D := D) (ci := 6) (v := .ref (am 1)) (C := RX6) (T := TX6) (N := 13) hx hb hts iX6_patches_X6 hown hK hP 0 rfl rfl 1 (by decide) (hts _ qX6_patches_1) (fun _ h9 => h9) rfl dX6_patches_118 ?_
            refine lv_sipush (v := 448) hx hb dX6_patches_121 (by decide) ?_
            refine lv_iload hx hb dX6_patches_124 (lv_at hl 5 rfl) ?_
            refine lv_iadd hx hb dX6_patches_126 ?_
            refine z_top (v := nI (448 + i)) (nI_add 448 i) ?_
            refine lv_iconst (v := 1) hx hb dX6_patches_127 (by decide) ?_
            refine lv_iadd hx hb dX6_patches_128 ?_
            refine z_top (v := nI ((448 + i) + 1)) (nI_add (448 + i) 1) ?_
            refine z_iald hx hb hK hP 1 0 rfl rfl ((448 + i) + 1) rfl (by omega) (by decide) dX6_patches_129 ?_
            refine z_top (v := nI (zb f (448 + i + 1))) ((hB (448 + i + 1) (by omega)).1) ?_
            refine lv_istore (lv' := [(6, .int (nI (zb f (448 + i + 1)))), (5, .int (nI (zb f (448 + i)))), (0, .ref (am 0)), (1, .int (nI bs)), (2, .int (nI bl)), (3, .int (nI (zb f 646))), (4, .int (nI i))]) hx hb dX6_patches_130 hl (by decide) rfl (fun ls hl => ?_)
            refine lv_iload hx hb dX6_patches_132 (lv_at hl 0 rfl) ?_
            refine lv_iload hx hb dX6_patches_134 (lv_at hl 1 rfl) ?_
            refine lv_iadd hx hb dX6_patches_136 ?_
            refine z_top (v := nI ((zb f (448 + i + 1)) + (zb f (448 + i)))) (nI_add (zb f (448 + i + 1)) (zb f (448 + i))) ?_
            refine lv_bipush (v := 127) hx hb dX6_patches_137 (by decide) ?_
            refine lv_isub hx hb dX6_patches_139 ?_
            refine z_top (v := nI (zb f (448 + i + 1) + zb f (448 + i) - 127)) (z_sub1 (a := zb f (448 + i + 1) + zb f (448 + i)) (b := 127) (by omega)) ?_
            refine lv_iload_n hx hb dX6_patches_140 rfl (lv_at hl 4 rfl) ?_
            refine z_icmp_le (tgt := 146) hx hb dX6_patches_141 (by decide) (zb f (448 + i + 1) + zb f (448 + i) - 127) bl rfl rfl (by omega) (by omega) (fun c_141 => ?_) (fun c_141 => ?_)
            · -- 141 t
              refine lv_iconst (v := 0) hx hb dX6_patches_146 (by decide) ?_
              refine lv_istore (lv' := [(7, .int 0), (6, .int (nI (zb f (448 + i + 1)))), (5, .int (nI (zb f (448 + i)))), (0, .ref (am 0)), (1, .int (nI bs)), (2, .int (nI bl)), (3, .int (nI (zb f 646))), (4, .int (nI i))]) hx hb dX6_patches_147 hl (by decide) rfl (fun ls hl => ?_)
              have lp_149 : ∀ (g_149 : Nat) (j : Nat) (im8 : RW) (md8 : Nat) (H : Heap) (locs : List Loc) (ls : Array Slot), j ≤ zb f (448 + i) - 127 → md8 = md9 + j → (im8, md8) = y_adN f (bs + zb f (448 + i + 1)) (im9, md9) j → zb f (448 + i) - 127 - j < g_149 → va_P D vwCl (mW cI am ke ve f tb tl p r lf k a im8 md8) H → va_D A (mW cI am ke ve f tb tl p r lf k a im8 md8) → va_S A s.heap H locs → lv_has ls 8 [(0, .ref (am 0)), (1, .int (nI bs)), (2, .int (nI bl)), (3, .int (nI (zb f 646))), (4, .int (nI i)), (5, .int (nI (zb f (448 + i)))), (6, .int (nI (zb f (448 + i + 1)))), (7, .int (nI j))] → W p0 l e rm_X6_patches s m args below meth c H locs 0 0 Q (F0 m 149 ls []) := by
                intro g_149
                induction g_149 with
                | zero => intro j im8 md8 H locs ls g1 g2 hz2 h9_149; exact absurd h9_149 (Nat.not_lt_zero _)
                | succ g_149 ih_149 =>
                  intro j im8 md8 H locs ls g1 g2 hz2 h9_149 hP hD hS hl
                  refine lv_iload hx hb dX6_patches_149 (lv_at hl 7 rfl) ?_
                  refine lv_iload hx hb dX6_patches_151 (lv_at hl 5 rfl) ?_
                  refine lv_bipush (v := 127) hx hb dX6_patches_153 (by decide) ?_
                  refine lv_isub hx hb dX6_patches_155 ?_
                  refine z_top (v := nI (zb f (448 + i) - 127)) (z_sub1 (a := zb f (448 + i)) (b := 127) (by omega)) ?_
                  refine z_icmp_ge (tgt := 181) hx hb dX6_patches_156 (by decide) j (zb f (448 + i) - 127) rfl rfl (by omega) (by omega) (fun c_156 => ?_) (fun c_156 => ?_)
                  · -- 156 t
                    refine lv_iload hx hb dX6_patches_181 (lv_at hl 4 rfl) ?_
                    refine lv_iconst (v := 2) hx hb dX6_patches_183 (by decide) ?_
                    refine lv_iadd hx hb dX6_patches_184 ?_
                    refine z_top (v := nI (i + 2)) (nI_add i 2) ?_
                    refine lv_istore (lv' := [(4, .int (nI (i + 2))), (0, .ref (am 0)), (1, .int (nI bs)), (2, .int (nI bl)), (3, .int (nI (zb f 646))), (5, .int (nI (zb f (448 + i)))), (6, .int (nI (zb f (448 + i + 1)))), (7, .int (nI j))]) hx hb dX6_patches_185 hl (by decide) rfl (fun ls hl => ?_)
                    refine lv_goto (tgt := 17) hx hb dX6_patches_187 (by decide) ?_
                    exact ih_17 d (i + 2) im8 md8 _ _ _ (by omega) (by omega) (by omega) (by omega) (by rw [← hy, y_patN, if_neg (by omega), if_neg (by omega), if_pos (by omega), if_pos (by omega), show zb f (448 + i) - 127 = j by omega, ← hz2]) (by omega) hP hD hS (lv_sub hl [1, 2, 3, 4, 0] rfl)
                  · -- 156 f
                    refine lv_aload_n hx hb dX6_patches_159 rfl (lv_at hl 0 rfl) ?_
                    refine lv_aload_n hx hb dX6_patches_160 rfl (lv_at hl 0 rfl) ?_
                    refine va_get (D := D) (ci := 6) (v := .ref (am 1)) (C := RX6) (T := TX6) (N := 13) hx hb hts iX6_patches_X6 hown hK hP 0 rfl rfl 1 (by decide) (hts _ qX6_patches_1) (fun _ h9 => h9) rfl dX6_patches_161 ?_
                    refine lv_iload_n hx hb dX6_patches_164 rfl (lv_at hl 1 rfl) ?_
                    refine lv_iload hx hb dX6_patches_165 (lv_at hl 6 rfl) ?_
                    refine lv_iadd hx hb dX6_patches_167 ?_
                    refine z_top (v := nI (bs + (zb f (448 + i + 1)))) (nI_add bs (zb f (448 + i + 1))) ?_
                    refine lv_iload hx hb dX6_patches_168 (lv_at hl 7 rfl) ?_
                    refine lv_iadd hx hb dX6_patches_170 ?_
                    refine z_top (v := nI ((bs + (zb f (448 + i + 1))) + j)) (nI_add (bs + (zb f (448 + i + 1))) j) ?_
                    refine z_iald hx hb hK hP 1 0 rfl rfl ((bs + (zb f (448 + i + 1))) + j) rfl (by omega) (by decide) dX6_patches_171 ?_
                    refine zVW (ws' := fun u => mW cI am ke ve f tb tl p r lf k a u.1 u.2) (As := [.int (f ((bs + (zb f (448 + i + 1))) + j))]) (rest := []) ⟨hx, hb, hml, hown, hts⟩ (k_X6_add l D cI am ke ve f tb tl p r lf k a im8 md8 (f ((bs + (zb f (448 + i + 1))) + j)) (by omega)) (cwV 1 hts gX6_patches_X6_add rfl rfl rfl (by decide +kernel) ⟨Nat.le_of_ble_eq_true rfl, Nat.le_of_ble_eq_true rfl⟩) hP hK hN hD hS hA [0, 1, 2, 3, 4] [] [] rfl (by decide) rfl (fun _ => rfl) (fun _ => rfl) (fun _ => rfl) rfl (va_recv hK hP (ci := 6) (q0 := 0) rfl rfl) rfl hl.1 rfl (Nat.le_of_ble_eq_true rfl) dX6_patches_172 ⟨Nat.zero_le _, Nat.zero_le _⟩ (fun u_172 H locs hu_172 hP hD hS => ?_)
                    obtain ⟨im_172, md_172⟩ := u_172
                    have hP : va_P D vwCl (mW cI am ke ve f tb tl p r lf k a im_172 md_172) _ := hP
                    have hD : va_D A (mW cI am ke ve f tb tl p r lf k a im_172 md_172) := hD
                    refine W.eq (g2 := F0 m 175 ls []) rfl ?_
                    refine lv_iinc (v := (nI (j + 1))) (lv' := [(7, .int (nI (j + 1))), (0, .ref (am 0)), (1, .int (nI bs)), (2, .int (nI bl)), (3, .int (nI (zb f 646))), (4, .int (nI i)), (5, .int (nI (zb f (448 + i)))), (6, .int (nI (zb f (448 + i + 1))))]) hx hb dX6_patches_175 hl (k := 7) rfl (z_inc _ _ rfl) (by decide) rfl (fun ls hl => ?_)
                    refine lv_goto (tgt := 149) hx hb dX6_patches_178 (by decide) ?_
                    exact ih_149 (j + 1) im_172 md_172 _ _ _ (by omega) (by rw [y_addL hu_172, g2]; omega) (by rw [hu_172, y_adN, ← hz2]) (by omega) hP hD hS (lv_sub hl [1, 2, 3, 4, 5, 6, 7, 0] rfl)
              exact lp_149 _ 0 im9 md9 _ _ _ (by omega) rfl rfl (Nat.lt_succ_self _) hP hD hS (lv_sub hl [3, 4, 5, 6, 7, 2, 1, 0] rfl)
            · -- 141 f
              refine lv_iconst (v := 0) hx hb dX6_patches_144 (by decide) ?_
              exact hret 145 ls _ _ (0, im9, md9) 0 _ dX6_patches_145 rfl rfl rfl (by rw [← hy, y_patN, if_neg (by omega), if_neg (by omega), if_pos (by omega), if_neg (by omega)]) hP hS
          · -- 112 f
            refine lv_iconst (v := 0) hx hb dX6_patches_115 (by decide) ?_
            exact hret 116 ls _ _ (0, im9, md9) 0 _ dX6_patches_116 rfl rfl rfl (by rw [← hy, y_patN, if_neg (by omega), if_neg (by omega), if_neg (by omega)]) hP hS
        · -- 41 f
          refine lv_iload hx hb dX6_patches_44 (lv_at hl 5 rfl) ?_
          refine lv_iconst (v := 1) hx hb dX6_patches_46 (by decide) ?_
          refine lv_iadd hx hb dX6_patches_47 ?_
          refine z_top (v := nI (i + 1)) (nI_add i 1) ?_
          refine lv_iload hx hb dX6_patches_48 (lv_at hl 0 rfl) ?_
          refine lv_iadd hx hb dX6_patches_50 ?_
          refine z_top (v := nI ((i + 1) + (zb f (448 + i)))) (nI_add (i + 1) (zb f (448 + i))) ?_
          refine lv_iconst (v := 1) hx hb dX6_patches_51 (by decide) ?_
          refine lv_iadd hx hb dX6_patches_52 ?_
          refine z_top (v := nI (((i + 1) + (zb f (448 + i))) + 1)) (nI_add ((i + 1) + (zb f (448 + i))) 1) ?_
          refine lv_iload_n hx hb dX6_patches_53 rfl (lv_at hl 4 rfl) ?_
          refine z_icmp_le (tgt := 59) hx hb dX6_patches_54 (by decide) (((i + 1) + (zb f (448 + i))) + 1) (zb f 646) rfl rfl (by omega) (by omega) (fun c_54 => ?_) (fun c_54 => ?_)
          · -- 54 t
            refine lv_iconst (v := 0) hx hb dX6_patches_59 (by decide) ?_
            refine lv_istore (lv' := [(6, .int 0), (5, .int (nI (zb f (448 + i)))), (0, .ref (am 0)), (1, .int (nI bs)), (2, .int (nI bl)), (3, .int (nI (zb f 646))), (4, .int (nI i))]) hx hb dX6_patches_60 hl (by decide) rfl (fun ls hl => ?_)
            have lp_62 : ∀ (g_62 : Nat) (j : Nat) (im8 : RW) (md8 : Nat) (H : Heap) (locs : List Loc) (ls : Array Slot), j ≤ zb f (448 + i) + 1 → md8 = md9 + j → (im8, md8) = y_adN f (448 + i + 1) (im9, md9) j → zb f (448 + i) + 1 - j < g_62 → va_P D vwCl (mW cI am ke ve f tb tl p r lf k a im8 md8) H → va_D A (mW cI am ke ve f tb tl p r lf k a im8 md8) → va_S A s.heap H locs → lv_has ls 8 [(0, .ref (am 0)), (1, .int (nI bs)), (2, .int (nI bl)), (3, .int (nI (zb f 646))), (4, .int (nI i)), (5, .int (nI (zb f (448 + i)))), (6, .int (nI j))] → W p0 l e rm_X6_patches s m args below meth c H locs 0 0 Q (F0 m 62 ls []) := by
              intro g_62
              induction g_62 with
              | zero => intro j im8 md8 H locs ls g1 g2 hz h9_62; exact absurd h9_62 (Nat.not_lt_zero _)
              | succ g_62 ih_62 =>
                intro j im8 md8 H locs ls g1 g2 hz h9_62 hP hD hS hl
                refine lv_iload hx hb dX6_patches_62 (lv_at hl 6 rfl) ?_
                refine lv_iload hx hb dX6_patches_64 (lv_at hl 5 rfl) ?_
                refine z_icmp_gt (tgt := 95) hx hb dX6_patches_66 (by decide) j (zb f (448 + i)) rfl rfl (by omega) (by omega) (fun c_66 => ?_) (fun c_66 => ?_)
                · -- 66 t
                  refine lv_iload hx hb dX6_patches_95 (lv_at hl 4 rfl) ?_
                  refine lv_iload hx hb dX6_patches_97 (lv_at hl 5 rfl) ?_
                  refine lv_iadd hx hb dX6_patches_99 ?_
                  refine z_top (v := nI (i + (zb f (448 + i)))) (nI_add i (zb f (448 + i))) ?_
                  refine lv_iconst (v := 2) hx hb dX6_patches_100 (by decide) ?_
                  refine lv_iadd hx hb dX6_patches_101 ?_
                  refine z_top (v := nI ((i + (zb f (448 + i))) + 2)) (nI_add (i + (zb f (448 + i))) 2) ?_
                  refine lv_istore (lv' := [(4, .int (nI ((i + (zb f (448 + i))) + 2))), (0, .ref (am 0)), (1, .int (nI bs)), (2, .int (nI bl)), (3, .int (nI (zb f 646))), (5, .int (nI (zb f (448 + i)))), (6, .int (nI j))]) hx hb dX6_patches_102 hl (by decide) rfl (fun ls hl => ?_)
                  refine lv_goto (tgt := 187) hx hb dX6_patches_104 (by decide) ?_
                  refine lv_goto (tgt := 17) hx hb dX6_patches_187 (by decide) ?_
                  exact ih_17 d ((i + (zb f (448 + i))) + 2) im8 md8 _ _ _ (by omega) (by omega) (by omega) (by omega) (by rw [← hy, y_patN, if_neg (by omega), if_pos (by omega), if_pos (by omega), show zb f (448 + i) + 1 = j by omega, ← hz]) (by omega) hP hD hS (lv_sub hl [1, 2, 3, 4, 0] rfl)
                · -- 66 f
                  refine lv_aload_n hx hb dX6_patches_69 rfl (lv_at hl 0 rfl) ?_
                  refine lv_aload_n hx hb dX6_patches_70 rfl (lv_at hl 0 rfl) ?_
                  refine va_get (D := D) (ci := 6) (v := .ref (am 1)) (C := RX6) (T := TX6) (N := 13) hx hb hts iX6_patches_X6 hown hK hP 0 rfl rfl 1 (by decide) (hts _ qX6_patches_1) (fun _ h9 => h9) rfl dX6_patches_71 ?_
                  refine lv_sipush (v := 448) hx hb dX6_patches_74 (by decide) ?_
                  refine lv_iload hx hb dX6_patches_77 (lv_at hl 4 rfl) ?_
                  refine lv_iadd hx hb dX6_patches_79 ?_
                  refine z_top (v := nI (448 + i)) (nI_add 448 i) ?_
                  refine lv_iconst (v := 1) hx hb dX6_patches_80 (by decide) ?_
                  refine lv_iadd hx hb dX6_patches_81 ?_
                  refine z_top (v := nI ((448 + i) + 1)) (nI_add (448 + i) 1) ?_
                  refine lv_iload hx hb dX6_patches_82 (lv_at hl 6 rfl) ?_
                  refine lv_iadd hx hb dX6_patches_84 ?_
                  refine z_top (v := nI (((448 + i) + 1) + j)) (nI_add ((448 + i) + 1) j) ?_
                  refine z_iald hx hb hK hP 1 0 rfl rfl (((448 + i) + 1) + j) rfl (by omega) (by decide) dX6_patches_85 ?_
                  refine zVW (ws' := fun u => mW cI am ke ve f tb tl p r lf k a u.1 u.2) (As := [.int (f (((448 + i) + 1) + j))]) (rest := []) ⟨hx, hb, hml, hown, hts⟩ (k_X6_add l D cI am ke ve f tb tl p r lf k a im8 md8 (f (((448 + i) + 1) + j)) (by omega)) (cwV 1 hts gX6_patches_X6_add rfl rfl rfl (by decide +kernel) ⟨Nat.le_of_ble_eq_true rfl, Nat.le_of_ble_eq_true rfl⟩) hP hK hN hD hS hA [0, 1, 2, 3, 4] [] [] rfl (by decide) rfl (fun _ => rfl) (fun _ => rfl) (fun _ => rfl) rfl (va_recv hK hP (ci := 6) (q0 := 0) rfl rfl) rfl hl.1 rfl (Nat.le_of_ble_eq_true rfl) dX6_patches_86 ⟨Nat.zero_le _, Nat.zero_le _⟩ (fun u_86 H locs hu_86 hP hD hS => ?_)
                  obtain ⟨im_86, md_86⟩ := u_86
                  have hP : va_P D vwCl (mW cI am ke ve f tb tl p r lf k a im_86 md_86) _ := hP
                  have hD : va_D A (mW cI am ke ve f tb tl p r lf k a im_86 md_86) := hD
                  refine W.eq (g2 := F0 m 89 ls []) rfl ?_
                  refine lv_iinc (v := (nI (j + 1))) (lv' := [(6, .int (nI (j + 1))), (0, .ref (am 0)), (1, .int (nI bs)), (2, .int (nI bl)), (3, .int (nI (zb f 646))), (4, .int (nI i)), (5, .int (nI (zb f (448 + i))))]) hx hb dX6_patches_89 hl (k := 6) rfl (z_inc _ _ rfl) (by decide) rfl (fun ls hl => ?_)
                  refine lv_goto (tgt := 62) hx hb dX6_patches_92 (by decide) ?_
                  exact ih_62 (j + 1) im_86 md_86 _ _ _ (by omega) (by rw [y_addL hu_86, g2]; omega) (by rw [hu_86, y_adN, ← hz]) (by omega) hP hD hS (lv_sub hl [1, 2, 3, 4, 5, 6, 0] rfl)
            exact lp_62 _ 0 im9 md9 _ _ _ (by omega) rfl rfl (Nat.lt_succ_self _) hP hD hS (lv_sub hl [2, 3, 4, 5, 6, 1, 0] rfl)
          · -- 54 f
            refine lv_iconst (v := 0) hx hb dX6_patches_57 (by decide) ?_
            exact hret 58 ls _ _ (0, im9, md9) 0 _ dX6_patches_58 rfl rfl rfl (by rw [← hy, y_patN, if_neg (by omega), if_pos (by omega), if_neg (by omega)]) hP hS
  exact lp_17 _ (zb f 646 + 1) 0 im 0 _ _ _ (by omega) (by omega) (by omega) (by omega) rfl (Nat.lt_succ_self _) hP hD hS (lv_sub hl [2, 3, 4, 1, 0] rfl)
abbrev rm_X6_install : Room := { frames := 4, cells := 0, slots := 0, locals := 89 }
set_option maxRecDepth 20000 in
theorem qX6_install_1 : (Cond.fieldLink RX6 36 "FlashBootModel" "thrown" "I" : Cond) ∈ wsX6_install := List.mem_of_getElem? (i := 1) rfl
set_option maxRecDepth 20000 in
theorem iX6_install_X6 : ∀ w ∈ wsX60, w ∈ wsX6_install := by decide +kernel
set_option maxRecDepth 20000 in
theorem qX6_install_2 : (Cond.fieldLink RX6 19 "FlashBootModel" "power" "Z" : Cond) ∈ wsX6_install := List.mem_of_getElem? (i := 2) rfl
set_option maxRecDepth 20000 in
theorem qX6_install_4 : (Cond.fieldLink RX6 23 "FlashBootModel" "runs" "I" : Cond) ∈ wsX6_install := List.mem_of_getElem? (i := 4) rfl
set_option maxRecDepth 20000 in
theorem qX6_install_3 : (Cond.fieldLink RX6 7 "FlashBootModel" "flash" "[I" : Cond) ∈ wsX6_install := List.mem_of_getElem? (i := 3) rfl
set_option maxRecDepth 20000 in
theorem qX6_install_5 : (Cond.fieldLink RX6 124 "FlashBootModel" "made" "I" : Cond) ∈ wsX6_install := List.mem_of_getElem? (i := 5) rfl
set_option maxRecDepth 20000 in
theorem qX6_install_6 : (Cond.fieldLink RX6 30 "FlashBootModel" "image" "[I" : Cond) ∈ wsX6_install := List.mem_of_getElem? (i := 6) rfl
set_option maxHeartbeats 4000000 in
set_option maxRecDepth 100000 in
theorem k_X6_install (l : Launch) (D : va_G) (cI : ClassId) (am : Nat → Nat) (ke : RW) (ve : Int32) (f : RW) (tb : RW) (tl : Nat) (p : Int32) (r : Int32) (lf : Int32) (k : Int32) (a : Int32) (im : RW) (md : Nat)  (hB : zbOk f) (hr : r = -7 ∨ ∃ j : Nat, j < 2 ∧ r = nI j) (hmd : md < 1000000) : zMW (S := Int32 × RW × Int32 × Int32 × Int32 × Int32 × RW × Nat) l D cI yX6_install wsX6_install rm_X6_install [.ref (am 0)] (mW cI am ke ve f tb tl p r lf k a im md) (y_install ke ve k tb im md (f, p, r, lf, a)) (fun u => some (.int u.1)) (fun u => mW cI am ke ve u.2.1 tb tl u.2.2.1 u.2.2.2.1 u.2.2.2.2.1 k u.2.2.2.2.2.1 u.2.2.2.2.2.2.1 u.2.2.2.2.2.2.2) := by
  refine zEntW (cc := cX6_install) (maxL := 9) (ret := (some .int)) (own := RX6) (lvs := [(0, .ref (am 0))]) (by decide) rfl rfl (Nat.le_of_ble_eq_true rfl) rfl ?_
  intro p0 e s m args below meth c Q ls A hx hb hml hts hown hP hK hN hD hS hA hl hret hretV
  refine lv_aload_n hx hb dX6_install_0 rfl (lv_at hl 0 rfl) ?_
  refine lv_iconst (v := 0) hx hb dX6_install_1 (by decide) ?_
  refine va_put (D := D) (ci := 6) (v := .int 0) (ty := .int) (C := RX6) (T := TX6) (N := 13) hx hb hts iX6_install_X6 tyX6 tyX6_ok nmX6 hown hK hP hD hS 0 rfl rfl 0 (by decide) (hts _ qX6_install_1) (fun _ h9 => h9) rfl (by decide +kernel) rfl rfl (Nat.le_of_ble_eq_true rfl) dX6_install_2 (fun H locs hP hD hS => ?_)
  have hP : va_P D vwCl (mW cI am ke ve f tb tl p r lf k a im md) _ := hP
  have hD : va_D A (mW cI am ke ve f tb tl p r lf k a im md) := hD
  refine lv_aload_n hx hb dX6_install_5 rfl (lv_at hl 0 rfl) ?_
  refine va_get (D := D) (ci := 6) (v := .int p) (C := RX6) (T := TX6) (N := 13) hx hb hts iX6_install_X6 hown hK hP 0 rfl rfl 6 (by decide) (hts _ qX6_install_2) (fun _ h9 => h9) rfl dX6_install_6 ?_
  refine lv_if_ne (tgt := 15) hx hb dX6_install_9 (by decide) (fun c_9 => ?_) (fun c_9 => ?_)
  · -- 9 t
    refine lv_aload_n hx hb dX6_install_15 rfl (lv_at hl 0 rfl) ?_
    refine zVR (As := []) (rest := []) ⟨hx, hb, hml, hown, hts⟩ (k_X6_isRight l D cI am ke ve f tb tl p r lf k a im md) (cwV 0 hts gX6_install_X6_isRight rfl rfl rfl (by decide +kernel) ⟨Nat.le_of_ble_eq_true rfl, Nat.le_of_ble_eq_true rfl⟩) hP hK hN [0, 1, 2, 3, 4] rfl (va_recv hK hP (ci := 6) (q0 := 0) rfl rfl) rfl hl.1 rfl (Nat.le_of_ble_eq_true rfl) dX6_install_16 ⟨Nat.zero_le _, Nat.zero_le _⟩ ?_
    refine lv_if_ne (tgt := 25) hx hb dX6_install_19 (by decide) (fun c_19 => ?_) (fun c_19 => ?_)
    · -- 19 t
      refine lv_aload_n hx hb dX6_install_25 rfl (lv_at hl 0 rfl) ?_
      refine lv_iconst (v := 0) hx hb dX6_install_26 (by decide) ?_
      refine zVR (As := [.int 0]) (rest := []) ⟨hx, hb, hml, hown, hts⟩ (k_X6_isOld l D cI am ke ve f tb tl p r lf k a im md 0 hr) (cwV 1 hts gX6_install_X6_isOld rfl rfl rfl (by decide +kernel) ⟨Nat.le_of_ble_eq_true rfl, Nat.le_of_ble_eq_true rfl⟩) hP hK hN [0, 1, 2, 3, 4] rfl (va_recv hK hP (ci := 6) (q0 := 0) rfl rfl) rfl hl.1 rfl (Nat.le_of_ble_eq_true rfl) dX6_install_27 ⟨Nat.zero_le _, Nat.zero_le _⟩ ?_
      refine lv_if_eq (tgt := 36) hx hb dX6_install_30 (by decide) (fun c_30 => ?_) (fun c_30 => ?_)
      · -- 30 t
        obtain ⟨rj, hj, rfl⟩ := hr.resolve_left (y_old_r c_30)
        obtain ⟨⟨e1, e2, e3⟩, e4, e5, e6⟩ := y_rng6 (y_right0 c_19)
        have e7 := y_blksC e1 (by omega)
        have e8 := (hB (224 * rj + 192) (by omega)).2
        refine lv_iconst (v := 0) hx hb dX6_install_36 (by decide) ?_
        refine lv_istore_n (lv' := [(1, .int 0), (0, .ref (am 0))]) hx hb dX6_install_37 rfl hl (by decide) rfl (fun ls hl => ?_)
        have lp_38 : ∀ (g_38 : Nat) (d : Nat) (i : Nat) (H : Heap) (locs : List Loc) (ls : Array Slot), i + d = (y_blks f).toNatClampNeg → y_stgN f d i = y_stgN f (y_blks f).toNatClampNeg 0 → d < g_38 → va_P D vwCl (mW cI am ke ve f tb tl p (nI rj) lf k a im md) H → va_D A (mW cI am ke ve f tb tl p (nI rj) lf k a im md) → va_S A s.heap H locs → lv_has ls 9 [(0, .ref (am 0)), (1, .int (nI i))] → W p0 l e rm_X6_install s m args below meth c H locs 0 0 Q (F0 m 38 ls []) := by
          intro g_38
          induction g_38 with
          | zero => intro d i H locs ls h1 hw h9_38; exact absurd h9_38 (Nat.not_lt_zero _)
          | succ g_38 ih_38 =>
            intro d i H locs ls h1 hw h9_38 hP hD hS hl
            refine lv_iload_n hx hb dX6_install_38 rfl (lv_at hl 1 rfl) ?_
            refine lv_aload_n hx hb dX6_install_39 rfl (lv_at hl 0 rfl) ?_
            refine zVR (As := []) (rest := [.int (nI i)]) ⟨hx, hb, hml, hown, hts⟩ (k_X6_blocks l D cI am ke ve f tb tl p (nI rj) lf k a im md) (cwV 0 hts gX6_install_X6_blocks rfl rfl rfl (by decide +kernel) ⟨Nat.le_of_ble_eq_true rfl, Nat.le_of_ble_eq_true rfl⟩) hP hK hN [0, 1, 2, 3, 4] rfl (va_recv hK hP (ci := 6) (q0 := 0) rfl rfl) rfl hl.1 rfl (Nat.le_of_ble_eq_true rfl) dX6_install_40 ⟨Nat.zero_le _, Nat.zero_le _⟩ ?_
            refine z_icmp_geC (tgt := 68) hx hb dX6_install_43 (by decide) i rfl (by omega) (fun c_43 => ?_) (fun c_43 => ?_)
            · -- 43 t
              obtain rfl : d = 0 := by omega
              refine lv_aload_n hx hb dX6_install_68 rfl (lv_at hl 0 rfl) ?_
              refine va_get (D := D) (ci := 6) (v := .int (nI rj)) (C := RX6) (T := TX6) (N := 13) hx hb hts iX6_install_X6 hown hK hP 0 rfl rfl 7 (by decide) (hts _ qX6_install_4) (fun _ h9 => h9) rfl dX6_install_69 ?_
              refine zSR (As := [.int (nI rj)]) (rest := []) ⟨hx, hb, hml, hown, hts⟩ (k_X6_headerAt l D cI rj) (va_cwS 1 hts gX6_install_X6_headerAt rfl rfl rfl (by decide +kernel) ⟨Nat.le_of_ble_eq_true rfl, Nat.le_of_ble_eq_true rfl⟩) hP hK hN [] rfl rfl hl.1 rfl (Nat.le_of_ble_eq_true rfl) dX6_install_72 ⟨Nat.zero_le _, Nat.zero_le _⟩ ?_
              refine lv_istore_n (lv' := [(1, .int (nI (224 * rj + 192))), (0, .ref (am 0))]) hx hb dX6_install_75 rfl hl (by decide) rfl (fun ls hl => ?_)
              refine lv_aload_n hx hb dX6_install_76 rfl (lv_at hl 1 rfl) ?_
              refine lv_sipush (v := 642) hx hb dX6_install_77 (by decide) ?_
              refine zVR (As := [.int 642]) (rest := []) ⟨hx, hb, hml, hown, hts⟩ (k_X6_four l D cI am ke ve f tb tl p (nI rj) lf k a im md 642 (by omega)) (cwV 1 hts gX6_install_X6_four rfl rfl rfl (by decide +kernel) ⟨Nat.le_of_ble_eq_true rfl, Nat.le_of_ble_eq_true rfl⟩) hP hK hN [0, 1, 2, 3, 4] rfl (va_recv hK hP (ci := 6) (q0 := 0) rfl rfl) rfl hl.1 rfl (Nat.le_of_ble_eq_true rfl) dX6_install_80 ⟨Nat.zero_le _, Nat.zero_le _⟩ ?_
              refine lv_if_eq (tgt := 90) hx hb dX6_install_83 (by decide) (fun c_83 => ?_) (fun c_83 => ?_)
              · -- 83 t
                refine lv_iconst (v := 0) hx hb dX6_install_90 (by decide) ?_
                refine lv_istore_n (lv' := [(2, .int 0), (1, .int (nI (224 * rj + 192))), (0, .ref (am 0))]) hx hb dX6_install_91 rfl hl (by decide) rfl (fun ls hl => ?_)
                refine lv_aload_n hx hb dX6_install_92 rfl (lv_at hl 2 rfl) ?_
                refine lv_sipush (v := 448) hx hb dX6_install_93 (by decide) ?_
                refine lv_aload_n hx hb dX6_install_96 rfl (lv_at hl 2 rfl) ?_
                refine va_get (D := D) (ci := 6) (v := .ref (am 1)) (C := RX6) (T := TX6) (N := 13) hx hb hts iX6_install_X6 hown hK hP 0 rfl rfl 1 (by decide) (hts _ qX6_install_3) (fun _ h9 => h9) rfl dX6_install_97 ?_
                refine lv_sipush (v := 646) hx hb dX6_install_100 (by decide) ?_
                refine z_iald hx hb hK hP 1 0 rfl rfl 646 rfl (by omega) (by decide) dX6_install_103 ?_
                refine z_top (v := nI (zb f 646)) (e1) ?_
                refine zVR (As := [.int 448, .int (nI (zb f 646))]) (rest := []) ⟨hx, hb, hml, hown, hts⟩ (k_X6_digestOf l D cI am ke ve f tb tl p (nI rj) lf k a im md 448 (zb f 646) (by omega)) (cwV 2 hts gX6_install_X6_digestOf rfl rfl rfl (by decide +kernel) ⟨Nat.le_of_ble_eq_true rfl, Nat.le_of_ble_eq_true rfl⟩) hP hK hN [0, 1, 2, 3, 4] rfl (va_recv hK hP (ci := 6) (q0 := 0) rfl rfl) rfl hl.1 rfl (Nat.le_of_ble_eq_true rfl) dX6_install_104 ⟨Nat.zero_le _, Nat.zero_le _⟩ ?_
                refine lv_aload_n hx hb dX6_install_107 rfl (lv_at hl 2 rfl) ?_
                refine lv_sipush (v := 647) hx hb dX6_install_108 (by decide) ?_
                refine zVR (As := [.int 647]) (rest := [.int (y_digN f 448 (zb f 646))]) ⟨hx, hb, hml, hown, hts⟩ (k_X6_four l D cI am ke ve f tb tl p (nI rj) lf k a im md 647 (by omega)) (cwV 1 hts gX6_install_X6_four rfl rfl rfl (by decide +kernel) ⟨Nat.le_of_ble_eq_true rfl, Nat.le_of_ble_eq_true rfl⟩) hP hK hN [0, 1, 2, 3, 4] rfl (va_recv hK hP (ci := 6) (q0 := 0) rfl rfl) rfl hl.1 rfl (Nat.le_of_ble_eq_true rfl) dX6_install_111 ⟨Nat.zero_le _, Nat.zero_le _⟩ ?_
                refine lv_icmp_ne (tgt := 142) hx hb dX6_install_114 (by decide) (fun c_114 => ?_) (fun c_114 => ?_)
                · -- 114 t
                  refine lv_iconst (v := 0) hx hb dX6_install_142 (by decide) ?_
                  refine lv_istore_n (lv' := [(3, .int 0), (2, .int 0), (1, .int (nI (224 * rj + 192))), (0, .ref (am 0))]) hx hb dX6_install_143 rfl hl (by decide) rfl (fun ls hl => ?_)
                  refine lv_iload_n hx hb dX6_install_144 rfl (lv_at hl 0 rfl) ?_
                  refine lv_if_eq (tgt := 180) hx hb dX6_install_145 (by decide) (fun c_145 => ?_) (fun c_145 => ?_)
                  · -- 145 t
                    refine lv_iconst (v := 0) hx hb dX6_install_180 (by decide) ?_
                    refine lv_istore_n (lv' := [(3, .int 0), (2, .int 0), (1, .int (nI (224 * rj + 192))), (0, .ref (am 0))]) hx hb dX6_install_181 rfl hl (by decide) rfl (fun ls hl => ?_)
                    refine lv_iconst (v := 0) hx hb dX6_install_182 (by decide) ?_
                    refine lv_istore (lv' := [(4, .int 0), (3, .int 0), (2, .int 0), (1, .int (nI (224 * rj + 192))), (0, .ref (am 0))]) hx hb dX6_install_183 hl (by decide) rfl (fun ls hl => ?_)
                    refine lv_iconst (v := 0) hx hb dX6_install_185 (by decide) ?_
                    refine lv_istore (lv' := [(5, .int 0), (4, .int 0), (3, .int 0), (2, .int 0), (1, .int (nI (224 * rj + 192))), (0, .ref (am 0))]) hx hb dX6_install_186 hl (by decide) rfl (fun ls hl => ?_)
                    have lp_188 : ∀ (g_188 : Nat) (j : Nat) (H : Heap) (locs : List Loc) (ls : Array Slot), j ≤ md → md - j < g_188 → va_P D vwCl (mW cI am ke ve f tb tl p (nI rj) lf k a im md) H → va_D A (mW cI am ke ve f tb tl p (nI rj) lf k a im md) → va_S A s.heap H locs → lv_has ls 9 [(0, .ref (am 0)), (1, .int (nI (224 * rj + 192))), (2, .int 0), (3, .int 0), (4, .int (z_rdigN 0 im j)), (5, .int (nI j))] → W p0 l e rm_X6_install s m args below meth c H locs 0 0 Q (F0 m 188 ls []) := by
                      intro g_188
                      induction g_188 with
                      | zero => intro j H locs ls g1 h9_188; exact absurd h9_188 (Nat.not_lt_zero _)
                      | succ g_188 ih_188 =>
                        intro j H locs ls g1 h9_188 hP hD hS hl
                        refine lv_iload hx hb dX6_install_188 (lv_at hl 5 rfl) ?_
                        refine lv_aload_n hx hb dX6_install_190 rfl (lv_at hl 0 rfl) ?_
                        refine va_get (D := D) (ci := 6) (v := .int (nI md)) (C := RX6) (T := TX6) (N := 13) hx hb hts iX6_install_X6 hown hK hP 0 rfl rfl 12 (by decide) (hts _ qX6_install_5) (fun _ h9 => h9) rfl dX6_install_191 ?_
                        refine z_icmp_ge (tgt := 221) hx hb dX6_install_194 (by decide) j md rfl rfl (by omega) (by omega) (fun c_194 => ?_) (fun c_194 => ?_)
                        · -- 194 t
                          obtain rfl : md = j := by omega
                          refine lv_iload_n hx hb dX6_install_221 rfl (lv_at hl 3 rfl) ?_
                          refine lv_if_eq (tgt := 237) hx hb dX6_install_222 (by decide) (fun c_222 => ?_) (fun c_222 => ?_)
                          · -- 222 t
                            refine lv_bipush (v := (-6)) hx hb dX6_install_237 (by decide) ?_
                            exact hret 239 ls _ _ ((-6), f, p, nI rj, lf, a, im, md) (-6) _ dX6_install_239 rfl rfl rfl (by simp only [y_install, if_neg c_9, if_neg c_19, if_pos c_30, y_stgd, if_neg (show ¬ y_stgN f (y_blks f).toNatClampNeg 0 = 0 by rw [← hw]; exact (by decide : ¬ (1 : Int32) = 0)), nI_clamp (show rj < 2 ^ 31 by omega), y_mk, y_ins3, if_pos c_83, if_neg c_114, if_true]) hP hS
                          · -- 222 f
                            exact absurd (by decide) c_222
                        · -- 194 f
                          refine lv_iload_n hx hb dX6_install_197 rfl (lv_at hl 3 rfl) ?_
                          refine lv_if_eq (tgt := 221) hx hb dX6_install_198 (by decide) (fun c_198 => ?_) (fun c_198 => ?_)
                          · -- 198 t
                            refine lv_iload_n hx hb dX6_install_221 rfl (lv_at hl 3 rfl) ?_
                            refine lv_if_eq (tgt := 237) hx hb dX6_install_222 (by decide) (fun c_222 => ?_) (fun c_222 => ?_)
                            · -- 222 t
                              refine lv_bipush (v := (-6)) hx hb dX6_install_237 (by decide) ?_
                              exact hret 239 ls _ _ ((-6), f, p, nI rj, lf, a, im, md) (-6) _ dX6_install_239 rfl rfl rfl (by simp only [y_install, if_neg c_9, if_neg c_19, if_pos c_30, y_stgd, if_neg (show ¬ y_stgN f (y_blks f).toNatClampNeg 0 = 0 by rw [← hw]; exact (by decide : ¬ (1 : Int32) = 0)), nI_clamp (show rj < 2 ^ 31 by omega), y_mk, y_ins3, if_pos c_83, if_neg c_114, if_true]) hP hS
                            · -- 222 f
                              exact absurd (by decide) c_222
                          · -- 198 f
                            exact absurd (by decide) c_198
                    exact lp_188 _ 0 _ _ _ (Nat.zero_le _) (Nat.lt_succ_self _) hP hD hS (lv_sub hl [5, 4, 3, 2, 1, 0] rfl)
                  · -- 145 f
                    exact absurd (by decide) c_145
                · -- 114 f
                  refine lv_iload_n hx hb dX6_install_117 rfl (lv_at hl 0 rfl) ?_
                  refine lv_if_eq (tgt := 138) hx hb dX6_install_118 (by decide) (fun c_118 => ?_) (fun c_118 => ?_)
                  · -- 118 t
                    refine lv_iconst (v := 1) hx hb dX6_install_138 (by decide) ?_
                    refine lv_goto (tgt := 143) hx hb dX6_install_139 (by decide) ?_
                    refine lv_istore_n (lv' := [(3, .int 1), (2, .int 0), (1, .int (nI (224 * rj + 192))), (0, .ref (am 0))]) hx hb dX6_install_143 rfl hl (by decide) rfl (fun ls hl => ?_)
                    refine lv_iload_n hx hb dX6_install_144 rfl (lv_at hl 0 rfl) ?_
                    refine lv_if_eq (tgt := 180) hx hb dX6_install_145 (by decide) (fun c_145 => ?_) (fun c_145 => ?_)
                    · -- 145 t
                      exact absurd c_145 (by decide)
                    · -- 145 f
                      refine lv_aload_n hx hb dX6_install_148 rfl (lv_at hl 3 rfl) ?_
                      refine lv_aload_n hx hb dX6_install_149 rfl (lv_at hl 3 rfl) ?_
                      refine va_get (D := D) (ci := 6) (v := .int (nI rj)) (C := RX6) (T := TX6) (N := 13) hx hb hts iX6_install_X6 hown hK hP 0 rfl rfl 7 (by decide) (hts _ qX6_install_4) (fun _ h9 => h9) rfl dX6_install_150 ?_
                      refine zSR (As := [.int (nI rj)]) (rest := [.ref (am 0)]) ⟨hx, hb, hml, hown, hts⟩ (k_X6_imageAt l D cI rj) (va_cwS 1 hts gX6_install_X6_imageAt rfl rfl rfl (by decide +kernel) ⟨Nat.le_of_ble_eq_true rfl, Nat.le_of_ble_eq_true rfl⟩) hP hK hN [] rfl rfl hl.1 rfl (Nat.le_of_ble_eq_true rfl) dX6_install_153 ⟨Nat.zero_le _, Nat.zero_le _⟩ ?_
                      refine lv_iload_n hx hb dX6_install_156 rfl (lv_at hl 1 rfl) ?_
                      refine lv_if_eq (tgt := 169) hx hb dX6_install_157 (by decide) (fun c_157 => ?_) (fun c_157 => ?_)
                      · -- 157 t
                        refine lv_iconst (v := 0) hx hb dX6_install_169 (by decide) ?_
                        refine zVW (ws' := fun u => mW cI am ke ve f tb tl p (nI rj) lf k a u.2.1 u.2.2) (As := [.int (nI (224 * rj)), .int 0]) (rest := []) ⟨hx, hb, hml, hown, hts⟩ (k_X6_patches l D cI am ke ve f tb tl p (nI rj) lf k a im md (224 * rj) 0 (by omega) (by omega) hB) (cwV 2 hts gX6_install_X6_patches rfl rfl rfl (by decide +kernel) ⟨Nat.le_of_ble_eq_true rfl, Nat.le_of_ble_eq_true rfl⟩) hP hK hN hD hS hA [0, 1, 2, 3, 4] [] [] rfl (by decide) rfl (fun _ => rfl) (fun _ => rfl) (fun _ => rfl) rfl (va_recv hK hP (ci := 6) (q0 := 0) rfl rfl) rfl hl.1 rfl (Nat.le_of_ble_eq_true rfl) dX6_install_170 ⟨Nat.zero_le _, Nat.zero_le _⟩ (fun u_170 H locs hu_170 hP hD hS => ?_)
                        obtain ⟨res_170, im_170, md_170⟩ := u_170
                        have hP : va_P D vwCl (mW cI am ke ve f tb tl p (nI rj) lf k a im_170 md_170) _ := hP
                        have hD : va_D A (mW cI am ke ve f tb tl p (nI rj) lf k a im_170 md_170) := hD
                        refine W.eq (g2 := F0 m 173 ls [.int res_170]) rfl ?_
                        have q1 := y_patI hB hu_170
                        refine lv_if_eq (tgt := 180) hx hb dX6_install_173 (by decide) (fun c_173 => ?_) (fun c_173 => ?_)
                        · -- 173 t
                          refine lv_iconst (v := 0) hx hb dX6_install_180 (by decide) ?_
                          refine lv_istore_n (lv' := [(3, .int 0), (2, .int 0), (1, .int (nI (224 * rj + 192))), (0, .ref (am 0))]) hx hb dX6_install_181 rfl hl (by decide) rfl (fun ls hl => ?_)
                          refine lv_iconst (v := 0) hx hb dX6_install_182 (by decide) ?_
                          refine lv_istore (lv' := [(4, .int 0), (3, .int 0), (2, .int 0), (1, .int (nI (224 * rj + 192))), (0, .ref (am 0))]) hx hb dX6_install_183 hl (by decide) rfl (fun ls hl => ?_)
                          refine lv_iconst (v := 0) hx hb dX6_install_185 (by decide) ?_
                          refine lv_istore (lv' := [(5, .int 0), (4, .int 0), (3, .int 0), (2, .int 0), (1, .int (nI (224 * rj + 192))), (0, .ref (am 0))]) hx hb dX6_install_186 hl (by decide) rfl (fun ls hl => ?_)
                          have lp_188 : ∀ (g_188 : Nat) (j : Nat) (H : Heap) (locs : List Loc) (ls : Array Slot), j ≤ md_170 → md_170 - j < g_188 → va_P D vwCl (mW cI am ke ve f tb tl p (nI rj) lf k a im_170 md_170) H → va_D A (mW cI am ke ve f tb tl p (nI rj) lf k a im_170 md_170) → va_S A s.heap H locs → lv_has ls 9 [(0, .ref (am 0)), (1, .int (nI (224 * rj + 192))), (2, .int 0), (3, .int 0), (4, .int (z_rdigN 0 im_170 j)), (5, .int (nI j))] → W p0 l e rm_X6_install s m args below meth c H locs 0 0 Q (F0 m 188 ls []) := by
                            intro g_188
                            induction g_188 with
                            | zero => intro j H locs ls g1 h9_188; exact absurd h9_188 (Nat.not_lt_zero _)
                            | succ g_188 ih_188 =>
                              intro j H locs ls g1 h9_188 hP hD hS hl
                              refine lv_iload hx hb dX6_install_188 (lv_at hl 5 rfl) ?_
                              refine lv_aload_n hx hb dX6_install_190 rfl (lv_at hl 0 rfl) ?_
                              refine va_get (D := D) (ci := 6) (v := .int (nI md_170)) (C := RX6) (T := TX6) (N := 13) hx hb hts iX6_install_X6 hown hK hP 0 rfl rfl 12 (by decide) (hts _ qX6_install_5) (fun _ h9 => h9) rfl dX6_install_191 ?_
                              refine z_icmp_ge (tgt := 221) hx hb dX6_install_194 (by decide) j md_170 rfl rfl (by omega) (by omega) (fun c_194 => ?_) (fun c_194 => ?_)
                              · -- 194 t
                                obtain rfl : md_170 = j := by omega
                                refine lv_iload_n hx hb dX6_install_221 rfl (lv_at hl 3 rfl) ?_
                                refine lv_if_eq (tgt := 237) hx hb dX6_install_222 (by decide) (fun c_222 => ?_) (fun c_222 => ?_)
                                · -- 222 t
                                  refine lv_bipush (v := (-6)) hx hb dX6_install_237 (by decide) ?_
                                  exact hret 239 ls _ _ ((-6), f, p, nI rj, lf, a, im_170, md_170) (-6) _ dX6_install_239 rfl rfl rfl (by simp only [y_install, if_neg c_9, if_neg c_19, if_pos c_30, y_stgd, if_neg (show ¬ y_stgN f (y_blks f).toNatClampNeg 0 = 0 by rw [← hw]; exact (by decide : ¬ (1 : Int32) = 0)), nI_clamp (show rj < 2 ^ 31 by omega), y_mk, y_ins3, if_pos c_83, if_pos c_114, ← hu_170, if_pos c_173]) hP hS
                                · -- 222 f
                                  exact absurd (by decide) c_222
                              · -- 194 f
                                refine lv_iload_n hx hb dX6_install_197 rfl (lv_at hl 3 rfl) ?_
                                refine lv_if_eq (tgt := 221) hx hb dX6_install_198 (by decide) (fun c_198 => ?_) (fun c_198 => ?_)
                                · -- 198 t
                                  refine lv_iload_n hx hb dX6_install_221 rfl (lv_at hl 3 rfl) ?_
                                  refine lv_if_eq (tgt := 237) hx hb dX6_install_222 (by decide) (fun c_222 => ?_) (fun c_222 => ?_)
                                  · -- 222 t
                                    refine lv_bipush (v := (-6)) hx hb dX6_install_237 (by decide) ?_
                                    exact hret 239 ls _ _ ((-6), f, p, nI rj, lf, a, im_170, md_170) (-6) _ dX6_install_239 rfl rfl rfl (by simp only [y_install, if_neg c_9, if_neg c_19, if_pos c_30, y_stgd, if_neg (show ¬ y_stgN f (y_blks f).toNatClampNeg 0 = 0 by rw [← hw]; exact (by decide : ¬ (1 : Int32) = 0)), nI_clamp (show rj < 2 ^ 31 by omega), y_mk, y_ins3, if_pos c_83, if_pos c_114, ← hu_170, if_pos c_173]) hP hS
                                  · -- 222 f
                                    exact absurd (by decide) c_222
                                · -- 198 f
                                  exact absurd (by decide) c_198
                          exact lp_188 _ 0 _ _ _ (Nat.zero_le _) (Nat.lt_succ_self _) hP hD hS (lv_sub hl [5, 4, 3, 2, 1, 0] rfl)
                        · -- 173 f
                          have q2 := y_pat1 hB hu_170 c_173 e4 e6
                          refine lv_iconst (v := 1) hx hb dX6_install_176 (by decide) ?_
                          refine lv_goto (tgt := 181) hx hb dX6_install_177 (by decide) ?_
                          refine lv_istore_n (lv' := [(3, .int 1), (2, .int 0), (1, .int (nI (224 * rj + 192))), (0, .ref (am 0))]) hx hb dX6_install_181 rfl hl (by decide) rfl (fun ls hl => ?_)
                          refine lv_iconst (v := 0) hx hb dX6_install_182 (by decide) ?_
                          refine lv_istore (lv' := [(4, .int 0), (3, .int 1), (2, .int 0), (1, .int (nI (224 * rj + 192))), (0, .ref (am 0))]) hx hb dX6_install_183 hl (by decide) rfl (fun ls hl => ?_)
                          refine lv_iconst (v := 0) hx hb dX6_install_185 (by decide) ?_
                          refine lv_istore (lv' := [(5, .int 0), (4, .int 0), (3, .int 1), (2, .int 0), (1, .int (nI (224 * rj + 192))), (0, .ref (am 0))]) hx hb dX6_install_186 hl (by decide) rfl (fun ls hl => ?_)
                          have lp_188 : ∀ (g_188 : Nat) (j : Nat) (H : Heap) (locs : List Loc) (ls : Array Slot), j ≤ md_170 → md_170 - j < g_188 → va_P D vwCl (mW cI am ke ve f tb tl p (nI rj) lf k a im_170 md_170) H → va_D A (mW cI am ke ve f tb tl p (nI rj) lf k a im_170 md_170) → va_S A s.heap H locs → lv_has ls 9 [(0, .ref (am 0)), (1, .int (nI (224 * rj + 192))), (2, .int 0), (3, .int 1), (4, .int (z_rdigN 0 im_170 j)), (5, .int (nI j))] → W p0 l e rm_X6_install s m args below meth c H locs 0 0 Q (F0 m 188 ls []) := by
                            intro g_188
                            induction g_188 with
                            | zero => intro j H locs ls g1 h9_188; exact absurd h9_188 (Nat.not_lt_zero _)
                            | succ g_188 ih_188 =>
                              intro j H locs ls g1 h9_188 hP hD hS hl
                              refine lv_iload hx hb dX6_install_188 (lv_at hl 5 rfl) ?_
                              refine lv_aload_n hx hb dX6_install_190 rfl (lv_at hl 0 rfl) ?_
                              refine va_get (D := D) (ci := 6) (v := .int (nI md_170)) (C := RX6) (T := TX6) (N := 13) hx hb hts iX6_install_X6 hown hK hP 0 rfl rfl 12 (by decide) (hts _ qX6_install_5) (fun _ h9 => h9) rfl dX6_install_191 ?_
                              refine z_icmp_ge (tgt := 221) hx hb dX6_install_194 (by decide) j md_170 rfl rfl (by omega) (by omega) (fun c_194 => ?_) (fun c_194 => ?_)
                              · -- 194 t
                                obtain rfl : md_170 = j := by omega
                                refine lv_iload_n hx hb dX6_install_221 rfl (lv_at hl 3 rfl) ?_
                                refine lv_if_eq (tgt := 237) hx hb dX6_install_222 (by decide) (fun c_222 => ?_) (fun c_222 => ?_)
                                · -- 222 t
                                  exact absurd c_222 (by decide)
                                · -- 222 f
                                  refine lv_iload hx hb dX6_install_225 (lv_at hl 4 rfl) ?_
                                  refine lv_aload_n hx hb dX6_install_227 rfl (lv_at hl 0 rfl) ?_
                                  refine lv_sipush (v := 652) hx hb dX6_install_228 (by decide) ?_
                                  refine zVR (As := [.int 652]) (rest := [.int (z_rdigN 0 im_170 md_170)]) ⟨hx, hb, hml, hown, hts⟩ (k_X6_four l D cI am ke ve f tb tl p (nI rj) lf k a im_170 md_170 652 (by omega)) (cwV 1 hts gX6_install_X6_four rfl rfl rfl (by decide +kernel) ⟨Nat.le_of_ble_eq_true rfl, Nat.le_of_ble_eq_true rfl⟩) hP hK hN [0, 1, 2, 3, 4] rfl (va_recv hK hP (ci := 6) (q0 := 0) rfl rfl) rfl hl.1 rfl (Nat.le_of_ble_eq_true rfl) dX6_install_231 ⟨Nat.zero_le _, Nat.zero_le _⟩ ?_
                                  refine lv_icmp_eq (tgt := 240) hx hb dX6_install_234 (by decide) (fun c_234 => ?_) (fun c_234 => ?_)
                                  · -- 234 t
                                    refine lv_iconst (v := 1) hx hb dX6_install_240 (by decide) ?_
                                    refine lv_aload_n hx hb dX6_install_241 rfl (lv_at hl 0 rfl) ?_
                                    refine va_get (D := D) (ci := 6) (v := .int (nI rj)) (C := RX6) (T := TX6) (N := 13) hx hb hts iX6_install_X6 hown hK hP 0 rfl rfl 7 (by decide) (hts _ qX6_install_4) (fun _ h9 => h9) rfl dX6_install_242 ?_
                                    refine lv_isub hx hb dX6_install_245 ?_
                                    refine z_top (v := nI (1 - rj)) (z_sub1 (a := 1) (b := rj) (by omega)) ?_
                                    refine lv_istore (lv' := [(5, .int (nI (1 - rj))), (0, .ref (am 0)), (1, .int (nI (224 * rj + 192))), (2, .int 0), (3, .int 1), (4, .int (z_rdigN 0 im_170 md_170))]) hx hb dX6_install_246 hl (by decide) rfl (fun ls hl => ?_)
                                    refine lv_aload_n hx hb dX6_install_248 rfl (lv_at hl 1 rfl) ?_
                                    refine va_get (D := D) (ci := 6) (v := .ref (am 1)) (C := RX6) (T := TX6) (N := 13) hx hb hts iX6_install_X6 hown hK hP 0 rfl rfl 1 (by decide) (hts _ qX6_install_3) (fun _ h9 => h9) rfl dX6_install_249 ?_
                                    refine lv_sipush (v := 641) hx hb dX6_install_252 (by decide) ?_
                                    refine z_iald hx hb hK hP 1 0 rfl rfl 641 rfl (by omega) (by decide) dX6_install_255 ?_
                                    refine lv_istore (lv' := [(6, .int (f 641)), (5, .int (nI (1 - rj))), (0, .ref (am 0)), (1, .int (nI (224 * rj + 192))), (2, .int 0), (3, .int 1), (4, .int (z_rdigN 0 im_170 md_170))]) hx hb dX6_install_256 hl (by decide) rfl (fun ls hl => ?_)
                                    refine lv_aload_n hx hb dX6_install_258 rfl (lv_at hl 2 rfl) ?_
                                    refine lv_bipush (v := 7) hx hb dX6_install_259 (by decide) ?_
                                    refine lv_iload hx hb dX6_install_261 (lv_at hl 1 rfl) ?_
                                    refine lv_imul hx hb dX6_install_263 ?_
                                    refine z_top (v := nI (7 * (1 - rj))) (pk_mul 7 (1 - rj)) ?_
                                    refine lv_bipush (v := 6) hx hb dX6_install_264 (by decide) ?_
                                    refine lv_iadd hx hb dX6_install_266 ?_
                                    refine z_top (v := nI ((7 * (1 - rj)) + 6)) (nI_add (7 * (1 - rj)) 6) ?_
                                    refine zVW (ws' := fun u => mW cI am ke ve u.1 tb tl u.2.1 u.2.2.1 u.2.2.2.1 k u.2.2.2.2 im_170 md_170) (As := [.int (nI ((7 * (1 - rj)) + 6))]) (rest := []) ⟨hx, hb, hml, hown, hts⟩ (k_X6_erase l D cI am ke ve f tb tl p (nI rj) lf k a im_170 md_170 ((7 * (1 - rj)) + 6) (by omega)) (cwV 1 hts gX6_install_X6_erase rfl rfl rfl (by decide +kernel) ⟨Nat.le_of_ble_eq_true rfl, Nat.le_of_ble_eq_true rfl⟩) hP hK hN hD hS hA [0, 1, 2, 3, 4] [] [] rfl (by decide) rfl (fun _ => rfl) (fun _ => rfl) (fun _ => rfl) rfl (va_recv hK hP (ci := 6) (q0 := 0) rfl rfl) rfl hl.1 rfl (Nat.le_of_ble_eq_true rfl) dX6_install_267 ⟨Nat.zero_le _, Nat.zero_le _⟩ (fun u_267 H locs hu_267 hP hD hS => ?_)
                                    obtain ⟨f_267, p_267, r_267, lf_267, a_267⟩ := u_267
                                    have hP : va_P D vwCl (mW cI am ke ve f_267 tb tl p_267 r_267 lf_267 k a_267 im_170 md_170) _ := hP
                                    have hD : va_D A (mW cI am ke ve f_267 tb tl p_267 r_267 lf_267 k a_267 im_170 md_170) := hD
                                    refine W.eq (g2 := F0 m 270 ls []) rfl ?_
                                    refine lv_iconst (v := 0) hx hb dX6_install_270 (by decide) ?_
                                    refine lv_istore (lv' := [(7, .int 0), (6, .int (f 641)), (5, .int (nI (1 - rj))), (0, .ref (am 0)), (1, .int (nI (224 * rj + 192))), (2, .int 0), (3, .int 1), (4, .int (z_rdigN 0 im_170 md_170))]) hx hb dX6_install_271 hl (by decide) rfl (fun ls hl => ?_)
                                    have lp_273 : ∀ (g_273 : Nat) (i2 : Nat) (f9 : RW) (p9 : Int32) (r9 : Int32) (l9 : Int32) (a9 : Int32) (H : Heap) (locs : List Loc) (ls : Array Slot), i2 ≤ 6 → (f9, p9, r9, l9, a9) = y_eUpN k (7 * (1 - rj)) (y_erase k (7 * (1 - rj) + 6) (f, p, nI rj, lf, a)) i2 → 6 - i2 < g_273 → va_P D vwCl (mW cI am ke ve f9 tb tl p9 r9 l9 k a9 im_170 md_170) H → va_D A (mW cI am ke ve f9 tb tl p9 r9 l9 k a9 im_170 md_170) → va_S A s.heap H locs → lv_has ls 9 [(0, .ref (am 0)), (1, .int (nI (224 * rj + 192))), (2, .int 0), (3, .int 1), (4, .int (z_rdigN 0 im_170 md_170)), (5, .int (nI (1 - rj))), (6, .int (f 641)), (7, .int (nI i2))] → W p0 l e rm_X6_install s m args below meth c H locs 0 0 Q (F0 m 273 ls []) := by
                                      intro g_273
                                      induction g_273 with
                                      | zero => intro i2 f9 p9 r9 l9 a9 H locs ls g2 hy h9_273; exact absurd h9_273 (Nat.not_lt_zero _)
                                      | succ g_273 ih_273 =>
                                        intro i2 f9 p9 r9 l9 a9 H locs ls g2 hy h9_273 hP hD hS hl
                                        refine lv_iload hx hb dX6_install_273 (lv_at hl 7 rfl) ?_
                                        refine lv_bipush (v := 6) hx hb dX6_install_275 (by decide) ?_
                                        refine z_icmp_ge (tgt := 298) hx hb dX6_install_277 (by decide) i2 6 rfl rfl (by omega) (by omega) (fun c_277 => ?_) (fun c_277 => ?_)
                                        · -- 277 t
                                          refine lv_aload_n hx hb dX6_install_298 rfl (lv_at hl 0 rfl) ?_
                                          refine va_get (D := D) (ci := 6) (v := .int (nI md_170)) (C := RX6) (T := TX6) (N := 13) hx hb hts iX6_install_X6 hown hK hP 0 rfl rfl 12 (by decide) (hts _ qX6_install_5) (fun _ h9 => h9) rfl dX6_install_299 ?_
                                          refine lv_istore (lv' := [(7, .int (nI md_170)), (0, .ref (am 0)), (1, .int (nI (224 * rj + 192))), (2, .int 0), (3, .int 1), (4, .int (z_rdigN 0 im_170 md_170)), (5, .int (nI (1 - rj))), (6, .int (f 641))]) hx hb dX6_install_302 hl (by decide) rfl (fun ls hl => ?_)
                                          refine lv_iconst (v := 0) hx hb dX6_install_304 (by decide) ?_
                                          refine lv_istore (lv' := [(8, .int 0), (7, .int (nI md_170)), (0, .ref (am 0)), (1, .int (nI (224 * rj + 192))), (2, .int 0), (3, .int 1), (4, .int (z_rdigN 0 im_170 md_170)), (5, .int (nI (1 - rj))), (6, .int (f 641))]) hx hb dX6_install_305 hl (by decide) rfl (fun ls hl => ?_)
                                          have lp_307 : ∀ (g_307 : Nat) (i3 : Nat) (f8 : RW) (p8 : Int32) (r8 : Int32) (l8 : Int32) (a8 : Int32) (H : Heap) (locs : List Loc) (ls : Array Slot), i3 ≤ md_170 → (f8, p8, r8, l8, a8) = y_rowN k (224 * (1 - rj)) im_170 (y_eUpN k (7 * (1 - rj)) (y_erase k (7 * (1 - rj) + 6) (f, p, nI rj, lf, a)) 6) i3 → md_170 - i3 < g_307 → va_P D vwCl (mW cI am ke ve f8 tb tl p8 r8 l8 k a8 im_170 md_170) H → va_D A (mW cI am ke ve f8 tb tl p8 r8 l8 k a8 im_170 md_170) → va_S A s.heap H locs → lv_has ls 9 [(0, .ref (am 0)), (1, .int (nI (224 * rj + 192))), (2, .int 0), (3, .int 1), (4, .int (z_rdigN 0 im_170 md_170)), (5, .int (nI (1 - rj))), (6, .int (f 641)), (7, .int (nI md_170)), (8, .int (nI i3))] → W p0 l e rm_X6_install s m args below meth c H locs 0 0 Q (F0 m 307 ls []) := by
                                            intro g_307
                                            induction g_307 with
                                            | zero => intro i3 f8 p8 r8 l8 a8 H locs ls g3 hz h9_307; exact absurd h9_307 (Nat.not_lt_zero _)
                                            | succ g_307 ih_307 =>
                                              intro i3 f8 p8 r8 l8 a8 H locs ls g3 hz h9_307 hP hD hS hl
                                              refine lv_iload hx hb dX6_install_307 (lv_at hl 8 rfl) ?_
                                              refine lv_iload hx hb dX6_install_309 (lv_at hl 7 rfl) ?_
                                              refine z_icmp_ge (tgt := 339) hx hb dX6_install_311 (by decide) i3 md_170 rfl rfl (by omega) (by omega) (fun c_311 => ?_) (fun c_311 => ?_)
                                              · -- 311 t
                                                obtain rfl : md_170 = i3 := by omega
                                                refine lv_aload_n hx hb dX6_install_339 rfl (lv_at hl 0 rfl) ?_
                                                refine lv_iload hx hb dX6_install_340 (lv_at hl 5 rfl) ?_
                                                refine lv_iload hx hb dX6_install_342 (lv_at hl 7 rfl) ?_
                                                refine lv_iload hx hb dX6_install_344 (lv_at hl 6 rfl) ?_
                                                refine lv_iload hx hb dX6_install_346 (lv_at hl 4 rfl) ?_
                                                refine zVW (ws' := fun u => mW cI am ke ve u.1 tb tl u.2.1 u.2.2.1 u.2.2.2.1 k u.2.2.2.2 im_170 md_170) (As := [.int (nI (1 - rj)), .int (nI md_170), .int (f 641), .int (z_rdigN 0 im_170 md_170)]) (rest := []) ⟨hx, hb, hml, hown, hts⟩ (k_X6_writeHeader l D cI am ke ve f8 tb tl p8 r8 l8 k a8 im_170 md_170 (1 - rj) (nI md_170) (f 641) (z_rdigN 0 im_170 md_170) (by omega)) (cwV 4 hts gX6_install_X6_writeHeader rfl rfl rfl (by decide +kernel) ⟨Nat.le_of_ble_eq_true rfl, Nat.le_of_ble_eq_true rfl⟩) hP hK hN hD hS hA [0, 1, 2, 3, 4] [] [] rfl (by decide) rfl (fun _ => rfl) (fun _ => rfl) (fun _ => rfl) rfl (va_recv hK hP (ci := 6) (q0 := 0) rfl rfl) rfl hl.1 rfl (Nat.le_of_ble_eq_true rfl) dX6_install_348 ⟨Nat.zero_le _, Nat.zero_le _⟩ (fun u_348 H locs hu_348 hP hD hS => ?_)
                                                obtain ⟨f_348, p_348, r_348, lf_348, a_348⟩ := u_348
                                                have hP : va_P D vwCl (mW cI am ke ve f_348 tb tl p_348 r_348 lf_348 k a_348 im_170 md_170) _ := hP
                                                have hD : va_D A (mW cI am ke ve f_348 tb tl p_348 r_348 lf_348 k a_348 im_170 md_170) := hD
                                                refine W.eq (g2 := F0 m 351 ls []) rfl ?_
                                                refine lv_aload_n hx hb dX6_install_351 rfl (lv_at hl 0 rfl) ?_
                                                refine lv_iload hx hb dX6_install_352 (lv_at hl 5 rfl) ?_
                                                refine zSR (As := [.int (nI (1 - rj))]) (rest := [.ref (am 0)]) ⟨hx, hb, hml, hown, hts⟩ (k_X6_headerAt l D cI (1 - rj)) (va_cwS 1 hts gX6_install_X6_headerAt rfl rfl rfl (by decide +kernel) ⟨Nat.le_of_ble_eq_true rfl, Nat.le_of_ble_eq_true rfl⟩) hP hK hN [] rfl rfl hl.1 rfl (Nat.le_of_ble_eq_true rfl) dX6_install_354 ⟨Nat.zero_le _, Nat.zero_le _⟩ ?_
                                                refine lv_bipush (v := 6) hx hb dX6_install_357 (by decide) ?_
                                                refine lv_iadd hx hb dX6_install_359 ?_
                                                refine z_top (v := nI ((224 * (1 - rj) + 192) + 6)) (nI_add (224 * (1 - rj) + 192) 6) ?_
                                                refine lv_bipush (v := 15) hx hb dX6_install_360 (by decide) ?_
                                                refine zVW (ws' := fun u => mW cI am ke ve u.1 tb tl u.2.1 u.2.2.1 u.2.2.2.1 k u.2.2.2.2 im_170 md_170) (As := [.int (nI ((224 * (1 - rj) + 192) + 6)), .int 15]) (rest := []) ⟨hx, hb, hml, hown, hts⟩ (k_X6_program l D cI am ke ve f_348 tb tl p_348 r_348 lf_348 k a_348 im_170 md_170 ((224 * (1 - rj) + 192) + 6) 15 (by omega)) (cwV 2 hts gX6_install_X6_program rfl rfl rfl (by decide +kernel) ⟨Nat.le_of_ble_eq_true rfl, Nat.le_of_ble_eq_true rfl⟩) hP hK hN hD hS hA [0, 1, 2, 3, 4] [] [] rfl (by decide) rfl (fun _ => rfl) (fun _ => rfl) (fun _ => rfl) rfl (va_recv hK hP (ci := 6) (q0 := 0) rfl rfl) rfl hl.1 rfl (Nat.le_of_ble_eq_true rfl) dX6_install_362 ⟨Nat.zero_le _, Nat.zero_le _⟩ (fun u_362 H locs hu_362 hP hD hS => ?_)
                                                obtain ⟨f_362, p_362, r_362, lf_362, a_362⟩ := u_362
                                                have hP : va_P D vwCl (mW cI am ke ve f_362 tb tl p_362 r_362 lf_362 k a_362 im_170 md_170) _ := hP
                                                have hD : va_D A (mW cI am ke ve f_362 tb tl p_362 r_362 lf_362 k a_362 im_170 md_170) := hD
                                                refine W.eq (g2 := F0 m 365 ls []) rfl ?_
                                                refine lv_aload_n hx hb dX6_install_365 rfl (lv_at hl 0 rfl) ?_
                                                refine lv_iload hx hb dX6_install_366 (lv_at hl 5 rfl) ?_
                                                refine zSR (As := [.int (nI (1 - rj))]) (rest := [.ref (am 0)]) ⟨hx, hb, hml, hown, hts⟩ (k_X6_headerAt l D cI (1 - rj)) (va_cwS 1 hts gX6_install_X6_headerAt rfl rfl rfl (by decide +kernel) ⟨Nat.le_of_ble_eq_true rfl, Nat.le_of_ble_eq_true rfl⟩) hP hK hN [] rfl rfl hl.1 rfl (Nat.le_of_ble_eq_true rfl) dX6_install_368 ⟨Nat.zero_le _, Nat.zero_le _⟩ ?_
                                                refine lv_bipush (v := 8) hx hb dX6_install_371 (by decide) ?_
                                                refine lv_iadd hx hb dX6_install_373 ?_
                                                refine z_top (v := nI ((224 * (1 - rj) + 192) + 8)) (nI_add (224 * (1 - rj) + 192) 8) ?_
                                                refine lv_iconst (v := 0) hx hb dX6_install_374 (by decide) ?_
                                                refine zVW (ws' := fun u => mW cI am ke ve u.1 tb tl u.2.1 u.2.2.1 u.2.2.2.1 k u.2.2.2.2 im_170 md_170) (As := [.int (nI ((224 * (1 - rj) + 192) + 8)), .int 0]) (rest := []) ⟨hx, hb, hml, hown, hts⟩ (k_X6_program l D cI am ke ve f_362 tb tl p_362 r_362 lf_362 k a_362 im_170 md_170 ((224 * (1 - rj) + 192) + 8) 0 (by omega)) (cwV 2 hts gX6_install_X6_program rfl rfl rfl (by decide +kernel) ⟨Nat.le_of_ble_eq_true rfl, Nat.le_of_ble_eq_true rfl⟩) hP hK hN hD hS hA [0, 1, 2, 3, 4] [] [] rfl (by decide) rfl (fun _ => rfl) (fun _ => rfl) (fun _ => rfl) rfl (va_recv hK hP (ci := 6) (q0 := 0) rfl rfl) rfl hl.1 rfl (Nat.le_of_ble_eq_true rfl) dX6_install_375 ⟨Nat.zero_le _, Nat.zero_le _⟩ (fun u_375 H locs hu_375 hP hD hS => ?_)
                                                obtain ⟨f_375, p_375, r_375, lf_375, a_375⟩ := u_375
                                                have hP : va_P D vwCl (mW cI am ke ve f_375 tb tl p_375 r_375 lf_375 k a_375 im_170 md_170) _ := hP
                                                have hD : va_D A (mW cI am ke ve f_375 tb tl p_375 r_375 lf_375 k a_375 im_170 md_170) := hD
                                                refine W.eq (g2 := F0 m 378 ls []) rfl ?_
                                                refine lv_aload_n hx hb dX6_install_378 rfl (lv_at hl 0 rfl) ?_
                                                refine lv_bipush (v := 20) hx hb dX6_install_379 (by decide) ?_
                                                refine zVW (ws' := fun u => mW cI am ke ve u.1 tb tl u.2.1 u.2.2.1 u.2.2.2.1 k u.2.2.2.2 im_170 md_170) (As := [.int 20]) (rest := []) ⟨hx, hb, hml, hown, hts⟩ (k_X6_erase l D cI am ke ve f_375 tb tl p_375 r_375 lf_375 k a_375 im_170 md_170 20 (by omega)) (cwV 1 hts gX6_install_X6_erase rfl rfl rfl (by decide +kernel) ⟨Nat.le_of_ble_eq_true rfl, Nat.le_of_ble_eq_true rfl⟩) hP hK hN hD hS hA [0, 1, 2, 3, 4] [] [] rfl (by decide) rfl (fun _ => rfl) (fun _ => rfl) (fun _ => rfl) rfl (va_recv hK hP (ci := 6) (q0 := 0) rfl rfl) rfl hl.1 rfl (Nat.le_of_ble_eq_true rfl) dX6_install_381 ⟨Nat.zero_le _, Nat.zero_le _⟩ (fun u_381 H locs hu_381 hP hD hS => ?_)
                                                obtain ⟨f_381, p_381, r_381, lf_381, a_381⟩ := u_381
                                                have hP : va_P D vwCl (mW cI am ke ve f_381 tb tl p_381 r_381 lf_381 k a_381 im_170 md_170) _ := hP
                                                have hD : va_D A (mW cI am ke ve f_381 tb tl p_381 r_381 lf_381 k a_381 im_170 md_170) := hD
                                                refine W.eq (g2 := F0 m 384 ls []) rfl ?_
                                                refine lv_aload_n hx hb dX6_install_384 rfl (lv_at hl 0 rfl) ?_
                                                refine va_get (D := D) (ci := 6) (v := .int p_381) (C := RX6) (T := TX6) (N := 13) hx hb hts iX6_install_X6 hown hK hP 0 rfl rfl 6 (by decide) (hts _ qX6_install_2) (fun _ h9 => h9) rfl dX6_install_385 ?_
                                                refine lv_if_eq (tgt := 395) hx hb dX6_install_388 (by decide) (fun c_388 => ?_) (fun c_388 => ?_)
                                                · -- 388 t
                                                  refine lv_bipush (v := (-2)) hx hb dX6_install_395 (by decide) ?_
                                                  exact hret 397 ls _ _ ((-2), f_381, p_381, r_381, lf_381, a_381, im_170, md_170) (-2) _ dX6_install_397 rfl rfl rfl (by simp only [y_install, if_neg c_9, if_neg c_19, if_pos c_30, y_stgd, if_neg (show ¬ y_stgN f (y_blks f).toNatClampNeg 0 = 0 by rw [← hw]; exact (by decide : ¬ (1 : Int32) = 0)), nI_clamp (show rj < 2 ^ 31 by omega), y_mk, y_ins3, if_pos c_83, if_pos c_114, ← hu_170, if_neg c_173, if_pos c_234, y_upd, ← hz, ← hu_348, ← hu_362, ← hu_375, ← hu_381, y_ins4, if_pos c_388]) hP hS
                                                · -- 388 f
                                                  refine lv_iconst (v := 1) hx hb dX6_install_391 (by decide) ?_
                                                  refine lv_goto (tgt := 397) hx hb dX6_install_392 (by decide) ?_
                                                  exact hret 397 ls _ _ (1, f_381, p_381, r_381, lf_381, a_381, im_170, md_170) 1 _ dX6_install_397 rfl rfl rfl (by simp only [y_install, if_neg c_9, if_neg c_19, if_pos c_30, y_stgd, if_neg (show ¬ y_stgN f (y_blks f).toNatClampNeg 0 = 0 by rw [← hw]; exact (by decide : ¬ (1 : Int32) = 0)), nI_clamp (show rj < 2 ^ 31 by omega), y_mk, y_ins3, if_pos c_83, if_pos c_114, ← hu_170, if_neg c_173, if_pos c_234, y_upd, ← hz, ← hu_348, ← hu_362, ← hu_375, ← hu_381, y_ins4, if_neg c_388]) hP hS
                                              · -- 311 f
                                                refine lv_aload_n hx hb dX6_install_314 rfl (lv_at hl 0 rfl) ?_
                                                refine lv_iload hx hb dX6_install_315 (lv_at hl 5 rfl) ?_
                                                refine zSR (As := [.int (nI (1 - rj))]) (rest := [.ref (am 0)]) ⟨hx, hb, hml, hown, hts⟩ (k_X6_imageAt l D cI (1 - rj)) (va_cwS 1 hts gX6_install_X6_imageAt rfl rfl rfl (by decide +kernel) ⟨Nat.le_of_ble_eq_true rfl, Nat.le_of_ble_eq_true rfl⟩) hP hK hN [] rfl rfl hl.1 rfl (Nat.le_of_ble_eq_true rfl) dX6_install_317 ⟨Nat.zero_le _, Nat.zero_le _⟩ ?_
                                                refine lv_iload hx hb dX6_install_320 (lv_at hl 8 rfl) ?_
                                                refine lv_iadd hx hb dX6_install_322 ?_
                                                refine z_top (v := nI ((224 * (1 - rj)) + i3)) (nI_add (224 * (1 - rj)) i3) ?_
                                                refine lv_aload_n hx hb dX6_install_323 rfl (lv_at hl 0 rfl) ?_
                                                refine va_get (D := D) (ci := 6) (v := .ref (am 4)) (C := RX6) (T := TX6) (N := 13) hx hb hts iX6_install_X6 hown hK hP 0 rfl rfl 11 (by decide) (hts _ qX6_install_6) (fun _ h9 => h9) rfl dX6_install_324 ?_
                                                refine lv_iload hx hb dX6_install_327 (lv_at hl 8 rfl) ?_
                                                refine z_iald hx hb hK hP 4 0 rfl rfl i3 rfl (by omega) (by decide) dX6_install_329 ?_
                                                refine zVW (ws' := fun u => mW cI am ke ve u.1 tb tl u.2.1 u.2.2.1 u.2.2.2.1 k u.2.2.2.2 im_170 md_170) (As := [.int (nI ((224 * (1 - rj)) + i3)), .int (im_170 i3)]) (rest := []) ⟨hx, hb, hml, hown, hts⟩ (k_X6_program l D cI am ke ve f8 tb tl p8 r8 l8 k a8 im_170 md_170 ((224 * (1 - rj)) + i3) (im_170 i3) (by omega)) (cwV 2 hts gX6_install_X6_program rfl rfl rfl (by decide +kernel) ⟨Nat.le_of_ble_eq_true rfl, Nat.le_of_ble_eq_true rfl⟩) hP hK hN hD hS hA [0, 1, 2, 3, 4] [] [] rfl (by decide) rfl (fun _ => rfl) (fun _ => rfl) (fun _ => rfl) rfl (va_recv hK hP (ci := 6) (q0 := 0) rfl rfl) rfl hl.1 rfl (Nat.le_of_ble_eq_true rfl) dX6_install_330 ⟨Nat.zero_le _, Nat.zero_le _⟩ (fun u_330 H locs hu_330 hP hD hS => ?_)
                                                obtain ⟨f_330, p_330, r_330, lf_330, a_330⟩ := u_330
                                                have hP : va_P D vwCl (mW cI am ke ve f_330 tb tl p_330 r_330 lf_330 k a_330 im_170 md_170) _ := hP
                                                have hD : va_D A (mW cI am ke ve f_330 tb tl p_330 r_330 lf_330 k a_330 im_170 md_170) := hD
                                                refine W.eq (g2 := F0 m 333 ls []) rfl ?_
                                                refine lv_iinc (v := (nI (i3 + 1))) (lv' := [(8, .int (nI (i3 + 1))), (0, .ref (am 0)), (1, .int (nI (224 * rj + 192))), (2, .int 0), (3, .int 1), (4, .int (z_rdigN 0 im_170 md_170)), (5, .int (nI (1 - rj))), (6, .int (f 641)), (7, .int (nI md_170))]) hx hb dX6_install_333 hl (k := 8) rfl (z_inc _ _ rfl) (by decide) rfl (fun ls hl => ?_)
                                                refine lv_goto (tgt := 307) hx hb dX6_install_336 (by decide) ?_
                                                exact ih_307 (i3 + 1) f_330 p_330 r_330 lf_330 a_330 _ _ _ (by omega) (by rw [hu_330, y_rowN, ← hz]) (by omega) hP hD hS (lv_sub hl [1, 2, 3, 4, 5, 6, 7, 8, 0] rfl)
                                          exact lp_307 _ 0 f9 p9 r9 l9 a9 _ _ _ (Nat.zero_le _) (by rw [y_rowN]; exact hy.trans (by rw [show i2 = 6 by omega])) (Nat.lt_succ_self _) hP hD hS (lv_sub hl [2, 3, 4, 5, 6, 7, 8, 1, 0] rfl)
                                        · -- 277 f
                                          refine lv_aload_n hx hb dX6_install_280 rfl (lv_at hl 0 rfl) ?_
                                          refine lv_bipush (v := 7) hx hb dX6_install_281 (by decide) ?_
                                          refine lv_iload hx hb dX6_install_283 (lv_at hl 5 rfl) ?_
                                          refine lv_imul hx hb dX6_install_285 ?_
                                          refine z_top (v := nI (7 * (1 - rj))) (pk_mul 7 (1 - rj)) ?_
                                          refine lv_iload hx hb dX6_install_286 (lv_at hl 7 rfl) ?_
                                          refine lv_iadd hx hb dX6_install_288 ?_
                                          refine z_top (v := nI ((7 * (1 - rj)) + i2)) (nI_add (7 * (1 - rj)) i2) ?_
                                          refine zVW (ws' := fun u => mW cI am ke ve u.1 tb tl u.2.1 u.2.2.1 u.2.2.2.1 k u.2.2.2.2 im_170 md_170) (As := [.int (nI ((7 * (1 - rj)) + i2))]) (rest := []) ⟨hx, hb, hml, hown, hts⟩ (k_X6_erase l D cI am ke ve f9 tb tl p9 r9 l9 k a9 im_170 md_170 ((7 * (1 - rj)) + i2) (by omega)) (cwV 1 hts gX6_install_X6_erase rfl rfl rfl (by decide +kernel) ⟨Nat.le_of_ble_eq_true rfl, Nat.le_of_ble_eq_true rfl⟩) hP hK hN hD hS hA [0, 1, 2, 3, 4] [] [] rfl (by decide) rfl (fun _ => rfl) (fun _ => rfl) (fun _ => rfl) rfl (va_recv hK hP (ci := 6) (q0 := 0) rfl rfl) rfl hl.1 rfl (Nat.le_of_ble_eq_true rfl) dX6_install_289 ⟨Nat.zero_le _, Nat.zero_le _⟩ (fun u_289 H locs hu_289 hP hD hS => ?_)
                                          obtain ⟨f_289, p_289, r_289, lf_289, a_289⟩ := u_289
                                          have hP : va_P D vwCl (mW cI am ke ve f_289 tb tl p_289 r_289 lf_289 k a_289 im_170 md_170) _ := hP
                                          have hD : va_D A (mW cI am ke ve f_289 tb tl p_289 r_289 lf_289 k a_289 im_170 md_170) := hD
                                          refine W.eq (g2 := F0 m 292 ls []) rfl ?_
                                          refine lv_iinc (v := (nI (i2 + 1))) (lv' := [(7, .int (nI (i2 + 1))), (0, .ref (am 0)), (1, .int (nI (224 * rj + 192))), (2, .int 0), (3, .int 1), (4, .int (z_rdigN 0 im_170 md_170)), (5, .int (nI (1 - rj))), (6, .int (f 641))]) hx hb dX6_install_292 hl (k := 7) rfl (z_inc _ _ rfl) (by decide) rfl (fun ls hl => ?_)
                                          refine lv_goto (tgt := 273) hx hb dX6_install_295 (by decide) ?_
                                          exact ih_273 (i2 + 1) f_289 p_289 r_289 lf_289 a_289 _ _ _ (by omega) (by rw [hu_289, y_eUpN, ← hy]) (by omega) hP hD hS (lv_sub hl [1, 2, 3, 4, 5, 6, 7, 0] rfl)
                                    exact lp_273 _ 0 f_267 p_267 r_267 lf_267 a_267 _ _ _ (by omega) (by rw [y_eUpN, ← hu_267]) (Nat.lt_succ_self _) hP hD hS (lv_sub hl [3, 4, 5, 6, 7, 2, 1, 0] rfl)
                                  · -- 234 f
                                    refine lv_bipush (v := (-6)) hx hb dX6_install_237 (by decide) ?_
                                    exact hret 239 ls _ _ ((-6), f, p, nI rj, lf, a, im_170, md_170) (-6) _ dX6_install_239 rfl rfl rfl (by simp only [y_install, if_neg c_9, if_neg c_19, if_pos c_30, y_stgd, if_neg (show ¬ y_stgN f (y_blks f).toNatClampNeg 0 = 0 by rw [← hw]; exact (by decide : ¬ (1 : Int32) = 0)), nI_clamp (show rj < 2 ^ 31 by omega), y_mk, y_ins3, if_pos c_83, if_pos c_114, ← hu_170, if_neg c_173, if_neg c_234]) hP hS
                              · -- 194 f
                                refine lv_iload_n hx hb dX6_install_197 rfl (lv_at hl 3 rfl) ?_
                                refine lv_if_eq (tgt := 221) hx hb dX6_install_198 (by decide) (fun c_198 => ?_) (fun c_198 => ?_)
                                · -- 198 t
                                  exact absurd c_198 (by decide)
                                · -- 198 f
                                  refine lv_iload hx hb dX6_install_201 (lv_at hl 4 rfl) ?_
                                  refine lv_aload_n hx hb dX6_install_203 rfl (lv_at hl 0 rfl) ?_
                                  refine va_get (D := D) (ci := 6) (v := .ref (am 4)) (C := RX6) (T := TX6) (N := 13) hx hb hts iX6_install_X6 hown hK hP 0 rfl rfl 11 (by decide) (hts _ qX6_install_6) (fun _ h9 => h9) rfl dX6_install_204 ?_
                                  refine lv_iload hx hb dX6_install_207 (lv_at hl 5 rfl) ?_
                                  refine z_iald hx hb hK hP 4 0 rfl rfl j rfl (by omega) (by decide) dX6_install_209 ?_
                                  refine zSR (As := [.int (z_rdigN 0 im_170 j), .int (im_170 j)]) (rest := []) ⟨hx, hb, hml, hown, hts⟩ (k_X6_digested l D cI (z_rdigN 0 im_170 j) (im_170 j)) (va_cwS 2 hts gX6_install_X6_digested rfl rfl rfl (by decide +kernel) ⟨Nat.le_of_ble_eq_true rfl, Nat.le_of_ble_eq_true rfl⟩) hP hK hN [] rfl rfl hl.1 rfl (Nat.le_of_ble_eq_true rfl) dX6_install_210 ⟨Nat.zero_le _, Nat.zero_le _⟩ ?_
                                  refine lv_istore (lv' := [(4, .int (z_digB (z_rdigN 0 im_170 j) (im_170 j))), (0, .ref (am 0)), (1, .int (nI (224 * rj + 192))), (2, .int 0), (3, .int 1), (5, .int (nI j))]) hx hb dX6_install_213 hl (by decide) rfl (fun ls hl => ?_)
                                  refine lv_iinc (v := (nI (j + 1))) (lv' := [(5, .int (nI (j + 1))), (4, .int (z_digB (z_rdigN 0 im_170 j) (im_170 j))), (0, .ref (am 0)), (1, .int (nI (224 * rj + 192))), (2, .int 0), (3, .int 1)]) hx hb dX6_install_215 hl (k := 5) rfl (z_inc _ _ rfl) (by decide) rfl (fun ls hl => ?_)
                                  refine lv_goto (tgt := 188) hx hb dX6_install_218 (by decide) ?_
                                  exact ih_188 (j + 1) _ _ _ (by omega) (by omega) hP hD hS (lv_sub hl [2, 3, 4, 5, 1, 0] rfl)
                          exact lp_188 _ 0 _ _ _ (Nat.zero_le _) (Nat.lt_succ_self _) hP hD hS (lv_sub hl [5, 4, 3, 2, 1, 0] rfl)
                      · -- 157 f
                        exact absurd (by decide) c_157
                  · -- 118 f
                    exact absurd (by decide) c_118
              · -- 83 f
                refine lv_iconst (v := 1) hx hb dX6_install_86 (by decide) ?_
                refine lv_goto (tgt := 91) hx hb dX6_install_87 (by decide) ?_
                refine lv_istore_n (lv' := [(2, .int 1), (1, .int (nI (224 * rj + 192))), (0, .ref (am 0))]) hx hb dX6_install_91 rfl hl (by decide) rfl (fun ls hl => ?_)
                refine lv_aload_n hx hb dX6_install_92 rfl (lv_at hl 2 rfl) ?_
                refine lv_sipush (v := 448) hx hb dX6_install_93 (by decide) ?_
                refine lv_aload_n hx hb dX6_install_96 rfl (lv_at hl 2 rfl) ?_
                refine va_get (D := D) (ci := 6) (v := .ref (am 1)) (C := RX6) (T := TX6) (N := 13) hx hb hts iX6_install_X6 hown hK hP 0 rfl rfl 1 (by decide) (hts _ qX6_install_3) (fun _ h9 => h9) rfl dX6_install_97 ?_
                refine lv_sipush (v := 646) hx hb dX6_install_100 (by decide) ?_
                refine z_iald hx hb hK hP 1 0 rfl rfl 646 rfl (by omega) (by decide) dX6_install_103 ?_
                refine z_top (v := nI (zb f 646)) (e1) ?_
                refine zVR (As := [.int 448, .int (nI (zb f 646))]) (rest := []) ⟨hx, hb, hml, hown, hts⟩ (k_X6_digestOf l D cI am ke ve f tb tl p (nI rj) lf k a im md 448 (zb f 646) (by omega)) (cwV 2 hts gX6_install_X6_digestOf rfl rfl rfl (by decide +kernel) ⟨Nat.le_of_ble_eq_true rfl, Nat.le_of_ble_eq_true rfl⟩) hP hK hN [0, 1, 2, 3, 4] rfl (va_recv hK hP (ci := 6) (q0 := 0) rfl rfl) rfl hl.1 rfl (Nat.le_of_ble_eq_true rfl) dX6_install_104 ⟨Nat.zero_le _, Nat.zero_le _⟩ ?_
                refine lv_aload_n hx hb dX6_install_107 rfl (lv_at hl 2 rfl) ?_
                refine lv_sipush (v := 647) hx hb dX6_install_108 (by decide) ?_
                refine zVR (As := [.int 647]) (rest := [.int (y_digN f 448 (zb f 646))]) ⟨hx, hb, hml, hown, hts⟩ (k_X6_four l D cI am ke ve f tb tl p (nI rj) lf k a im md 647 (by omega)) (cwV 1 hts gX6_install_X6_four rfl rfl rfl (by decide +kernel) ⟨Nat.le_of_ble_eq_true rfl, Nat.le_of_ble_eq_true rfl⟩) hP hK hN [0, 1, 2, 3, 4] rfl (va_recv hK hP (ci := 6) (q0 := 0) rfl rfl) rfl hl.1 rfl (Nat.le_of_ble_eq_true rfl) dX6_install_111 ⟨Nat.zero_le _, Nat.zero_le _⟩ ?_
                refine lv_icmp_ne (tgt := 142) hx hb dX6_install_114 (by decide) (fun c_114 => ?_) (fun c_114 => ?_)
                · -- 114 t
                  refine lv_iconst (v := 0) hx hb dX6_install_142 (by decide) ?_
                  refine lv_istore_n (lv' := [(3, .int 0), (2, .int 1), (1, .int (nI (224 * rj + 192))), (0, .ref (am 0))]) hx hb dX6_install_143 rfl hl (by decide) rfl (fun ls hl => ?_)
                  refine lv_iload_n hx hb dX6_install_144 rfl (lv_at hl 0 rfl) ?_
                  refine lv_if_eq (tgt := 180) hx hb dX6_install_145 (by decide) (fun c_145 => ?_) (fun c_145 => ?_)
                  · -- 145 t
                    refine lv_iconst (v := 0) hx hb dX6_install_180 (by decide) ?_
                    refine lv_istore_n (lv' := [(3, .int 0), (2, .int 1), (1, .int (nI (224 * rj + 192))), (0, .ref (am 0))]) hx hb dX6_install_181 rfl hl (by decide) rfl (fun ls hl => ?_)
                    refine lv_iconst (v := 0) hx hb dX6_install_182 (by decide) ?_
                    refine lv_istore (lv' := [(4, .int 0), (3, .int 0), (2, .int 1), (1, .int (nI (224 * rj + 192))), (0, .ref (am 0))]) hx hb dX6_install_183 hl (by decide) rfl (fun ls hl => ?_)
                    refine lv_iconst (v := 0) hx hb dX6_install_185 (by decide) ?_
                    refine lv_istore (lv' := [(5, .int 0), (4, .int 0), (3, .int 0), (2, .int 1), (1, .int (nI (224 * rj + 192))), (0, .ref (am 0))]) hx hb dX6_install_186 hl (by decide) rfl (fun ls hl => ?_)
                    have lp_188 : ∀ (g_188 : Nat) (j : Nat) (H : Heap) (locs : List Loc) (ls : Array Slot), j ≤ md → md - j < g_188 → va_P D vwCl (mW cI am ke ve f tb tl p (nI rj) lf k a im md) H → va_D A (mW cI am ke ve f tb tl p (nI rj) lf k a im md) → va_S A s.heap H locs → lv_has ls 9 [(0, .ref (am 0)), (1, .int (nI (224 * rj + 192))), (2, .int 1), (3, .int 0), (4, .int (z_rdigN 0 im j)), (5, .int (nI j))] → W p0 l e rm_X6_install s m args below meth c H locs 0 0 Q (F0 m 188 ls []) := by
                      intro g_188
                      induction g_188 with
                      | zero => intro j H locs ls g1 h9_188; exact absurd h9_188 (Nat.not_lt_zero _)
                      | succ g_188 ih_188 =>
                        intro j H locs ls g1 h9_188 hP hD hS hl
                        refine lv_iload hx hb dX6_install_188 (lv_at hl 5 rfl) ?_
                        refine lv_aload_n hx hb dX6_install_190 rfl (lv_at hl 0 rfl) ?_
                        refine va_get (D := D) (ci := 6) (v := .int (nI md)) (C := RX6) (T := TX6) (N := 13) hx hb hts iX6_install_X6 hown hK hP 0 rfl rfl 12 (by decide) (hts _ qX6_install_5) (fun _ h9 => h9) rfl dX6_install_191 ?_
                        refine z_icmp_ge (tgt := 221) hx hb dX6_install_194 (by decide) j md rfl rfl (by omega) (by omega) (fun c_194 => ?_) (fun c_194 => ?_)
                        · -- 194 t
                          obtain rfl : md = j := by omega
                          refine lv_iload_n hx hb dX6_install_221 rfl (lv_at hl 3 rfl) ?_
                          refine lv_if_eq (tgt := 237) hx hb dX6_install_222 (by decide) (fun c_222 => ?_) (fun c_222 => ?_)
                          · -- 222 t
                            refine lv_bipush (v := (-6)) hx hb dX6_install_237 (by decide) ?_
                            exact hret 239 ls _ _ ((-6), f, p, nI rj, lf, a, im, md) (-6) _ dX6_install_239 rfl rfl rfl (by simp only [y_install, if_neg c_9, if_neg c_19, if_pos c_30, y_stgd, if_neg (show ¬ y_stgN f (y_blks f).toNatClampNeg 0 = 0 by rw [← hw]; exact (by decide : ¬ (1 : Int32) = 0)), nI_clamp (show rj < 2 ^ 31 by omega), y_mk, y_ins3, if_neg c_83, if_neg c_114, if_true]) hP hS
                          · -- 222 f
                            exact absurd (by decide) c_222
                        · -- 194 f
                          refine lv_iload_n hx hb dX6_install_197 rfl (lv_at hl 3 rfl) ?_
                          refine lv_if_eq (tgt := 221) hx hb dX6_install_198 (by decide) (fun c_198 => ?_) (fun c_198 => ?_)
                          · -- 198 t
                            refine lv_iload_n hx hb dX6_install_221 rfl (lv_at hl 3 rfl) ?_
                            refine lv_if_eq (tgt := 237) hx hb dX6_install_222 (by decide) (fun c_222 => ?_) (fun c_222 => ?_)
                            · -- 222 t
                              refine lv_bipush (v := (-6)) hx hb dX6_install_237 (by decide) ?_
                              exact hret 239 ls _ _ ((-6), f, p, nI rj, lf, a, im, md) (-6) _ dX6_install_239 rfl rfl rfl (by simp only [y_install, if_neg c_9, if_neg c_19, if_pos c_30, y_stgd, if_neg (show ¬ y_stgN f (y_blks f).toNatClampNeg 0 = 0 by rw [← hw]; exact (by decide : ¬ (1 : Int32) = 0)), nI_clamp (show rj < 2 ^ 31 by omega), y_mk, y_ins3, if_neg c_83, if_neg c_114, if_true]) hP hS
                            · -- 222 f
                              exact absurd (by decide) c_222
                          · -- 198 f
                            exact absurd (by decide) c_198
                    exact lp_188 _ 0 _ _ _ (Nat.zero_le _) (Nat.lt_succ_self _) hP hD hS (lv_sub hl [5, 4, 3, 2, 1, 0] rfl)
                  · -- 145 f
                    exact absurd (by decide) c_145
                · -- 114 f
                  refine lv_iload_n hx hb dX6_install_117 rfl (lv_at hl 0 rfl) ?_
                  refine lv_if_eq (tgt := 138) hx hb dX6_install_118 (by decide) (fun c_118 => ?_) (fun c_118 => ?_)
                  · -- 118 t
                    exact absurd c_118 (by decide)
                  · -- 118 f
                    refine lv_aload_n hx hb dX6_install_121 rfl (lv_at hl 2 rfl) ?_
                    refine lv_sipush (v := 642) hx hb dX6_install_122 (by decide) ?_
                    refine zVR (As := [.int 642]) (rest := []) ⟨hx, hb, hml, hown, hts⟩ (k_X6_four l D cI am ke ve f tb tl p (nI rj) lf k a im md 642 (by omega)) (cwV 1 hts gX6_install_X6_four rfl rfl rfl (by decide +kernel) ⟨Nat.le_of_ble_eq_true rfl, Nat.le_of_ble_eq_true rfl⟩) hP hK hN [0, 1, 2, 3, 4] rfl (va_recv hK hP (ci := 6) (q0 := 0) rfl rfl) rfl hl.1 rfl (Nat.le_of_ble_eq_true rfl) dX6_install_125 ⟨Nat.zero_le _, Nat.zero_le _⟩ ?_
                    refine lv_aload_n hx hb dX6_install_128 rfl (lv_at hl 2 rfl) ?_
                    refine lv_iload_n hx hb dX6_install_129 rfl (lv_at hl 1 rfl) ?_
                    refine lv_iconst (v := 2) hx hb dX6_install_130 (by decide) ?_
                    refine lv_iadd hx hb dX6_install_131 ?_
                    refine z_top (v := nI ((224 * rj + 192) + 2)) (nI_add (224 * rj + 192) 2) ?_
                    refine zVR (As := [.int (nI ((224 * rj + 192) + 2))]) (rest := [.int (y_four f 642)]) ⟨hx, hb, hml, hown, hts⟩ (k_X6_four l D cI am ke ve f tb tl p (nI rj) lf k a im md ((224 * rj + 192) + 2) (by omega)) (cwV 1 hts gX6_install_X6_four rfl rfl rfl (by decide +kernel) ⟨Nat.le_of_ble_eq_true rfl, Nat.le_of_ble_eq_true rfl⟩) hP hK hN [0, 1, 2, 3, 4] rfl (va_recv hK hP (ci := 6) (q0 := 0) rfl rfl) rfl hl.1 rfl (Nat.le_of_ble_eq_true rfl) dX6_install_132 ⟨Nat.zero_le _, Nat.zero_le _⟩ ?_
                    refine lv_icmp_ne (tgt := 142) hx hb dX6_install_135 (by decide) (fun c_135 => ?_) (fun c_135 => ?_)
                    · -- 135 t
                      refine lv_iconst (v := 0) hx hb dX6_install_142 (by decide) ?_
                      refine lv_istore_n (lv' := [(3, .int 0), (2, .int 1), (1, .int (nI (224 * rj + 192))), (0, .ref (am 0))]) hx hb dX6_install_143 rfl hl (by decide) rfl (fun ls hl => ?_)
                      refine lv_iload_n hx hb dX6_install_144 rfl (lv_at hl 0 rfl) ?_
                      refine lv_if_eq (tgt := 180) hx hb dX6_install_145 (by decide) (fun c_145 => ?_) (fun c_145 => ?_)
                      · -- 145 t
                        refine lv_iconst (v := 0) hx hb dX6_install_180 (by decide) ?_
                        refine lv_istore_n (lv' := [(3, .int 0), (2, .int 1), (1, .int (nI (224 * rj + 192))), (0, .ref (am 0))]) hx hb dX6_install_181 rfl hl (by decide) rfl (fun ls hl => ?_)
                        refine lv_iconst (v := 0) hx hb dX6_install_182 (by decide) ?_
                        refine lv_istore (lv' := [(4, .int 0), (3, .int 0), (2, .int 1), (1, .int (nI (224 * rj + 192))), (0, .ref (am 0))]) hx hb dX6_install_183 hl (by decide) rfl (fun ls hl => ?_)
                        refine lv_iconst (v := 0) hx hb dX6_install_185 (by decide) ?_
                        refine lv_istore (lv' := [(5, .int 0), (4, .int 0), (3, .int 0), (2, .int 1), (1, .int (nI (224 * rj + 192))), (0, .ref (am 0))]) hx hb dX6_install_186 hl (by decide) rfl (fun ls hl => ?_)
                        have lp_188 : ∀ (g_188 : Nat) (j : Nat) (H : Heap) (locs : List Loc) (ls : Array Slot), j ≤ md → md - j < g_188 → va_P D vwCl (mW cI am ke ve f tb tl p (nI rj) lf k a im md) H → va_D A (mW cI am ke ve f tb tl p (nI rj) lf k a im md) → va_S A s.heap H locs → lv_has ls 9 [(0, .ref (am 0)), (1, .int (nI (224 * rj + 192))), (2, .int 1), (3, .int 0), (4, .int (z_rdigN 0 im j)), (5, .int (nI j))] → W p0 l e rm_X6_install s m args below meth c H locs 0 0 Q (F0 m 188 ls []) := by
                          intro g_188
                          induction g_188 with
                          | zero => intro j H locs ls g1 h9_188; exact absurd h9_188 (Nat.not_lt_zero _)
                          | succ g_188 ih_188 =>
                            intro j H locs ls g1 h9_188 hP hD hS hl
                            refine lv_iload hx hb dX6_install_188 (lv_at hl 5 rfl) ?_
                            refine lv_aload_n hx hb dX6_install_190 rfl (lv_at hl 0 rfl) ?_
                            refine va_get (D := D) (ci := 6) (v := .int (nI md)) (C := RX6) (T := TX6) (N := 13) hx hb hts iX6_install_X6 hown hK hP 0 rfl rfl 12 (by decide) (hts _ qX6_install_5) (fun _ h9 => h9) rfl dX6_install_191 ?_
                            refine z_icmp_ge (tgt := 221) hx hb dX6_install_194 (by decide) j md rfl rfl (by omega) (by omega) (fun c_194 => ?_) (fun c_194 => ?_)
                            · -- 194 t
                              obtain rfl : md = j := by omega
                              refine lv_iload_n hx hb dX6_install_221 rfl (lv_at hl 3 rfl) ?_
                              refine lv_if_eq (tgt := 237) hx hb dX6_install_222 (by decide) (fun c_222 => ?_) (fun c_222 => ?_)
                              · -- 222 t
                                refine lv_bipush (v := (-6)) hx hb dX6_install_237 (by decide) ?_
                                exact hret 239 ls _ _ ((-6), f, p, nI rj, lf, a, im, md) (-6) _ dX6_install_239 rfl rfl rfl (by simp only [y_install, if_neg c_9, if_neg c_19, if_pos c_30, y_stgd, if_neg (show ¬ y_stgN f (y_blks f).toNatClampNeg 0 = 0 by rw [← hw]; exact (by decide : ¬ (1 : Int32) = 0)), nI_clamp (show rj < 2 ^ 31 by omega), y_mk, y_ins3, if_neg c_83, if_pos c_114, if_neg c_135, if_true]) hP hS
                              · -- 222 f
                                exact absurd (by decide) c_222
                            · -- 194 f
                              refine lv_iload_n hx hb dX6_install_197 rfl (lv_at hl 3 rfl) ?_
                              refine lv_if_eq (tgt := 221) hx hb dX6_install_198 (by decide) (fun c_198 => ?_) (fun c_198 => ?_)
                              · -- 198 t
                                refine lv_iload_n hx hb dX6_install_221 rfl (lv_at hl 3 rfl) ?_
                                refine lv_if_eq (tgt := 237) hx hb dX6_install_222 (by decide) (fun c_222 => ?_) (fun c_222 => ?_)
                                · -- 222 t
                                  refine lv_bipush (v := (-6)) hx hb dX6_install_237 (by decide) ?_
                                  exact hret 239 ls _ _ ((-6), f, p, nI rj, lf, a, im, md) (-6) _ dX6_install_239 rfl rfl rfl (by simp only [y_install, if_neg c_9, if_neg c_19, if_pos c_30, y_stgd, if_neg (show ¬ y_stgN f (y_blks f).toNatClampNeg 0 = 0 by rw [← hw]; exact (by decide : ¬ (1 : Int32) = 0)), nI_clamp (show rj < 2 ^ 31 by omega), y_mk, y_ins3, if_neg c_83, if_pos c_114, if_neg c_135, if_true]) hP hS
                                · -- 222 f
                                  exact absurd (by decide) c_222
                              · -- 198 f
                                exact absurd (by decide) c_198
                        exact lp_188 _ 0 _ _ _ (Nat.zero_le _) (Nat.lt_succ_self _) hP hD hS (lv_sub hl [5, 4, 3, 2, 1, 0] rfl)
                      · -- 145 f
                        exact absurd (by decide) c_145
                    · -- 135 f
                      refine lv_iconst (v := 1) hx hb dX6_install_138 (by decide) ?_
                      refine lv_goto (tgt := 143) hx hb dX6_install_139 (by decide) ?_
                      refine lv_istore_n (lv' := [(3, .int 1), (2, .int 1), (1, .int (nI (224 * rj + 192))), (0, .ref (am 0))]) hx hb dX6_install_143 rfl hl (by decide) rfl (fun ls hl => ?_)
                      refine lv_iload_n hx hb dX6_install_144 rfl (lv_at hl 0 rfl) ?_
                      refine lv_if_eq (tgt := 180) hx hb dX6_install_145 (by decide) (fun c_145 => ?_) (fun c_145 => ?_)
                      · -- 145 t
                        exact absurd c_145 (by decide)
                      · -- 145 f
                        refine lv_aload_n hx hb dX6_install_148 rfl (lv_at hl 3 rfl) ?_
                        refine lv_aload_n hx hb dX6_install_149 rfl (lv_at hl 3 rfl) ?_
                        refine va_get (D := D) (ci := 6) (v := .int (nI rj)) (C := RX6) (T := TX6) (N := 13) hx hb hts iX6_install_X6 hown hK hP 0 rfl rfl 7 (by decide) (hts _ qX6_install_4) (fun _ h9 => h9) rfl dX6_install_150 ?_
                        refine zSR (As := [.int (nI rj)]) (rest := [.ref (am 0)]) ⟨hx, hb, hml, hown, hts⟩ (k_X6_imageAt l D cI rj) (va_cwS 1 hts gX6_install_X6_imageAt rfl rfl rfl (by decide +kernel) ⟨Nat.le_of_ble_eq_true rfl, Nat.le_of_ble_eq_true rfl⟩) hP hK hN [] rfl rfl hl.1 rfl (Nat.le_of_ble_eq_true rfl) dX6_install_153 ⟨Nat.zero_le _, Nat.zero_le _⟩ ?_
                        refine lv_iload_n hx hb dX6_install_156 rfl (lv_at hl 1 rfl) ?_
                        refine lv_if_eq (tgt := 169) hx hb dX6_install_157 (by decide) (fun c_157 => ?_) (fun c_157 => ?_)
                        · -- 157 t
                          exact absurd c_157 (by decide)
                        · -- 157 f
                          refine lv_aload_n hx hb dX6_install_160 rfl (lv_at hl 3 rfl) ?_
                          refine va_get (D := D) (ci := 6) (v := .ref (am 1)) (C := RX6) (T := TX6) (N := 13) hx hb hts iX6_install_X6 hown hK hP 0 rfl rfl 1 (by decide) (hts _ qX6_install_3) (fun _ h9 => h9) rfl dX6_install_161 ?_
                          refine lv_iload_n hx hb dX6_install_164 rfl (lv_at hl 2 rfl) ?_
                          refine z_iald hx hb hK hP 1 0 rfl rfl (224 * rj + 192) rfl (by omega) (by decide) dX6_install_165 ?_
                          refine z_top (v := nI (zb f (224 * rj + 192))) ((hB (224 * rj + 192) (by omega)).1) ?_
                          refine lv_goto (tgt := 170) hx hb dX6_install_166 (by decide) ?_
                          refine zVW (ws' := fun u => mW cI am ke ve f tb tl p (nI rj) lf k a u.2.1 u.2.2) (As := [.int (nI (224 * rj)), .int (nI (zb f (224 * rj + 192)))]) (rest := []) ⟨hx, hb, hml, hown, hts⟩ (k_X6_patches l D cI am ke ve f tb tl p (nI rj) lf k a im md (224 * rj) (zb f (224 * rj + 192)) (by omega) (by omega) hB) (cwV 2 hts gX6_install_X6_patches rfl rfl rfl (by decide +kernel) ⟨Nat.le_of_ble_eq_true rfl, Nat.le_of_ble_eq_true rfl⟩) hP hK hN hD hS hA [0, 1, 2, 3, 4] [] [] rfl (by decide) rfl (fun _ => rfl) (fun _ => rfl) (fun _ => rfl) rfl (va_recv hK hP (ci := 6) (q0 := 0) rfl rfl) rfl hl.1 rfl (Nat.le_of_ble_eq_true rfl) dX6_install_170 ⟨Nat.zero_le _, Nat.zero_le _⟩ (fun u_170 H locs hu_170 hP hD hS => ?_)
                          obtain ⟨res_170, im_170, md_170⟩ := u_170
                          have hP : va_P D vwCl (mW cI am ke ve f tb tl p (nI rj) lf k a im_170 md_170) _ := hP
                          have hD : va_D A (mW cI am ke ve f tb tl p (nI rj) lf k a im_170 md_170) := hD
                          refine W.eq (g2 := F0 m 173 ls [.int res_170]) rfl ?_
                          have q1 := y_patI hB hu_170
                          refine lv_if_eq (tgt := 180) hx hb dX6_install_173 (by decide) (fun c_173 => ?_) (fun c_173 => ?_)
                          · -- 173 t
                            refine lv_iconst (v := 0) hx hb dX6_install_180 (by decide) ?_
                            refine lv_istore_n (lv' := [(3, .int 0), (2, .int 1), (1, .int (nI (224 * rj + 192))), (0, .ref (am 0))]) hx hb dX6_install_181 rfl hl (by decide) rfl (fun ls hl => ?_)
                            refine lv_iconst (v := 0) hx hb dX6_install_182 (by decide) ?_
                            refine lv_istore (lv' := [(4, .int 0), (3, .int 0), (2, .int 1), (1, .int (nI (224 * rj + 192))), (0, .ref (am 0))]) hx hb dX6_install_183 hl (by decide) rfl (fun ls hl => ?_)
                            refine lv_iconst (v := 0) hx hb dX6_install_185 (by decide) ?_
                            refine lv_istore (lv' := [(5, .int 0), (4, .int 0), (3, .int 0), (2, .int 1), (1, .int (nI (224 * rj + 192))), (0, .ref (am 0))]) hx hb dX6_install_186 hl (by decide) rfl (fun ls hl => ?_)
                            have lp_188 : ∀ (g_188 : Nat) (j : Nat) (H : Heap) (locs : List Loc) (ls : Array Slot), j ≤ md_170 → md_170 - j < g_188 → va_P D vwCl (mW cI am ke ve f tb tl p (nI rj) lf k a im_170 md_170) H → va_D A (mW cI am ke ve f tb tl p (nI rj) lf k a im_170 md_170) → va_S A s.heap H locs → lv_has ls 9 [(0, .ref (am 0)), (1, .int (nI (224 * rj + 192))), (2, .int 1), (3, .int 0), (4, .int (z_rdigN 0 im_170 j)), (5, .int (nI j))] → W p0 l e rm_X6_install s m args below meth c H locs 0 0 Q (F0 m 188 ls []) := by
                              intro g_188
                              induction g_188 with
                              | zero => intro j H locs ls g1 h9_188; exact absurd h9_188 (Nat.not_lt_zero _)
                              | succ g_188 ih_188 =>
                                intro j H locs ls g1 h9_188 hP hD hS hl
                                refine lv_iload hx hb dX6_install_188 (lv_at hl 5 rfl) ?_
                                refine lv_aload_n hx hb dX6_install_190 rfl (lv_at hl 0 rfl) ?_
                                refine va_get (D := D) (ci := 6) (v := .int (nI md_170)) (C := RX6) (T := TX6) (N := 13) hx hb hts iX6_install_X6 hown hK hP 0 rfl rfl 12 (by decide) (hts _ qX6_install_5) (fun _ h9 => h9) rfl dX6_install_191 ?_
                                refine z_icmp_ge (tgt := 221) hx hb dX6_install_194 (by decide) j md_170 rfl rfl (by omega) (by omega) (fun c_194 => ?_) (fun c_194 => ?_)
                                · -- 194 t
                                  obtain rfl : md_170 = j := by omega
                                  refine lv_iload_n hx hb dX6_install_221 rfl (lv_at hl 3 rfl) ?_
                                  refine lv_if_eq (tgt := 237) hx hb dX6_install_222 (by decide) (fun c_222 => ?_) (fun c_222 => ?_)
                                  · -- 222 t
                                    refine lv_bipush (v := (-6)) hx hb dX6_install_237 (by decide) ?_
                                    exact hret 239 ls _ _ ((-6), f, p, nI rj, lf, a, im_170, md_170) (-6) _ dX6_install_239 rfl rfl rfl (by simp only [y_install, if_neg c_9, if_neg c_19, if_pos c_30, y_stgd, if_neg (show ¬ y_stgN f (y_blks f).toNatClampNeg 0 = 0 by rw [← hw]; exact (by decide : ¬ (1 : Int32) = 0)), nI_clamp (show rj < 2 ^ 31 by omega), y_mk, y_ins3, if_neg c_83, if_pos c_114, if_pos c_135, ← hu_170, if_pos c_173]) hP hS
                                  · -- 222 f
                                    exact absurd (by decide) c_222
                                · -- 194 f
                                  refine lv_iload_n hx hb dX6_install_197 rfl (lv_at hl 3 rfl) ?_
                                  refine lv_if_eq (tgt := 221) hx hb dX6_install_198 (by decide) (fun c_198 => ?_) (fun c_198 => ?_)
                                  · -- 198 t
                                    refine lv_iload_n hx hb dX6_install_221 rfl (lv_at hl 3 rfl) ?_
                                    refine lv_if_eq (tgt := 237) hx hb dX6_install_222 (by decide) (fun c_222 => ?_) (fun c_222 => ?_)
                                    · -- 222 t
                                      refine lv_bipush (v := (-6)) hx hb dX6_install_237 (by decide) ?_
                                      exact hret 239 ls _ _ ((-6), f, p, nI rj, lf, a, im_170, md_170) (-6) _ dX6_install_239 rfl rfl rfl (by simp only [y_install, if_neg c_9, if_neg c_19, if_pos c_30, y_stgd, if_neg (show ¬ y_stgN f (y_blks f).toNatClampNeg 0 = 0 by rw [← hw]; exact (by decide : ¬ (1 : Int32) = 0)), nI_clamp (show rj < 2 ^ 31 by omega), y_mk, y_ins3, if_neg c_83, if_pos c_114, if_pos c_135, ← hu_170, if_pos c_173]) hP hS
                                    · -- 222 f
                                      exact absurd (by decide) c_222
                                  · -- 198 f
                                    exact absurd (by decide) c_198
                            exact lp_188 _ 0 _ _ _ (Nat.zero_le _) (Nat.lt_succ_self _) hP hD hS (lv_sub hl [5, 4, 3, 2, 1, 0] rfl)
                          · -- 173 f
                            have q2 := y_pat1 hB hu_170 c_173 e4 e6
                            refine lv_iconst (v := 1) hx hb dX6_install_176 (by decide) ?_
                            refine lv_goto (tgt := 181) hx hb dX6_install_177 (by decide) ?_
                            refine lv_istore_n (lv' := [(3, .int 1), (2, .int 1), (1, .int (nI (224 * rj + 192))), (0, .ref (am 0))]) hx hb dX6_install_181 rfl hl (by decide) rfl (fun ls hl => ?_)
                            refine lv_iconst (v := 0) hx hb dX6_install_182 (by decide) ?_
                            refine lv_istore (lv' := [(4, .int 0), (3, .int 1), (2, .int 1), (1, .int (nI (224 * rj + 192))), (0, .ref (am 0))]) hx hb dX6_install_183 hl (by decide) rfl (fun ls hl => ?_)
                            refine lv_iconst (v := 0) hx hb dX6_install_185 (by decide) ?_
                            refine lv_istore (lv' := [(5, .int 0), (4, .int 0), (3, .int 1), (2, .int 1), (1, .int (nI (224 * rj + 192))), (0, .ref (am 0))]) hx hb dX6_install_186 hl (by decide) rfl (fun ls hl => ?_)
                            have lp_188 : ∀ (g_188 : Nat) (j : Nat) (H : Heap) (locs : List Loc) (ls : Array Slot), j ≤ md_170 → md_170 - j < g_188 → va_P D vwCl (mW cI am ke ve f tb tl p (nI rj) lf k a im_170 md_170) H → va_D A (mW cI am ke ve f tb tl p (nI rj) lf k a im_170 md_170) → va_S A s.heap H locs → lv_has ls 9 [(0, .ref (am 0)), (1, .int (nI (224 * rj + 192))), (2, .int 1), (3, .int 1), (4, .int (z_rdigN 0 im_170 j)), (5, .int (nI j))] → W p0 l e rm_X6_install s m args below meth c H locs 0 0 Q (F0 m 188 ls []) := by
                              intro g_188
                              induction g_188 with
                              | zero => intro j H locs ls g1 h9_188; exact absurd h9_188 (Nat.not_lt_zero _)
                              | succ g_188 ih_188 =>
                                intro j H locs ls g1 h9_188 hP hD hS hl
                                refine lv_iload hx hb dX6_install_188 (lv_at hl 5 rfl) ?_
                                refine lv_aload_n hx hb dX6_install_190 rfl (lv_at hl 0 rfl) ?_
                                refine va_get (D := D) (ci := 6) (v := .int (nI md_170)) (C := RX6) (T := TX6) (N := 13) hx hb hts iX6_install_X6 hown hK hP 0 rfl rfl 12 (by decide) (hts _ qX6_install_5) (fun _ h9 => h9) rfl dX6_install_191 ?_
                                refine z_icmp_ge (tgt := 221) hx hb dX6_install_194 (by decide) j md_170 rfl rfl (by omega) (by omega) (fun c_194 => ?_) (fun c_194 => ?_)
                                · -- 194 t
                                  obtain rfl : md_170 = j := by omega
                                  refine lv_iload_n hx hb dX6_install_221 rfl (lv_at hl 3 rfl) ?_
                                  refine lv_if_eq (tgt := 237) hx hb dX6_install_222 (by decide) (fun c_222 => ?_) (fun c_222 => ?_)
                                  · -- 222 t
                                    exact absurd c_222 (by decide)
                                  · -- 222 f
                                    refine lv_iload hx hb dX6_install_225 (lv_at hl 4 rfl) ?_
                                    refine lv_aload_n hx hb dX6_install_227 rfl (lv_at hl 0 rfl) ?_
                                    refine lv_sipush (v := 652) hx hb dX6_install_228 (by decide) ?_
                                    refine zVR (As := [.int 652]) (rest := [.int (z_rdigN 0 im_170 md_170)]) ⟨hx, hb, hml, hown, hts⟩ (k_X6_four l D cI am ke ve f tb tl p (nI rj) lf k a im_170 md_170 652 (by omega)) (cwV 1 hts gX6_install_X6_four rfl rfl rfl (by decide +kernel) ⟨Nat.le_of_ble_eq_true rfl, Nat.le_of_ble_eq_true rfl⟩) hP hK hN [0, 1, 2, 3, 4] rfl (va_recv hK hP (ci := 6) (q0 := 0) rfl rfl) rfl hl.1 rfl (Nat.le_of_ble_eq_true rfl) dX6_install_231 ⟨Nat.zero_le _, Nat.zero_le _⟩ ?_
                                    refine lv_icmp_eq (tgt := 240) hx hb dX6_install_234 (by decide) (fun c_234 => ?_) (fun c_234 => ?_)
                                    · -- 234 t
                                      refine lv_iconst (v := 1) hx hb dX6_install_240 (by decide) ?_
                                      refine lv_aload_n hx hb dX6_install_241 rfl (lv_at hl 0 rfl) ?_
                                      refine va_get (D := D) (ci := 6) (v := .int (nI rj)) (C := RX6) (T := TX6) (N := 13) hx hb hts iX6_install_X6 hown hK hP 0 rfl rfl 7 (by decide) (hts _ qX6_install_4) (fun _ h9 => h9) rfl dX6_install_242 ?_
                                      refine lv_isub hx hb dX6_install_245 ?_
                                      refine z_top (v := nI (1 - rj)) (z_sub1 (a := 1) (b := rj) (by omega)) ?_
                                      refine lv_istore (lv' := [(5, .int (nI (1 - rj))), (0, .ref (am 0)), (1, .int (nI (224 * rj + 192))), (2, .int 1), (3, .int 1), (4, .int (z_rdigN 0 im_170 md_170))]) hx hb dX6_install_246 hl (by decide) rfl (fun ls hl => ?_)
                                      refine lv_aload_n hx hb dX6_install_248 rfl (lv_at hl 1 rfl) ?_
                                      refine va_get (D := D) (ci := 6) (v := .ref (am 1)) (C := RX6) (T := TX6) (N := 13) hx hb hts iX6_install_X6 hown hK hP 0 rfl rfl 1 (by decide) (hts _ qX6_install_3) (fun _ h9 => h9) rfl dX6_install_249 ?_
                                      refine lv_sipush (v := 641) hx hb dX6_install_252 (by decide) ?_
                                      refine z_iald hx hb hK hP 1 0 rfl rfl 641 rfl (by omega) (by decide) dX6_install_255 ?_
                                      refine lv_istore (lv' := [(6, .int (f 641)), (5, .int (nI (1 - rj))), (0, .ref (am 0)), (1, .int (nI (224 * rj + 192))), (2, .int 1), (3, .int 1), (4, .int (z_rdigN 0 im_170 md_170))]) hx hb dX6_install_256 hl (by decide) rfl (fun ls hl => ?_)
                                      refine lv_aload_n hx hb dX6_install_258 rfl (lv_at hl 2 rfl) ?_
                                      refine lv_bipush (v := 7) hx hb dX6_install_259 (by decide) ?_
                                      refine lv_iload hx hb dX6_install_261 (lv_at hl 1 rfl) ?_
                                      refine lv_imul hx hb dX6_install_263 ?_
                                      refine z_top (v := nI (7 * (1 - rj))) (pk_mul 7 (1 - rj)) ?_
                                      refine lv_bipush (v := 6) hx hb dX6_install_264 (by decide) ?_
                                      refine lv_iadd hx hb dX6_install_266 ?_
                                      refine z_top (v := nI ((7 * (1 - rj)) + 6)) (nI_add (7 * (1 - rj)) 6) ?_
                                      refine zVW (ws' := fun u => mW cI am ke ve u.1 tb tl u.2.1 u.2.2.1 u.2.2.2.1 k u.2.2.2.2 im_170 md_170) (As := [.int (nI ((7 * (1 - rj)) + 6))]) (rest := []) ⟨hx, hb, hml, hown, hts⟩ (k_X6_erase l D cI am ke ve f tb tl p (nI rj) lf k a im_170 md_170 ((7 * (1 - rj)) + 6) (by omega)) (cwV 1 hts gX6_install_X6_erase rfl rfl rfl (by decide +kernel) ⟨Nat.le_of_ble_eq_true rfl, Nat.le_of_ble_eq_true rfl⟩) hP hK hN hD hS hA [0, 1, 2, 3, 4] [] [] rfl (by decide) rfl (fun _ => rfl) (fun _ => rfl) (fun _ => rfl) rfl (va_recv hK hP (ci := 6) (q0 := 0) rfl rfl) rfl hl.1 rfl (Nat.le_of_ble_eq_true rfl) dX6_install_267 ⟨Nat.zero_le _, Nat.zero_le _⟩ (fun u_267 H locs hu_267 hP hD hS => ?_)
                                      obtain ⟨f_267, p_267, r_267, lf_267, a_267⟩ := u_267
                                      have hP : va_P D vwCl (mW cI am ke ve f_267 tb tl p_267 r_267 lf_267 k a_267 im_170 md_170) _ := hP
                                      have hD : va_D A (mW cI am ke ve f_267 tb tl p_267 r_267 lf_267 k a_267 im_170 md_170) := hD
                                      refine W.eq (g2 := F0 m 270 ls []) rfl ?_
                                      refine lv_iconst (v := 0) hx hb dX6_install_270 (by decide) ?_
                                      refine lv_istore (lv' := [(7, .int 0), (6, .int (f 641)), (5, .int (nI (1 - rj))), (0, .ref (am 0)), (1, .int (nI (224 * rj + 192))), (2, .int 1), (3, .int 1), (4, .int (z_rdigN 0 im_170 md_170))]) hx hb dX6_install_271 hl (by decide) rfl (fun ls hl => ?_)
                                      have lp_273 : ∀ (g_273 : Nat) (i2 : Nat) (f9 : RW) (p9 : Int32) (r9 : Int32) (l9 : Int32) (a9 : Int32) (H : Heap) (locs : List Loc) (ls : Array Slot), i2 ≤ 6 → (f9, p9, r9, l9, a9) = y_eUpN k (7 * (1 - rj)) (y_erase k (7 * (1 - rj) + 6) (f, p, nI rj, lf, a)) i2 → 6 - i2 < g_273 → va_P D vwCl (mW cI am ke ve f9 tb tl p9 r9 l9 k a9 im_170 md_170) H → va_D A (mW cI am ke ve f9 tb tl p9 r9 l9 k a9 im_170 md_170) → va_S A s.heap H locs → lv_has ls 9 [(0, .ref (am 0)), (1, .int (nI (224 * rj + 192))), (2, .int 1), (3, .int 1), (4, .int (z_rdigN 0 im_170 md_170)), (5, .int (nI (1 - rj))), (6, .int (f 641)), (7, .int (nI i2))] → W p0 l e rm_X6_install s m args below meth c H locs 0 0 Q (F0 m 273 ls []) := by
                                        intro g_273
                                        induction g_273 with
                                        | zero => intro i2 f9 p9 r9 l9 a9 H locs ls g2 hy h9_273; exact absurd h9_273 (Nat.not_lt_zero _)
                                        | succ g_273 ih_273 =>
                                          intro i2 f9 p9 r9 l9 a9 H locs ls g2 hy h9_273 hP hD hS hl
                                          refine lv_iload hx hb dX6_install_273 (lv_at hl 7 rfl) ?_
                                          refine lv_bipush (v := 6) hx hb dX6_install_275 (by decide) ?_
                                          refine z_icmp_ge (tgt := 298) hx hb dX6_install_277 (by decide) i2 6 rfl rfl (by omega) (by omega) (fun c_277 => ?_) (fun c_277 => ?_)
                                          · -- 277 t
                                            refine lv_aload_n hx hb dX6_install_298 rfl (lv_at hl 0 rfl) ?_
                                            refine va_get (D := D) (ci := 6) (v := .int (nI md_170)) (C := RX6) (T := TX6) (N := 13) hx hb hts iX6_install_X6 hown hK hP 0 rfl rfl 12 (by decide) (hts _ qX6_install_5) (fun _ h9 => h9) rfl dX6_install_299 ?_
                                            refine lv_istore (lv' := [(7, .int (nI md_170)), (0, .ref (am 0)), (1, .int (nI (224 * rj + 192))), (2, .int 1), (3, .int 1), (4, .int (z_rdigN 0 im_170 md_170)), (5, .int (nI (1 - rj))), (6, .int (f 641))]) hx hb dX6_install_302 hl (by decide) rfl (fun ls hl => ?_)
                                            refine lv_iconst (v := 0) hx hb dX6_install_304 (by decide) ?_
                                            refine lv_istore (lv' := [(8, .int 0), (7, .int (nI md_170)), (0, .ref (am 0)), (1, .int (nI (224 * rj + 192))), (2, .int 1), (3, .int 1), (4, .int (z_rdigN 0 im_170 md_170)), (5, .int (nI (1 - rj))), (6, .int (f 641))]) hx hb dX6_install_305 hl (by decide) rfl (fun ls hl => ?_)
                                            have lp_307 : ∀ (g_307 : Nat) (i3 : Nat) (f8 : RW) (p8 : Int32) (r8 : Int32) (l8 : Int32) (a8 : Int32) (H : Heap) (locs : List Loc) (ls : Array Slot), i3 ≤ md_170 → (f8, p8, r8, l8, a8) = y_rowN k (224 * (1 - rj)) im_170 (y_eUpN k (7 * (1 - rj)) (y_erase k (7 * (1 - rj) + 6) (f, p, nI rj, lf, a)) 6) i3 → md_170 - i3 < g_307 → va_P D vwCl (mW cI am ke ve f8 tb tl p8 r8 l8 k a8 im_170 md_170) H → va_D A (mW cI am ke ve f8 tb tl p8 r8 l8 k a8 im_170 md_170) → va_S A s.heap H locs → lv_has ls 9 [(0, .ref (am 0)), (1, .int (nI (224 * rj + 192))), (2, .int 1), (3, .int 1), (4, .int (z_rdigN 0 im_170 md_170)), (5, .int (nI (1 - rj))), (6, .int (f 641)), (7, .int (nI md_170)), (8, .int (nI i3))] → W p0 l e rm_X6_install s m args below meth c H locs 0 0 Q (F0 m 307 ls []) := by
                                              intro g_307
                                              induction g_307 with
                                              | zero => intro i3 f8 p8 r8 l8 a8 H locs ls g3 hz h9_307; exact absurd h9_307 (Nat.not_lt_zero _)
                                              | succ g_307 ih_307 =>
                                                intro i3 f8 p8 r8 l8 a8 H locs ls g3 hz h9_307 hP hD hS hl
                                                refine lv_iload hx hb dX6_install_307 (lv_at hl 8 rfl) ?_
                                                refine lv_iload hx hb dX6_install_309 (lv_at hl 7 rfl) ?_
                                                refine z_icmp_ge (tgt := 339) hx hb dX6_install_311 (by decide) i3 md_170 rfl rfl (by omega) (by omega) (fun c_311 => ?_) (fun c_311 => ?_)
                                                · -- 311 t
                                                  obtain rfl : md_170 = i3 := by omega
                                                  refine lv_aload_n hx hb dX6_install_339 rfl (lv_at hl 0 rfl) ?_
                                                  refine lv_iload hx hb dX6_install_340 (lv_at hl 5 rfl) ?_
                                                  refine lv_iload hx hb dX6_install_342 (lv_at hl 7 rfl) ?_
                                                  refine lv_iload hx hb dX6_install_344 (lv_at hl 6 rfl) ?_
                                                  refine lv_iload hx hb dX6_install_346 (lv_at hl 4 rfl) ?_
                                                  refine zVW (ws' := fun u => mW cI am ke ve u.1 tb tl u.2.1 u.2.2.1 u.2.2.2.1 k u.2.2.2.2 im_170 md_170) (As := [.int (nI (1 - rj)), .int (nI md_170), .int (f 641), .int (z_rdigN 0 im_170 md_170)]) (rest := []) ⟨hx, hb, hml, hown, hts⟩ (k_X6_writeHeader l D cI am ke ve f8 tb tl p8 r8 l8 k a8 im_170 md_170 (1 - rj) (nI md_170) (f 641) (z_rdigN 0 im_170 md_170) (by omega)) (cwV 4 hts gX6_install_X6_writeHeader rfl rfl rfl (by decide +kernel) ⟨Nat.le_of_ble_eq_true rfl, Nat.le_of_ble_eq_true rfl⟩) hP hK hN hD hS hA [0, 1, 2, 3, 4] [] [] rfl (by decide) rfl (fun _ => rfl) (fun _ => rfl) (fun _ => rfl) rfl (va_recv hK hP (ci := 6) (q0 := 0) rfl rfl) rfl hl.1 rfl (Nat.le_of_ble_eq_true rfl) dX6_install_348 ⟨Nat.zero_le _, Nat.zero_le _⟩ (fun u_348 H locs hu_348 hP hD hS => ?_)
                                                  obtain ⟨f_348, p_348, r_348, lf_348, a_348⟩ := u_348
                                                  have hP : va_P D vwCl (mW cI am ke ve f_348 tb tl p_348 r_348 lf_348 k a_348 im_170 md_170) _ := hP
                                                  have hD : va_D A (mW cI am ke ve f_348 tb tl p_348 r_348 lf_348 k a_348 im_170 md_170) := hD
                                                  refine W.eq (g2 := F0 m 351 ls []) rfl ?_
                                                  refine lv_aload_n hx hb dX6_install_351 rfl (lv_at hl 0 rfl) ?_
                                                  refine lv_iload hx hb dX6_install_352 (lv_at hl 5 rfl) ?_
                                                  refine zSR (As := [.int (nI (1 - rj))]) (rest := [.ref (am 0)]) ⟨hx, hb, hml, hown, hts⟩ (k_X6_headerAt l D cI (1 - rj)) (va_cwS 1 hts gX6_install_X6_headerAt rfl rfl rfl (by decide +kernel) ⟨Nat.le_of_ble_eq_true rfl, Nat.le_of_ble_eq_true rfl⟩) hP hK hN [] rfl rfl hl.1 rfl (Nat.le_of_ble_eq_true rfl) dX6_install_354 ⟨Nat.zero_le _, Nat.zero_le _⟩ ?_
                                                  refine lv_bipush (v := 6) hx hb dX6_install_357 (by decide) ?_
                                                  refine lv_iadd hx hb dX6_install_359 ?_
                                                  refine z_top (v := nI ((224 * (1 - rj) + 192) + 6)) (nI_add (224 * (1 - rj) + 192) 6) ?_
                                                  refine lv_bipush (v := 15) hx hb dX6_install_360 (by decide) ?_
                                                  refine zVW (ws' := fun u => mW cI am ke ve u.1 tb tl u.2.1 u.2.2.1 u.2.2.2.1 k u.2.2.2.2 im_170 md_170) (As := [.int (nI ((224 * (1 - rj) + 192) + 6)), .int 15]) (rest := []) ⟨hx, hb, hml, hown, hts⟩ (k_X6_program l D cI am ke ve f_348 tb tl p_348 r_348 lf_348 k a_348 im_170 md_170 ((224 * (1 - rj) + 192) + 6) 15 (by omega)) (cwV 2 hts gX6_install_X6_program rfl rfl rfl (by decide +kernel) ⟨Nat.le_of_ble_eq_true rfl, Nat.le_of_ble_eq_true rfl⟩) hP hK hN hD hS hA [0, 1, 2, 3, 4] [] [] rfl (by decide) rfl (fun _ => rfl) (fun _ => rfl) (fun _ => rfl) rfl (va_recv hK hP (ci := 6) (q0 := 0) rfl rfl) rfl hl.1 rfl (Nat.le_of_ble_eq_true rfl) dX6_install_362 ⟨Nat.zero_le _, Nat.zero_le _⟩ (fun u_362 H locs hu_362 hP hD hS => ?_)
                                                  obtain ⟨f_362, p_362, r_362, lf_362, a_362⟩ := u_362
                                                  have hP : va_P D vwCl (mW cI am ke ve f_362 tb tl p_362 r_362 lf_362 k a_362 im_170 md_170) _ := hP
                                                  have hD : va_D A (mW cI am ke ve f_362 tb tl p_362 r_362 lf_362 k a_362 im_170 md_170) := hD
                                                  refine W.eq (g2 := F0 m 365 ls []) rfl ?_
                                                  refine lv_aload_n hx hb dX6_install_365 rfl (lv_at hl 0 rfl) ?_
                                                  refine lv_iload hx hb dX6_install_366 (lv_at hl 5 rfl) ?_
                                                  refine zSR (As := [.int (nI (1 - rj))]) (rest := [.ref (am 0)]) ⟨hx, hb, hml, hown, hts⟩ (k_X6_headerAt l D cI (1 - rj)) (va_cwS 1 hts gX6_install_X6_headerAt rfl rfl rfl (by decide +kernel) ⟨Nat.le_of_ble_eq_true rfl, Nat.le_of_ble_eq_true rfl⟩) hP hK hN [] rfl rfl hl.1 rfl (Nat.le_of_ble_eq_true rfl) dX6_install_368 ⟨Nat.zero_le _, Nat.zero_le _⟩ ?_
                                                  refine lv_bipush (v := 8) hx hb dX6_install_371 (by decide) ?_
                                                  refine lv_iadd hx hb dX6_install_373 ?_
                                                  refine z_top (v := nI ((224 * (1 - rj) + 192) + 8)) (nI_add (224 * (1 - rj) + 192) 8) ?_
                                                  refine lv_iconst (v := 0) hx hb dX6_install_374 (by decide) ?_
                                                  refine zVW (ws' := fun u => mW cI am ke ve u.1 tb tl u.2.1 u.2.2.1 u.2.2.2.1 k u.2.2.2.2 im_170 md_170) (As := [.int (nI ((224 * (1 - rj) + 192) + 8)), .int 0]) (rest := []) ⟨hx, hb, hml, hown, hts⟩ (k_X6_program l D cI am ke ve f_362 tb tl p_362 r_362 lf_362 k a_362 im_170 md_170 ((224 * (1 - rj) + 192) + 8) 0 (by omega)) (cwV 2 hts gX6_install_X6_program rfl rfl rfl (by decide +kernel) ⟨Nat.le_of_ble_eq_true rfl, Nat.le_of_ble_eq_true rfl⟩) hP hK hN hD hS hA [0, 1, 2, 3, 4] [] [] rfl (by decide) rfl (fun _ => rfl) (fun _ => rfl) (fun _ => rfl) rfl (va_recv hK hP (ci := 6) (q0 := 0) rfl rfl) rfl hl.1 rfl (Nat.le_of_ble_eq_true rfl) dX6_install_375 ⟨Nat.zero_le _, Nat.zero_le _⟩ (fun u_375 H locs hu_375 hP hD hS => ?_)
                                                  obtain ⟨f_375, p_375, r_375, lf_375, a_375⟩ := u_375
                                                  have hP : va_P D vwCl (mW cI am ke ve f_375 tb tl p_375 r_375 lf_375 k a_375 im_170 md_170) _ := hP
                                                  have hD : va_D A (mW cI am ke ve f_375 tb tl p_375 r_375 lf_375 k a_375 im_170 md_170) := hD
                                                  refine W.eq (g2 := F0 m 378 ls []) rfl ?_
                                                  refine lv_aload_n hx hb dX6_install_378 rfl (lv_at hl 0 rfl) ?_
                                                  refine lv_bipush (v := 20) hx hb dX6_install_379 (by decide) ?_
                                                  refine zVW (ws' := fun u => mW cI am ke ve u.1 tb tl u.2.1 u.2.2.1 u.2.2.2.1 k u.2.2.2.2 im_170 md_170) (As := [.int 20]) (rest := []) ⟨hx, hb, hml, hown, hts⟩ (k_X6_erase l D cI am ke ve f_375 tb tl p_375 r_375 lf_375 k a_375 im_170 md_170 20 (by omega)) (cwV 1 hts gX6_install_X6_erase rfl rfl rfl (by decide +kernel) ⟨Nat.le_of_ble_eq_true rfl, Nat.le_of_ble_eq_true rfl⟩) hP hK hN hD hS hA [0, 1, 2, 3, 4] [] [] rfl (by decide) rfl (fun _ => rfl) (fun _ => rfl) (fun _ => rfl) rfl (va_recv hK hP (ci := 6) (q0 := 0) rfl rfl) rfl hl.1 rfl (Nat.le_of_ble_eq_true rfl) dX6_install_381 ⟨Nat.zero_le _, Nat.zero_le _⟩ (fun u_381 H locs hu_381 hP hD hS => ?_)
                                                  obtain ⟨f_381, p_381, r_381, lf_381, a_381⟩ := u_381
                                                  have hP : va_P D vwCl (mW cI am ke ve f_381 tb tl p_381 r_381 lf_381 k a_381 im_170 md_170) _ := hP
                                                  have hD : va_D A (mW cI am ke ve f_381 tb tl p_381 r_381 lf_381 k a_381 im_170 md_170) := hD
                                                  refine W.eq (g2 := F0 m 384 ls []) rfl ?_
                                                  refine lv_aload_n hx hb dX6_install_384 rfl (lv_at hl 0 rfl) ?_
                                                  refine va_get (D := D) (ci := 6) (v := .int p_381) (C := RX6) (T := TX6) (N := 13) hx hb hts iX6_install_X6 hown hK hP 0 rfl rfl 6 (by decide) (hts _ qX6_install_2) (fun _ h9 => h9) rfl dX6_install_385 ?_
                                                  refine lv_if_eq (tgt := 395) hx hb dX6_install_388 (by decide) (fun c_388 => ?_) (fun c_388 => ?_)
                                                  · -- 388 t
                                                    refine lv_bipush (v := (-2)) hx hb dX6_install_395 (by decide) ?_
                                                    exact hret 397 ls _ _ ((-2), f_381, p_381, r_381, lf_381, a_381, im_170, md_170) (-2) _ dX6_install_397 rfl rfl rfl (by simp only [y_install, if_neg c_9, if_neg c_19, if_pos c_30, y_stgd, if_neg (show ¬ y_stgN f (y_blks f).toNatClampNeg 0 = 0 by rw [← hw]; exact (by decide : ¬ (1 : Int32) = 0)), nI_clamp (show rj < 2 ^ 31 by omega), y_mk, y_ins3, if_neg c_83, if_pos c_114, if_pos c_135, ← hu_170, if_neg c_173, if_pos c_234, y_upd, ← hz, ← hu_348, ← hu_362, ← hu_375, ← hu_381, y_ins4, if_pos c_388]) hP hS
                                                  · -- 388 f
                                                    refine lv_iconst (v := 1) hx hb dX6_install_391 (by decide) ?_
                                                    refine lv_goto (tgt := 397) hx hb dX6_install_392 (by decide) ?_
                                                    exact hret 397 ls _ _ (1, f_381, p_381, r_381, lf_381, a_381, im_170, md_170) 1 _ dX6_install_397 rfl rfl rfl (by simp only [y_install, if_neg c_9, if_neg c_19, if_pos c_30, y_stgd, if_neg (show ¬ y_stgN f (y_blks f).toNatClampNeg 0 = 0 by rw [← hw]; exact (by decide : ¬ (1 : Int32) = 0)), nI_clamp (show rj < 2 ^ 31 by omega), y_mk, y_ins3, if_neg c_83, if_pos c_114, if_pos c_135, ← hu_170, if_neg c_173, if_pos c_234, y_upd, ← hz, ← hu_348, ← hu_362, ← hu_375, ← hu_381, y_ins4, if_neg c_388]) hP hS
                                                · -- 311 f
                                                  refine lv_aload_n hx hb dX6_install_314 rfl (lv_at hl 0 rfl) ?_
                                                  refine lv_iload hx hb dX6_install_315 (lv_at hl 5 rfl) ?_
                                                  refine zSR (As := [.int (nI (1 - rj))]) (rest := [.ref (am 0)]) ⟨hx, hb, hml, hown, hts⟩ (k_X6_imageAt l D cI (1 - rj)) (va_cwS 1 hts gX6_install_X6_imageAt rfl rfl rfl (by decide +kernel) ⟨Nat.le_of_ble_eq_true rfl, Nat.le_of_ble_eq_true rfl⟩) hP hK hN [] rfl rfl hl.1 rfl (Nat.le_of_ble_eq_true rfl) dX6_install_317 ⟨Nat.zero_le _, Nat.zero_le _⟩ ?_
                                                  refine lv_iload hx hb dX6_install_320 (lv_at hl 8 rfl) ?_
                                                  refine lv_iadd hx hb dX6_install_322 ?_
                                                  refine z_top (v := nI ((224 * (1 - rj)) + i3)) (nI_add (224 * (1 - rj)) i3) ?_
                                                  refine lv_aload_n hx hb dX6_install_323 rfl (lv_at hl 0 rfl) ?_
                                                  refine va_get (D := D) (ci := 6) (v := .ref (am 4)) (C := RX6) (T := TX6) (N := 13) hx hb hts iX6_install_X6 hown hK hP 0 rfl rfl 11 (by decide) (hts _ qX6_install_6) (fun _ h9 => h9) rfl dX6_install_324 ?_
                                                  refine lv_iload hx hb dX6_install_327 (lv_at hl 8 rfl) ?_
                                                  refine z_iald hx hb hK hP 4 0 rfl rfl i3 rfl (by omega) (by decide) dX6_install_329 ?_
                                                  refine zVW (ws' := fun u => mW cI am ke ve u.1 tb tl u.2.1 u.2.2.1 u.2.2.2.1 k u.2.2.2.2 im_170 md_170) (As := [.int (nI ((224 * (1 - rj)) + i3)), .int (im_170 i3)]) (rest := []) ⟨hx, hb, hml, hown, hts⟩ (k_X6_program l D cI am ke ve f8 tb tl p8 r8 l8 k a8 im_170 md_170 ((224 * (1 - rj)) + i3) (im_170 i3) (by omega)) (cwV 2 hts gX6_install_X6_program rfl rfl rfl (by decide +kernel) ⟨Nat.le_of_ble_eq_true rfl, Nat.le_of_ble_eq_true rfl⟩) hP hK hN hD hS hA [0, 1, 2, 3, 4] [] [] rfl (by decide) rfl (fun _ => rfl) (fun _ => rfl) (fun _ => rfl) rfl (va_recv hK hP (ci := 6) (q0 := 0) rfl rfl) rfl hl.1 rfl (Nat.le_of_ble_eq_true rfl) dX6_install_330 ⟨Nat.zero_le _, Nat.zero_le _⟩ (fun u_330 H locs hu_330 hP hD hS => ?_)
                                                  obtain ⟨f_330, p_330, r_330, lf_330, a_330⟩ := u_330
                                                  have hP : va_P D vwCl (mW cI am ke ve f_330 tb tl p_330 r_330 lf_330 k a_330 im_170 md_170) _ := hP
                                                  have hD : va_D A (mW cI am ke ve f_330 tb tl p_330 r_330 lf_330 k a_330 im_170 md_170) := hD
                                                  refine W.eq (g2 := F0 m 333 ls []) rfl ?_
                                                  refine lv_iinc (v := (nI (i3 + 1))) (lv' := [(8, .int (nI (i3 + 1))), (0, .ref (am 0)), (1, .int (nI (224 * rj + 192))), (2, .int 1), (3, .int 1), (4, .int (z_rdigN 0 im_170 md_170)), (5, .int (nI (1 - rj))), (6, .int (f 641)), (7, .int (nI md_170))]) hx hb dX6_install_333 hl (k := 8) rfl (z_inc _ _ rfl) (by decide) rfl (fun ls hl => ?_)
                                                  refine lv_goto (tgt := 307) hx hb dX6_install_336 (by decide) ?_
                                                  exact ih_307 (i3 + 1) f_330 p_330 r_330 lf_330 a_330 _ _ _ (by omega) (by rw [hu_330, y_rowN, ← hz]) (by omega) hP hD hS (lv_sub hl [1, 2, 3, 4, 5, 6, 7, 8, 0] rfl)
                                            exact lp_307 _ 0 f9 p9 r9 l9 a9 _ _ _ (Nat.zero_le _) (by rw [y_rowN]; exact hy.trans (by rw [show i2 = 6 by omega])) (Nat.lt_succ_self _) hP hD hS (lv_sub hl [2, 3, 4, 5, 6, 7, 8, 1, 0] rfl)
                                          · -- 277 f
                                            refine lv_aload_n hx hb dX6_install_280 rfl (lv_at hl 0 rfl) ?_
                                            refine lv_bipush (v := 7) hx hb dX6_install_281 (by decide) ?_
                                            refine lv_iload hx hb dX6_install_283 (lv_at hl 5 rfl) ?_
                                            refine lv_imul hx hb dX6_install_285 ?_
                                            refine z_top (v := nI (7 * (1 - rj))) (pk_mul 7 (1 - rj)) ?_
                                            refine lv_iload hx hb dX6_install_286 (lv_at hl 7 rfl) ?_
                                            refine lv_iadd hx hb dX6_install_288 ?_
                                            refine z_top (v := nI ((7 * (1 - rj)) + i2)) (nI_add (7 * (1 - rj)) i2) ?_
                                            refine zVW (ws' := fun u => mW cI am ke ve u.1 tb tl u.2.1 u.2.2.1 u.2.2.2.1 k u.2.2.2.2 im_170 md_170) (As := [.int (nI ((7 * (1 - rj)) + i2))]) (rest := []) ⟨hx, hb, hml, hown, hts⟩ (k_X6_erase l D cI am ke ve f9 tb tl p9 r9 l9 k a9 im_170 md_170 ((7 * (1 - rj)) + i2) (by omega)) (cwV 1 hts gX6_install_X6_erase rfl rfl rfl (by decide +kernel) ⟨Nat.le_of_ble_eq_true rfl, Nat.le_of_ble_eq_true rfl⟩) hP hK hN hD hS hA [0, 1, 2, 3, 4] [] [] rfl (by decide) rfl (fun _ => rfl) (fun _ => rfl) (fun _ => rfl) rfl (va_recv hK hP (ci := 6) (q0 := 0) rfl rfl) rfl hl.1 rfl (Nat.le_of_ble_eq_true rfl) dX6_install_289 ⟨Nat.zero_le _, Nat.zero_le _⟩ (fun u_289 H locs hu_289 hP hD hS => ?_)
                                            obtain ⟨f_289, p_289, r_289, lf_289, a_289⟩ := u_289
                                            have hP : va_P D vwCl (mW cI am ke ve f_289 tb tl p_289 r_289 lf_289 k a_289 im_170 md_170) _ := hP
                                            have hD : va_D A (mW cI am ke ve f_289 tb tl p_289 r_289 lf_289 k a_289 im_170 md_170) := hD
                                            refine W.eq (g2 := F0 m 292 ls []) rfl ?_
                                            refine lv_iinc (v := (nI (i2 + 1))) (lv' := [(7, .int (nI (i2 + 1))), (0, .ref (am 0)), (1, .int (nI (224 * rj + 192))), (2, .int 1), (3, .int 1), (4, .int (z_rdigN 0 im_170 md_170)), (5, .int (nI (1 - rj))), (6, .int (f 641))]) hx hb dX6_install_292 hl (k := 7) rfl (z_inc _ _ rfl) (by decide) rfl (fun ls hl => ?_)
                                            refine lv_goto (tgt := 273) hx hb dX6_install_295 (by decide) ?_
                                            exact ih_273 (i2 + 1) f_289 p_289 r_289 lf_289 a_289 _ _ _ (by omega) (by rw [hu_289, y_eUpN, ← hy]) (by omega) hP hD hS (lv_sub hl [1, 2, 3, 4, 5, 6, 7, 0] rfl)
                                      exact lp_273 _ 0 f_267 p_267 r_267 lf_267 a_267 _ _ _ (by omega) (by rw [y_eUpN, ← hu_267]) (Nat.lt_succ_self _) hP hD hS (lv_sub hl [3, 4, 5, 6, 7, 2, 1, 0] rfl)
                                    · -- 234 f
                                      refine lv_bipush (v := (-6)) hx hb dX6_install_237 (by decide) ?_
                                      exact hret 239 ls _ _ ((-6), f, p, nI rj, lf, a, im_170, md_170) (-6) _ dX6_install_239 rfl rfl rfl (by simp only [y_install, if_neg c_9, if_neg c_19, if_pos c_30, y_stgd, if_neg (show ¬ y_stgN f (y_blks f).toNatClampNeg 0 = 0 by rw [← hw]; exact (by decide : ¬ (1 : Int32) = 0)), nI_clamp (show rj < 2 ^ 31 by omega), y_mk, y_ins3, if_neg c_83, if_pos c_114, if_pos c_135, ← hu_170, if_neg c_173, if_neg c_234]) hP hS
                                · -- 194 f
                                  refine lv_iload_n hx hb dX6_install_197 rfl (lv_at hl 3 rfl) ?_
                                  refine lv_if_eq (tgt := 221) hx hb dX6_install_198 (by decide) (fun c_198 => ?_) (fun c_198 => ?_)
                                  · -- 198 t
                                    exact absurd c_198 (by decide)
                                  · -- 198 f
                                    refine lv_iload hx hb dX6_install_201 (lv_at hl 4 rfl) ?_
                                    refine lv_aload_n hx hb dX6_install_203 rfl (lv_at hl 0 rfl) ?_
                                    refine va_get (D := D) (ci := 6) (v := .ref (am 4)) (C := RX6) (T := TX6) (N := 13) hx hb hts iX6_install_X6 hown hK hP 0 rfl rfl 11 (by decide) (hts _ qX6_install_6) (fun _ h9 => h9) rfl dX6_install_204 ?_
                                    refine lv_iload hx hb dX6_install_207 (lv_at hl 5 rfl) ?_
                                    refine z_iald hx hb hK hP 4 0 rfl rfl j rfl (by omega) (by decide) dX6_install_209 ?_
                                    refine zSR (As := [.int (z_rdigN 0 im_170 j), .int (im_170 j)]) (rest := []) ⟨hx, hb, hml, hown, hts⟩ (k_X6_digested l D cI (z_rdigN 0 im_170 j) (im_170 j)) (va_cwS 2 hts gX6_install_X6_digested rfl rfl rfl (by decide +kernel) ⟨Nat.le_of_ble_eq_true rfl, Nat.le_of_ble_eq_true rfl⟩) hP hK hN [] rfl rfl hl.1 rfl (Nat.le_of_ble_eq_true rfl) dX6_install_210 ⟨Nat.zero_le _, Nat.zero_le _⟩ ?_
                                    refine lv_istore (lv' := [(4, .int (z_digB (z_rdigN 0 im_170 j) (im_170 j))), (0, .ref (am 0)), (1, .int (nI (224 * rj + 192))), (2, .int 1), (3, .int 1), (5, .int (nI j))]) hx hb dX6_install_213 hl (by decide) rfl (fun ls hl => ?_)
                                    refine lv_iinc (v := (nI (j + 1))) (lv' := [(5, .int (nI (j + 1))), (4, .int (z_digB (z_rdigN 0 im_170 j) (im_170 j))), (0, .ref (am 0)), (1, .int (nI (224 * rj + 192))), (2, .int 1), (3, .int 1)]) hx hb dX6_install_215 hl (k := 5) rfl (z_inc _ _ rfl) (by decide) rfl (fun ls hl => ?_)
                                    refine lv_goto (tgt := 188) hx hb dX6_install_218 (by decide) ?_
                                    exact ih_188 (j + 1) _ _ _ (by omega) (by omega) hP hD hS (lv_sub hl [2, 3, 4, 5, 1, 0] rfl)
                            exact lp_188 _ 0 _ _ _ (Nat.zero_le _) (Nat.lt_succ_self _) hP hD hS (lv_sub hl [5, 4, 3, 2, 1, 0] rfl)
            · -- 43 f
              obtain ⟨d, rfl⟩ : ∃ d1, d = d1 + 1 := ⟨d - 1, by omega⟩
              refine lv_aload_n hx hb dX6_install_46 rfl (lv_at hl 0 rfl) ?_
              refine va_get (D := D) (ci := 6) (v := .ref (am 1)) (C := RX6) (T := TX6) (N := 13) hx hb hts iX6_install_X6 hown hK hP 0 rfl rfl 1 (by decide) (hts _ qX6_install_3) (fun _ h9 => h9) rfl dX6_install_47 ?_
              refine lv_sipush (v := 672) hx hb dX6_install_50 (by decide) ?_
              refine lv_iload_n hx hb dX6_install_53 rfl (lv_at hl 1 rfl) ?_
              refine lv_iadd hx hb dX6_install_54 ?_
              refine z_top (v := nI (672 + i)) (nI_add 672 i) ?_
              refine z_iald hx hb hK hP 1 0 rfl rfl (672 + i) rfl (by omega) (by decide) dX6_install_55 ?_
              refine lv_if_eq (tgt := 62) hx hb dX6_install_56 (by decide) (fun c_56 => ?_) (fun c_56 => ?_)
              · -- 56 t
                refine lv_iinc (v := (nI (i + 1))) (lv' := [(1, .int (nI (i + 1))), (0, .ref (am 0))]) hx hb dX6_install_62 hl (k := 1) rfl (z_inc _ _ rfl) (by decide) rfl (fun ls hl => ?_)
                refine lv_goto (tgt := 38) hx hb dX6_install_65 (by decide) ?_
                exact ih_38 d (i + 1) _ _ _ (by omega) (by rw [← hw, y_stgN, if_pos c_56]) (by omega) hP hD hS (lv_sub hl [1, 0] rfl)
              · -- 56 f
                refine lv_bipush (v := (-5)) hx hb dX6_install_59 (by decide) ?_
                exact hret 61 ls _ _ ((-5), f, p, nI rj, lf, a, im, md) (-5) _ dX6_install_61 rfl rfl rfl (by simp only [y_install, if_neg c_9, if_neg c_19, if_pos c_30, y_stgd, ← hw, y_stgN, if_neg c_56, if_true]) hP hS
        exact lp_38 _ ((y_blks f).toNatClampNeg) 0 _ _ _ (Nat.zero_add _) rfl (Nat.lt_succ_self _) hP hD hS (lv_sub hl [1, 0] rfl)
      · -- 30 f
        refine lv_bipush (v := (-3)) hx hb dX6_install_33 (by decide) ?_
        exact hret 35 ls _ _ ((-3), f, p, r, lf, a, im, md) (-3) _ dX6_install_35 rfl rfl rfl (by simp only [y_install, if_neg c_9, if_neg c_19, if_neg c_30]) hP hS
    · -- 19 f
      refine lv_bipush (v := (-7)) hx hb dX6_install_22 (by decide) ?_
      exact hret 24 ls _ _ ((-7), f, p, r, lf, a, im, md) (-7) _ dX6_install_24 rfl rfl rfl (by simp only [y_install, if_neg c_9, if_pos c_19]) hP hS
  · -- 9 f
    refine lv_bipush (v := (-2)) hx hb dX6_install_12 (by decide) ?_
    exact hret 14 ls _ _ ((-2), f, p, r, lf, a, im, md) (-2) _ dX6_install_14 rfl rfl rfl (by simp only [y_install, if_pos c_9]) hP hS
