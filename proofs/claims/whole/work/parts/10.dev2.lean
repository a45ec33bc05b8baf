abbrev rm_X5_makeImage_6 : Room := { frames := 4, cells := 0, slots := 0, locals := 98 }
set_option maxRecDepth 20000 in
theorem qX5_makeImage_6_1 : (Cond.fieldLink RX5 12 "FlashBoot" "flash" "LFlashBoot$Flash;" : Cond) ∈ wsX5_makeImage := List.mem_of_getElem? (i := 1) rfl
set_option maxRecDepth 20000 in
theorem iX5_makeImage_6_X5 : ∀ w ∈ wsX50, w ∈ wsX5_makeImage := by decide +kernel
set_option maxRecDepth 20000 in
theorem qX5_makeImage_6_2 : (Cond.fieldLink RX5 38 "FlashBoot" "order" "LFlashBoot$Manifest;" : Cond) ∈ wsX5_makeImage := List.mem_of_getElem? (i := 2) rfl
set_option maxRecDepth 20000 in
theorem qX5_makeImage_6_3 : (Cond.fieldLink RX5 45 "FlashBoot" "patch" "LFlashBoot$Patch;" : Cond) ∈ wsX5_makeImage := List.mem_of_getElem? (i := 3) rfl
set_option maxRecDepth 20000 in
theorem iX5_makeImage_6_X3 : ∀ w ∈ wsX30, w ∈ wsX5_makeImage := by decide +kernel
set_option maxRecDepth 20000 in
theorem iX5_makeImage_6_X2 : ∀ w ∈ wsX20, w ∈ wsX5_makeImage := by decide +kernel
set_option maxHeartbeats 4000000 in
set_option maxRecDepth 100000 in
theorem k_X5_makeImage_6 (l : Launch) (D : va_G) (cI : ClassId) (ad : Nat → Nat) (K : RW) (v : Int32) (f : RW) (p : Int32) (a : Int32) (st : Int32) (n : Int32) (k : Int32) (tb : RW) (tl : Nat) (ob : RW) (im : RW) (md : Nat) (rn : Int32)  (h6 : ob 6 = nI (zb ob 6)) (h6b : zb ob 6 ≤ 192) (hB : zbOk f) : zMW (S := Int32 × RW × Nat) l D cI yX5_makeImage wsX5_makeImage rm_X5_makeImage_6 [.ref (ad 0), .ref (ad 6)] (cW cI ad K v f p a st n k tb tl ob im md rn) (z_mk 0 192 192 f ob (im, md)) (fun u => some (.int u.1)) (fun u => cW cI ad K v f p a st n k tb tl ob u.2.1 u.2.2 rn) := by
  refine zEntW (cc := cX5_makeImage) (maxL := 4) (ret := (some .boolean)) (own := RX5) (lvs := [(0, .ref (ad 0)), (1, .ref (ad 6))]) (by decide) rfl rfl (Nat.le_of_ble_eq_true rfl) rfl ?_
  intro p0 e s m args below meth c Q ls A hx hb hml hts hown hP hK hN hD hS hA hl hret hretV
  have hB9 := (hB 192 (by omega)).2
  refine lv_aload_n hx hb dX5_makeImage_0 rfl (lv_at hl 0 rfl) ?_
  refine va_get (D := D) (ci := 5) (v := .ref (ad 2)) (C := RX5) (T := TX5) (N := 9) hx hb hts iX5_makeImage_6_X5 hown hK hP 0 rfl rfl 2 (by decide) (hts _ qX5_makeImage_6_1) (fun _ h9 => h9) rfl dX5_makeImage_1 ?_
  refine lv_sipush (v := 448) hx hb dX5_makeImage_4 (by decide) ?_
  refine lv_aload_n hx hb dX5_makeImage_7 rfl (lv_at hl 0 rfl) ?_
  refine va_get (D := D) (ci := 5) (v := .ref (ad 8)) (C := RX5) (T := TX5) (N := 9) hx hb hts iX5_makeImage_6_X5 hown hK hP 0 rfl rfl 6 (by decide) (hts _ qX5_makeImage_6_2) (fun _ h9 => h9) rfl dX5_makeImage_8 ?_
  refine zVR (As := []) (rest := [.int 448, .ref (ad 2)]) ⟨hx, hb, hml, hown, hts⟩ (k_X1_payloadLength l D cI (ad 8) (ad 9) ob) (cwV 0 hts gX5_makeImage_X1_payloadLength rfl rfl rfl (by decide +kernel) ⟨Nat.le_of_ble_eq_true rfl, Nat.le_of_ble_eq_true rfl⟩) hP hK hN [8, 9] rfl (va_recv hK hP (ci := 1) (q0 := 8) rfl rfl) rfl hl.1 rfl (Nat.le_of_ble_eq_true rfl) dX5_makeImage_11 ⟨Nat.zero_le _, Nat.zero_le _⟩ ?_
  refine zVR (As := [.int 448, .int (ob 6)]) (rest := []) ⟨hx, hb, hml, hown, hts⟩ (k_X0_digestOf l D cI (ad 2) (ad 3) f p a st n k 448 (ob 6)) (cwV 2 hts gX5_makeImage_X0_digestOf rfl rfl rfl (by decide +kernel) ⟨Nat.le_of_ble_eq_true rfl, Nat.le_of_ble_eq_true rfl⟩) hP hK hN [2, 3] rfl (va_recv hK hP (ci := 0) (q0 := 2) rfl rfl) rfl hl.1 rfl (Nat.le_of_ble_eq_true rfl) dX5_makeImage_14 ⟨Nat.zero_le _, Nat.zero_le _⟩ ?_
  refine lv_aload_n hx hb dX5_makeImage_17 rfl (lv_at hl 0 rfl) ?_
  refine va_get (D := D) (ci := 5) (v := .ref (ad 8)) (C := RX5) (T := TX5) (N := 9) hx hb hts iX5_makeImage_6_X5 hown hK hP 0 rfl rfl 6 (by decide) (hts _ qX5_makeImage_6_2) (fun _ h9 => h9) rfl dX5_makeImage_18 ?_
  refine zVR (As := []) (rest := [.int (z_digO f 448 (ob 6))]) ⟨hx, hb, hml, hown, hts⟩ (k_X1_payloadDigest l D cI (ad 8) (ad 9) ob) (cwV 0 hts gX5_makeImage_X1_payloadDigest rfl rfl rfl (by decide +kernel) ⟨Nat.le_of_ble_eq_true rfl, Nat.le_of_ble_eq_true rfl⟩) hP hK hN [8, 9] rfl (va_recv hK hP (ci := 1) (q0 := 8) rfl rfl) rfl hl.1 rfl (Nat.le_of_ble_eq_true rfl) dX5_makeImage_21 ⟨Nat.zero_le _, Nat.zero_le _⟩ ?_
  refine lv_icmp_eq (tgt := 29) hx hb dX5_makeImage_24 (by decide) (fun c_24 => ?_) (fun c_24 => ?_)
  · -- 24 t
    refine lv_aload_n hx hb dX5_makeImage_29 rfl (lv_at hl 0 rfl) ?_
    refine va_get (D := D) (ci := 5) (v := .ref (ad 8)) (C := RX5) (T := TX5) (N := 9) hx hb hts iX5_makeImage_6_X5 hown hK hP 0 rfl rfl 6 (by decide) (hts _ qX5_makeImage_6_2) (fun _ h9 => h9) rfl dX5_makeImage_30 ?_
    refine zVR (As := []) (rest := []) ⟨hx, hb, hml, hown, hts⟩ (k_X1_baseDigest l D cI (ad 8) (ad 9) ob) (cwV 0 hts gX5_makeImage_X1_baseDigest rfl rfl rfl (by decide +kernel) ⟨Nat.le_of_ble_eq_true rfl, Nat.le_of_ble_eq_true rfl⟩) hP hK hN [8, 9] rfl (va_recv hK hP (ci := 1) (q0 := 8) rfl rfl) rfl hl.1 rfl (Nat.le_of_ble_eq_true rfl) dX5_makeImage_33 ⟨Nat.zero_le _, Nat.zero_le _⟩ ?_
    refine lv_if_eq (tgt := 43) hx hb dX5_makeImage_36 (by decide) (fun c_36 => ?_) (fun c_36 => ?_)
    · -- 36 t
      refine lv_iconst (v := 0) hx hb dX5_makeImage_43 (by decide) ?_
      refine lv_istore_n (lv' := [(2, .int 0), (0, .ref (ad 0)), (1, .ref (ad 6))]) hx hb dX5_makeImage_44 rfl hl (by decide) rfl (fun ls hl => ?_)
      refine lv_iload_n hx hb dX5_makeImage_45 rfl (lv_at hl 0 rfl) ?_
      refine lv_if_eq (tgt := 69) hx hb dX5_makeImage_46 (by decide) (fun c_46 => ?_) (fun c_46 => ?_)
      · -- 46 t
        refine lv_iload_n hx hb dX5_makeImage_69 rfl (lv_at hl 0 rfl) ?_
        refine lv_if_eq (tgt := 84) hx hb dX5_makeImage_70 (by decide) (fun c_70 => ?_) (fun c_70 => ?_)
        · -- 70 t
          refine lv_iconst (v := 0) hx hb dX5_makeImage_84 (by decide) ?_
          refine lv_istore_n (lv' := [(3, .int 0), (2, .int 0), (0, .ref (ad 0)), (1, .ref (ad 6))]) hx hb dX5_makeImage_85 rfl hl (by decide) rfl (fun ls hl => ?_)
          refine lv_aload_n hx hb dX5_makeImage_86 rfl (lv_at hl 2 rfl) ?_
          refine va_get (D := D) (ci := 5) (v := .ref (ad 10)) (C := RX5) (T := TX5) (N := 9) hx hb hts iX5_makeImage_6_X5 hown hK hP 0 rfl rfl 7 (by decide) (hts _ qX5_makeImage_6_3) (fun _ h9 => h9) rfl dX5_makeImage_87 ?_
          refine lv_aload_n hx hb dX5_makeImage_90 rfl (lv_at hl 2 rfl) ?_
          refine va_get (D := D) (ci := 5) (v := .ref (ad 2)) (C := RX5) (T := TX5) (N := 9) hx hb hts iX5_makeImage_6_X5 hown hK hP 0 rfl rfl 2 (by decide) (hts _ qX5_makeImage_6_1) (fun _ h9 => h9) rfl dX5_makeImage_91 ?_
          refine lv_aload_n hx hb dX5_makeImage_94 rfl (lv_at hl 2 rfl) ?_
          refine va_get (D := D) (ci := 5) (v := .ref (ad 8)) (C := RX5) (T := TX5) (N := 9) hx hb hts iX5_makeImage_6_X5 hown hK hP 0 rfl rfl 6 (by decide) (hts _ qX5_makeImage_6_2) (fun _ h9 => h9) rfl dX5_makeImage_95 ?_
          refine zVR (As := []) (rest := [.ref (ad 2), .ref (ad 10)]) ⟨hx, hb, hml, hown, hts⟩ (k_X1_payloadLength l D cI (ad 8) (ad 9) ob) (cwV 0 hts gX5_makeImage_X1_payloadLength rfl rfl rfl (by decide +kernel) ⟨Nat.le_of_ble_eq_true rfl, Nat.le_of_ble_eq_true rfl⟩) hP hK hN [8, 9] rfl (va_recv hK hP (ci := 1) (q0 := 8) rfl rfl) rfl hl.1 rfl (Nat.le_of_ble_eq_true rfl) dX5_makeImage_98 ⟨Nat.zero_le _, Nat.zero_le _⟩ ?_
          refine z_top (v := nI (zb ob 6)) (h6) ?_
          refine lv_aload_n hx hb dX5_makeImage_101 rfl (lv_at hl 3 rfl) ?_
          refine va_getN (host := RX5) (D := D) (ci := 3) (v := .int 0) (C := RX3) (T := TX3) (N := 3) hx hb hts iX5_makeImage_6_X3 hown hK hP 6 rfl rfl 1 (by decide) (zN_use hN 6 rfl) (fun _ h9 => h9) rfl dX5_makeImage_102 ?_
          refine lv_iload_n hx hb dX5_makeImage_105 rfl (lv_at hl 0 rfl) ?_
          refine zVW (ws' := fun u => cW cI ad K v f p a st n k tb tl ob u.2.1 u.2.2 rn) (As := [.ref (ad 2), .int (nI (zb ob 6)), .int 0, .int 0]) (rest := []) ⟨hx, hb, hml, hown, hts⟩ (k_X2_unfold l D cI (ad 10) (ad 11) (ad 2) (ad 3) im md f p a st n k (zb ob 6) 0 0 (by omega) (by omega) (by omega) hB) (cwV 4 hts gX5_makeImage_X2_unfold rfl rfl rfl (by decide +kernel) ⟨Nat.le_of_ble_eq_true rfl, Nat.le_of_ble_eq_true rfl⟩) hP hK hN hD hS hA [10, 11, 2, 3] [0, 1, 4, 5, 6, 7, 8, 9] [((ad 0), .inr (5, [.ref (ad 1), .int v, .ref (ad 2), .ref (ad 4), .ref (ad 6), .ref (ad 7), .ref (ad 8), .ref (ad 10), .int rn])), ((ad 1), .inl (cI, 8, .inl K)), ((ad 4), .inr (4, [.ref (ad 5), .int (nI tl)])), ((ad 5), .inl (cI, 192, .inl tb)), ((ad 6), .inr (3, [.int 0, .int 0, .int 192])), ((ad 7), .inr (3, [.int 7, .int 224, .int 416])), ((ad 8), .inr (1, [.ref (ad 9)])), ((ad 9), .inl (cI, 20, .inl ob))] rfl (by decide) rfl (fun _ => rfl) (fun _ => rfl) (fun _ => rfl) rfl (va_recv hK hP (ci := 2) (q0 := 10) rfl rfl) rfl hl.1 rfl (Nat.le_of_ble_eq_true rfl) dX5_makeImage_106 ⟨Nat.zero_le _, Nat.zero_le _⟩ (fun u_106 H locs hu_106 hP hD hS => ?_)
          obtain ⟨res_106, im_106, md_106⟩ := u_106
          have hP : va_P D vwCl (cW cI ad K v f p a st n k tb tl ob im_106 md_106 rn) _ := hP
          have hD : va_D A (cW cI ad K v f p a st n k tb tl ob im_106 md_106 rn) := hD
          refine W.eq (g2 := F0 m 109 ls [.int res_106]) rfl ?_
          refine lv_if_eq (tgt := 161) hx hb dX5_makeImage_109 (by decide) (fun c_109 => ?_) (fun c_109 => ?_)
          · -- 109 t
            refine lv_iconst (v := 0) hx hb dX5_makeImage_161 (by decide) ?_
            exact hret 162 ls _ _ (0, im_106, md_106) 0 _ dX5_makeImage_162 rfl rfl rfl (by simp only [z_mk, z_mk2, ← hu_106, if_pos c_24, if_pos c_36, if_pos c_109]) hP hS
          · -- 109 f
            refine lv_aload_n hx hb dX5_makeImage_112 rfl (lv_at hl 2 rfl) ?_
            refine va_get (D := D) (ci := 5) (v := .ref (ad 10)) (C := RX5) (T := TX5) (N := 9) hx hb hts iX5_makeImage_6_X5 hown hK hP 0 rfl rfl 7 (by decide) (hts _ qX5_makeImage_6_3) (fun _ h9 => h9) rfl dX5_makeImage_113 ?_
            refine va_getN (host := RX5) (D := D) (ci := 2) (v := .int (nI md_106)) (C := RX2) (T := TX2) (N := 2) hx hb hts iX5_makeImage_6_X2 hown hK hP 10 rfl rfl 1 (by decide) (zN_use hN 11 rfl) (fun _ h9 => h9) rfl dX5_makeImage_116 ?_
            refine lv_aload_n hx hb dX5_makeImage_119 rfl (lv_at hl 2 rfl) ?_
            refine va_get (D := D) (ci := 5) (v := .ref (ad 8)) (C := RX5) (T := TX5) (N := 9) hx hb hts iX5_makeImage_6_X5 hown hK hP 0 rfl rfl 6 (by decide) (hts _ qX5_makeImage_6_2) (fun _ h9 => h9) rfl dX5_makeImage_120 ?_
            refine zVR (As := []) (rest := [.int (nI md_106)]) ⟨hx, hb, hml, hown, hts⟩ (k_X1_imageLength l D cI (ad 8) (ad 9) ob) (cwV 0 hts gX5_makeImage_X1_imageLength rfl rfl rfl (by decide +kernel) ⟨Nat.le_of_ble_eq_true rfl, Nat.le_of_ble_eq_true rfl⟩) hP hK hN [8, 9] rfl (va_recv hK hP (ci := 1) (q0 := 8) rfl rfl) rfl hl.1 rfl (Nat.le_of_ble_eq_true rfl) dX5_makeImage_123 ⟨Nat.zero_le _, Nat.zero_le _⟩ ?_
            refine lv_icmp_ne (tgt := 161) hx hb dX5_makeImage_126 (by decide) (fun c_126 => ?_) (fun c_126 => ?_)
            · -- 126 t
              refine lv_iconst (v := 0) hx hb dX5_makeImage_161 (by decide) ?_
              exact hret 162 ls _ _ (0, im_106, md_106) 0 _ dX5_makeImage_162 rfl rfl rfl (by simp only [z_mk, z_mk2, ← hu_106, if_pos c_24, if_pos c_36, if_neg c_109, if_neg c_126]) hP hS
            · -- 126 f
              refine lv_iconst (v := 0) hx hb dX5_makeImage_129 (by decide) ?_
              refine lv_aload_n hx hb dX5_makeImage_130 rfl (lv_at hl 2 rfl) ?_
              refine va_get (D := D) (ci := 5) (v := .ref (ad 10)) (C := RX5) (T := TX5) (N := 9) hx hb hts iX5_makeImage_6_X5 hown hK hP 0 rfl rfl 7 (by decide) (hts _ qX5_makeImage_6_3) (fun _ h9 => h9) rfl dX5_makeImage_131 ?_
              refine va_getN (host := RX5) (D := D) (ci := 2) (v := .ref (ad 11)) (C := RX2) (T := TX2) (N := 2) hx hb hts iX5_makeImage_6_X2 hown hK hP 10 rfl rfl 0 (by decide) (zN_use hN 10 rfl) (fun _ h9 => h9) rfl dX5_makeImage_134 ?_
              refine lv_aload_n hx hb dX5_makeImage_137 rfl (lv_at hl 2 rfl) ?_
              refine va_get (D := D) (ci := 5) (v := .ref (ad 10)) (C := RX5) (T := TX5) (N := 9) hx hb hts iX5_makeImage_6_X5 hown hK hP 0 rfl rfl 7 (by decide) (hts _ qX5_makeImage_6_3) (fun _ h9 => h9) rfl dX5_makeImage_138 ?_
              refine va_getN (host := RX5) (D := D) (ci := 2) (v := .int (nI md_106)) (C := RX2) (T := TX2) (N := 2) hx hb hts iX5_makeImage_6_X2 hown hK hP 10 rfl rfl 1 (by decide) (zN_use hN 11 rfl) (fun _ h9 => h9) rfl dX5_makeImage_141 ?_
              refine zSR (As := [.int 0, .ref (ad 11), .int (nI md_106)]) (rest := []) ⟨hx, hb, hml, hown, hts⟩ (k_X5_digest l D cI (ad 11) im_106 192 0 (nI md_106) (by omega)) (va_cwS 3 hts gX5_makeImage_X5_digest rfl rfl rfl (by decide +kernel) ⟨Nat.le_of_ble_eq_true rfl, Nat.le_of_ble_eq_true rfl⟩) hP hK hN [11] rfl rfl hl.1 rfl (Nat.le_of_ble_eq_true rfl) dX5_makeImage_144 ⟨Nat.zero_le _, Nat.zero_le _⟩ ?_
              refine lv_aload_n hx hb dX5_makeImage_147 rfl (lv_at hl 2 rfl) ?_
              refine va_get (D := D) (ci := 5) (v := .ref (ad 8)) (C := RX5) (T := TX5) (N := 9) hx hb hts iX5_makeImage_6_X5 hown hK hP 0 rfl rfl 6 (by decide) (hts _ qX5_makeImage_6_2) (fun _ h9 => h9) rfl dX5_makeImage_148 ?_
              refine zVR (As := []) (rest := [.int (z_dig 0 im_106 192 (nI md_106))]) ⟨hx, hb, hml, hown, hts⟩ (k_X1_imageDigest l D cI (ad 8) (ad 9) ob) (cwV 0 hts gX5_makeImage_X1_imageDigest rfl rfl rfl (by decide +kernel) ⟨Nat.le_of_ble_eq_true rfl, Nat.le_of_ble_eq_true rfl⟩) hP hK hN [8, 9] rfl (va_recv hK hP (ci := 1) (q0 := 8) rfl rfl) rfl hl.1 rfl (Nat.le_of_ble_eq_true rfl) dX5_makeImage_151 ⟨Nat.zero_le _, Nat.zero_le _⟩ ?_
              refine lv_icmp_ne (tgt := 161) hx hb dX5_makeImage_154 (by decide) (fun c_154 => ?_) (fun c_154 => ?_)
              · -- 154 t
                refine lv_iconst (v := 0) hx hb dX5_makeImage_161 (by decide) ?_
                exact hret 162 ls _ _ (0, im_106, md_106) 0 _ dX5_makeImage_162 rfl rfl rfl (by simp only [z_mk, z_mk2, ← hu_106, if_pos c_24, if_pos c_36, if_neg c_109, if_pos c_126, if_neg c_154]) hP hS
              · -- 154 f
                refine lv_iconst (v := 1) hx hb dX5_makeImage_157 (by decide) ?_
                refine lv_goto (tgt := 162) hx hb dX5_makeImage_158 (by decide) ?_
                exact hret 162 ls _ _ (1, im_106, md_106) 1 _ dX5_makeImage_162 rfl rfl rfl (by simp only [z_mk, z_mk2, ← hu_106, if_pos c_24, if_pos c_36, if_neg c_109, if_pos c_126, if_pos c_154]) hP hS
        · -- 70 f
          exact absurd (by decide) c_70
      · -- 46 f
        exact absurd (by decide) c_46
    · -- 36 f
      refine lv_iconst (v := 1) hx hb dX5_makeImage_39 (by decide) ?_
      refine lv_goto (tgt := 44) hx hb dX5_makeImage_40 (by decide) ?_
      refine lv_istore_n (lv' := [(2, .int 1), (0, .ref (ad 0)), (1, .ref (ad 6))]) hx hb dX5_makeImage_44 rfl hl (by decide) rfl (fun ls hl => ?_)
      refine lv_iload_n hx hb dX5_makeImage_45 rfl (lv_at hl 0 rfl) ?_
      refine lv_if_eq (tgt := 69) hx hb dX5_makeImage_46 (by decide) (fun c_46 => ?_) (fun c_46 => ?_)
      · -- 46 t
        exact absurd c_46 (by decide)
      · -- 46 f
        refine lv_aload_n hx hb dX5_makeImage_49 rfl (lv_at hl 1 rfl) ?_
        refine va_get (D := D) (ci := 5) (v := .ref (ad 8)) (C := RX5) (T := TX5) (N := 9) hx hb hts iX5_makeImage_6_X5 hown hK hP 0 rfl rfl 6 (by decide) (hts _ qX5_makeImage_6_2) (fun _ h9 => h9) rfl dX5_makeImage_50 ?_
        refine zVR (As := []) (rest := []) ⟨hx, hb, hml, hown, hts⟩ (k_X1_baseDigest l D cI (ad 8) (ad 9) ob) (cwV 0 hts gX5_makeImage_X1_baseDigest rfl rfl rfl (by decide +kernel) ⟨Nat.le_of_ble_eq_true rfl, Nat.le_of_ble_eq_true rfl⟩) hP hK hN [8, 9] rfl (va_recv hK hP (ci := 1) (q0 := 8) rfl rfl) rfl hl.1 rfl (Nat.le_of_ble_eq_true rfl) dX5_makeImage_53 ⟨Nat.zero_le _, Nat.zero_le _⟩ ?_
        refine lv_aload_n hx hb dX5_makeImage_56 rfl (lv_at hl 2 rfl) ?_
        refine lv_aload_n hx hb dX5_makeImage_57 rfl (lv_at hl 1 rfl) ?_
        refine va_get (D := D) (ci := 5) (v := .ref (ad 2)) (C := RX5) (T := TX5) (N := 9) hx hb hts iX5_makeImage_6_X5 hown hK hP 0 rfl rfl 2 (by decide) (hts _ qX5_makeImage_6_1) (fun _ h9 => h9) rfl dX5_makeImage_58 ?_
        refine zVR (As := [.ref (ad 2)]) (rest := [.int (z_mword ob 2)]) ⟨hx, hb, hml, hown, hts⟩ (k_X3_digest l D cI (ad 6) (ad 2) (ad 3) 0 0 192 f p a st n k) (cwV 1 hts gX5_makeImage_X3_digest rfl rfl rfl (by decide +kernel) ⟨Nat.le_of_ble_eq_true rfl, Nat.le_of_ble_eq_true rfl⟩) hP hK hN [6, 2, 3] rfl (va_recv hK hP (ci := 3) (q0 := 6) rfl rfl) rfl hl.1 rfl (Nat.le_of_ble_eq_true rfl) dX5_makeImage_61 ⟨Nat.zero_le _, Nat.zero_le _⟩ ?_
        refine lv_icmp_eq (tgt := 69) hx hb dX5_makeImage_64 (by decide) (fun c_64 => ?_) (fun c_64 => ?_)
        · -- 64 t
          refine lv_iload_n hx hb dX5_makeImage_69 rfl (lv_at hl 0 rfl) ?_
          refine lv_if_eq (tgt := 84) hx hb dX5_makeImage_70 (by decide) (fun c_70 => ?_) (fun c_70 => ?_)
          · -- 70 t
            exact absurd c_70 (by decide)
          · -- 70 f
            refine lv_aload_n hx hb dX5_makeImage_73 rfl (lv_at hl 2 rfl) ?_
            refine lv_aload_n hx hb dX5_makeImage_74 rfl (lv_at hl 1 rfl) ?_
            refine va_get (D := D) (ci := 5) (v := .ref (ad 2)) (C := RX5) (T := TX5) (N := 9) hx hb hts iX5_makeImage_6_X5 hown hK hP 0 rfl rfl 2 (by decide) (hts _ qX5_makeImage_6_1) (fun _ h9 => h9) rfl dX5_makeImage_75 ?_
            refine zVR (As := [.ref (ad 2)]) (rest := []) ⟨hx, hb, hml, hown, hts⟩ (k_X3_length l D cI (ad 6) (ad 2) (ad 3) 0 0 192 f p a st n k) (cwV 1 hts gX5_makeImage_X3_length rfl rfl rfl (by decide +kernel) ⟨Nat.le_of_ble_eq_true rfl, Nat.le_of_ble_eq_true rfl⟩) hP hK hN [6, 2, 3] rfl (va_recv hK hP (ci := 3) (q0 := 6) rfl rfl) rfl hl.1 rfl (Nat.le_of_ble_eq_true rfl) dX5_makeImage_78 ⟨Nat.zero_le _, Nat.zero_le _⟩ ?_
            refine z_top (v := nI (zb f 192)) (z_atB hB (i := 192) (by omega)) ?_
            refine lv_goto (tgt := 85) hx hb dX5_makeImage_81 (by decide) ?_
            refine lv_istore_n (lv' := [(3, .int (nI (zb f 192))), (2, .int 1), (0, .ref (ad 0)), (1, .ref (ad 6))]) hx hb dX5_makeImage_85 rfl hl (by decide) rfl (fun ls hl => ?_)
            refine lv_aload_n hx hb dX5_makeImage_86 rfl (lv_at hl 2 rfl) ?_
            refine va_get (D := D) (ci := 5) (v := .ref (ad 10)) (C := RX5) (T := TX5) (N := 9) hx hb hts iX5_makeImage_6_X5 hown hK hP 0 rfl rfl 7 (by decide) (hts _ qX5_makeImage_6_3) (fun _ h9 => h9) rfl dX5_makeImage_87 ?_
            refine lv_aload_n hx hb dX5_makeImage_90 rfl (lv_at hl 2 rfl) ?_
            refine va_get (D := D) (ci := 5) (v := .ref (ad 2)) (C := RX5) (T := TX5) (N := 9) hx hb hts iX5_makeImage_6_X5 hown hK hP 0 rfl rfl 2 (by decide) (hts _ qX5_makeImage_6_1) (fun _ h9 => h9) rfl dX5_makeImage_91 ?_
            refine lv_aload_n hx hb dX5_makeImage_94 rfl (lv_at hl 2 rfl) ?_
            refine va_get (D := D) (ci := 5) (v := .ref (ad 8)) (C := RX5) (T := TX5) (N := 9) hx hb hts iX5_makeImage_6_X5 hown hK hP 0 rfl rfl 6 (by decide) (hts _ qX5_makeImage_6_2) (fun _ h9 => h9) rfl dX5_makeImage_95 ?_
            refine zVR (As := []) (rest := [.ref (ad 2), .ref (ad 10)]) ⟨hx, hb, hml, hown, hts⟩ (k_X1_payloadLength l D cI (ad 8) (ad 9) ob) (cwV 0 hts gX5_makeImage_X1_payloadLength rfl rfl rfl (by decide +kernel) ⟨Nat.le_of_ble_eq_true rfl, Nat.le_of_ble_eq_true rfl⟩) hP hK hN [8, 9] rfl (va_recv hK hP (ci := 1) (q0 := 8) rfl rfl) rfl hl.1 rfl (Nat.le_of_ble_eq_true rfl) dX5_makeImage_98 ⟨Nat.zero_le _, Nat.zero_le _⟩ ?_
            refine z_top (v := nI (zb ob 6)) (h6) ?_
            refine lv_aload_n hx hb dX5_makeImage_101 rfl (lv_at hl 3 rfl) ?_
            refine va_getN (host := RX5) (D := D) (ci := 3) (v := .int 0) (C := RX3) (T := TX3) (N := 3) hx hb hts iX5_makeImage_6_X3 hown hK hP 6 rfl rfl 1 (by decide) (zN_use hN 6 rfl) (fun _ h9 => h9) rfl dX5_makeImage_102 ?_
            refine lv_iload_n hx hb dX5_makeImage_105 rfl (lv_at hl 0 rfl) ?_
            refine zVW (ws' := fun u => cW cI ad K v f p a st n k tb tl ob u.2.1 u.2.2 rn) (As := [.ref (ad 2), .int (nI (zb ob 6)), .int 0, .int (nI (zb f 192))]) (rest := []) ⟨hx, hb, hml, hown, hts⟩ (k_X2_unfold l D cI (ad 10) (ad 11) (ad 2) (ad 3) im md f p a st n k (zb ob 6) 0 (zb f 192) (by omega) (by omega) (by omega) hB) (cwV 4 hts gX5_makeImage_X2_unfold rfl rfl rfl (by decide +kernel) ⟨Nat.le_of_ble_eq_true rfl, Nat.le_of_ble_eq_true rfl⟩) hP hK hN hD hS hA [10, 11, 2, 3] [0, 1, 4, 5, 6, 7, 8, 9] [((ad 0), .inr (5, [.ref (ad 1), .int v, .ref (ad 2), .ref (ad 4), .ref (ad 6), .ref (ad 7), .ref (ad 8), .ref (ad 10), .int rn])), ((ad 1), .inl (cI, 8, .inl K)), ((ad 4), .inr (4, [.ref (ad 5), .int (nI tl)])), ((ad 5), .inl (cI, 192, .inl tb)), ((ad 6), .inr (3, [.int 0, .int 0, .int 192])), ((ad 7), .inr (3, [.int 7, .int 224, .int 416])), ((ad 8), .inr (1, [.ref (ad 9)])), ((ad 9), .inl (cI, 20, .inl ob))] rfl (by decide) rfl (fun _ => rfl) (fun _ => rfl) (fun _ => rfl) rfl (va_recv hK hP (ci := 2) (q0 := 10) rfl rfl) rfl hl.1 rfl (Nat.le_of_ble_eq_true rfl) dX5_makeImage_106 ⟨Nat.zero_le _, Nat.zero_le _⟩ (fun u_106 H locs hu_106 hP hD hS => ?_)
            obtain ⟨res_106, im_106, md_106⟩ := u_106
            have hP : va_P D vwCl (cW cI ad K v f p a st n k tb tl ob im_106 md_106 rn) _ := hP
            have hD : va_D A (cW cI ad K v f p a st n k tb tl ob im_106 md_106 rn) := hD
            refine W.eq (g2 := F0 m 109 ls [.int res_106]) rfl ?_
            refine lv_if_eq (tgt := 161) hx hb dX5_makeImage_109 (by decide) (fun c_109 => ?_) (fun c_109 => ?_)
            · -- 109 t
              refine lv_iconst (v := 0) hx hb dX5_makeImage_161 (by decide) ?_
              exact hret 162 ls _ _ (0, im_106, md_106) 0 _ dX5_makeImage_162 rfl rfl rfl (by simp only [z_mk, z_mk2, ← hu_106, if_pos c_24, if_neg c_36, if_pos c_64, if_pos c_109]) hP hS
            · -- 109 f
              refine lv_aload_n hx hb dX5_makeImage_112 rfl (lv_at hl 2 rfl) ?_
              refine va_get (D := D) (ci := 5) (v := .ref (ad 10)) (C := RX5) (T := TX5) (N := 9) hx hb hts iX5_makeImage_6_X5 hown hK hP 0 rfl rfl 7 (by decide) (hts _ qX5_makeImage_6_3) (fun _ h9 => h9) rfl dX5_makeImage_113 ?_
              refine va_getN (host := RX5) (D := D) (ci := 2) (v := .int (nI md_106)) (C := RX2) (T := TX2) (N := 2) hx hb hts iX5_makeImage_6_X2 hown hK hP 10 rfl rfl 1 (by decide) (zN_use hN 11 rfl) (fun _ h9 => h9) rfl dX5_makeImage_116 ?_
              refine lv_aload_n hx hb dX5_makeImage_119 rfl (lv_at hl 2 rfl) ?_
              refine va_get (D := D) (ci := 5) (v := .ref (ad 8)) (C := RX5) (T := TX5) (N := 9) hx hb hts iX5_makeImage_6_X5 hown hK hP 0 rfl rfl 6 (by decide) (hts _ qX5_makeImage_6_2) (fun _ h9 => h9) rfl dX5_makeImage_120 ?_
              refine zVR (As := []) (rest := [.int (nI md_106)]) ⟨hx, hb, hml, hown, hts⟩ (k_X1_imageLength l D cI (ad 8) (ad 9) ob) (cwV 0 hts gX5_makeImage_X1_imageLength rfl rfl rfl (by decide +kernel) ⟨Nat.le_of_ble_eq_true rfl, Nat.le_of_ble_eq_true rfl⟩) hP hK hN [8, 9] rfl (va_recv hK hP (ci := 1) (q0 := 8) rfl rfl) rfl hl.1 rfl (Nat.le_of_ble_eq_true rfl) dX5_makeImage_123 ⟨Nat.zero_le _, Nat.zero_le _⟩ ?_
              refine lv_icmp_ne (tgt := 161) hx hb dX5_makeImage_126 (by decide) (fun c_126 => ?_) (fun c_126 => ?_)
              · -- 126 t
                refine lv_iconst (v := 0) hx hb dX5_makeImage_161 (by decide) ?_
                exact hret 162 ls _ _ (0, im_106, md_106) 0 _ dX5_makeImage_162 rfl rfl rfl (by simp only [z_mk, z_mk2, ← hu_106, if_pos c_24, if_neg c_36, if_pos c_64, if_neg c_109, if_neg c_126]) hP hS
              · -- 126 f
                refine lv_iconst (v := 0) hx hb dX5_makeImage_129 (by decide) ?_
                refine lv_aload_n hx hb dX5_makeImage_130 rfl (lv_at hl 2 rfl) ?_
                refine va_get (D := D) (ci := 5) (v := .ref (ad 10)) (C := RX5) (T := TX5) (N := 9) hx hb hts iX5_makeImage_6_X5 hown hK hP 0 rfl rfl 7 (by decide) (hts _ qX5_makeImage_6_3) (fun _ h9 => h9) rfl dX5_makeImage_131 ?_
                refine va_getN (host := RX5) (D := D) (ci := 2) (v := .ref (ad 11)) (C := RX2) (T := TX2) (N := 2) hx hb hts iX5_makeImage_6_X2 hown hK hP 10 rfl rfl 0 (by decide) (zN_use hN 10 rfl) (fun _ h9 => h9) rfl dX5_makeImage_134 ?_
                refine lv_aload_n hx hb dX5_makeImage_137 rfl (lv_at hl 2 rfl) ?_
                refine va_get (D := D) (ci := 5) (v := .ref (ad 10)) (C := RX5) (T := TX5) (N := 9) hx hb hts iX5_makeImage_6_X5 hown hK hP 0 rfl rfl 7 (by decide) (hts _ qX5_makeImage_6_3) (fun _ h9 => h9) rfl dX5_makeImage_138 ?_
                refine va_getN (host := RX5) (D := D) (ci := 2) (v := .int (nI md_106)) (C := RX2) (T := TX2) (N := 2) hx hb hts iX5_makeImage_6_X2 hown hK hP 10 rfl rfl 1 (by decide) (zN_use hN 11 rfl) (fun _ h9 => h9) rfl dX5_makeImage_141 ?_
                refine zSR (As := [.int 0, .ref (ad 11), .int (nI md_106)]) (rest := []) ⟨hx, hb, hml, hown, hts⟩ (k_X5_digest l D cI (ad 11) im_106 192 0 (nI md_106) (by omega)) (va_cwS 3 hts gX5_makeImage_X5_digest rfl rfl rfl (by decide +kernel) ⟨Nat.le_of_ble_eq_true rfl, Nat.le_of_ble_eq_true rfl⟩) hP hK hN [11] rfl rfl hl.1 rfl (Nat.le_of_ble_eq_true rfl) dX5_makeImage_144 ⟨Nat.zero_le _, Nat.zero_le _⟩ ?_
                refine lv_aload_n hx hb dX5_makeImage_147 rfl (lv_at hl 2 rfl) ?_
                refine va_get (D := D) (ci := 5) (v := .ref (ad 8)) (C := RX5) (T := TX5) (N := 9) hx hb hts iX5_makeImage_6_X5 hown hK hP 0 rfl rfl 6 (by decide) (hts _ qX5_makeImage_6_2) (fun _ h9 => h9) rfl dX5_makeImage_148 ?_
                refine zVR (As := []) (rest := [.int (z_dig 0 im_106 192 (nI md_106))]) ⟨hx, hb, hml, hown, hts⟩ (k_X1_imageDigest l D cI (ad 8) (ad 9) ob) (cwV 0 hts gX5_makeImage_X1_imageDigest rfl rfl rfl (by decide +kernel) ⟨Nat.le_of_ble_eq_true rfl, Nat.le_of_ble_eq_true rfl⟩) hP hK hN [8, 9] rfl (va_recv hK hP (ci := 1) (q0 := 8) rfl rfl) rfl hl.1 rfl (Nat.le_of_ble_eq_true rfl) dX5_makeImage_151 ⟨Nat.zero_le _, Nat.zero_le _⟩ ?_
                refine lv_icmp_ne (tgt := 161) hx hb dX5_makeImage_154 (by decide) (fun c_154 => ?_) (fun c_154 => ?_)
                · -- 154 t
                  refine lv_iconst (v := 0) hx hb dX5_makeImage_161 (by decide) ?_
                  exact hret 162 ls _ _ (0, im_106, md_106) 0 _ dX5_makeImage_162 rfl rfl rfl (by simp only [z_mk, z_mk2, ← hu_106, if_pos c_24, if_neg c_36, if_pos c_64, if_neg c_109, if_pos c_126, if_neg c_154]) hP hS
                · -- 154 f
                  refine lv_iconst (v := 1) hx hb dX5_makeImage_157 (by decide) ?_
                  refine lv_goto (tgt := 162) hx hb dX5_makeImage_158 (by decide) ?_
                  exact hret 162 ls _ _ (1, im_106, md_106) 1 _ dX5_makeImage_162 rfl rfl rfl (by simp only [z_mk, z_mk2, ← hu_106, if_pos c_24, if_neg c_36, if_pos c_64, if_neg c_109, if_pos c_126, if_pos c_154]) hP hS
        · -- 64 f
          refine lv_iconst (v := 0) hx hb dX5_makeImage_67 (by decide) ?_
          exact hret 68 ls _ _ (0, im, md) 0 _ dX5_makeImage_68 rfl rfl rfl (by simp only [z_mk, z_mk2, if_pos c_24, if_neg c_36, if_neg c_64]) hP hS
  · -- 24 f
    refine lv_iconst (v := 0) hx hb dX5_makeImage_27 (by decide) ?_
    exact hret 28 ls _ _ (0, im, md) 0 _ dX5_makeImage_28 rfl rfl rfl (by simp only [z_mk, z_mk2, if_neg c_24]) hP hS
abbrev rm_X5_programUpdate_6 : Room := { frames := 4, cells := 0, slots := 0, locals := 90 }
set_option maxRecDepth 20000 in
theorem qX5_programUpdate_6_1 : (Cond.fieldLink RX5 12 "FlashBoot" "flash" "LFlashBoot$Flash;" : Cond) ∈ wsX5_programUpdate := List.mem_of_getElem? (i := 1) rfl
set_option maxRecDepth 20000 in
theorem iX5_programUpdate_6_X5 : ∀ w ∈ wsX50, w ∈ wsX5_programUpdate := by decide +kernel
set_option maxRecDepth 20000 in
theorem qX5_programUpdate_6_2 : (Cond.fieldLink RX5 45 "FlashBoot" "patch" "LFlashBoot$Patch;" : Cond) ∈ wsX5_programUpdate := List.mem_of_getElem? (i := 2) rfl
set_option maxRecDepth 20000 in
theorem iX5_programUpdate_6_X2 : ∀ w ∈ wsX20, w ∈ wsX5_programUpdate := by decide +kernel
set_option maxRecDepth 20000 in
theorem qX5_programUpdate_6_3 : (Cond.fieldLink RX5 38 "FlashBoot" "order" "LFlashBoot$Manifest;" : Cond) ∈ wsX5_programUpdate := List.mem_of_getElem? (i := 3) rfl
set_option maxHeartbeats 4000000 in
set_option maxRecDepth 100000 in
theorem k_X5_programUpdate_6 (l : Launch) (D : va_G) (cI : ClassId) (ad : Nat → Nat) (K : RW) (v : Int32) (f : RW) (p : Int32) (a : Int32) (st : Int32) (n : Int32) (k : Int32) (tb : RW) (tl : Nat) (ob : RW) (im : RW) (md : Nat) (rn : Int32)   : zMW (S := RW × Int32 × Int32 × Int32 × Int32 × Int32) l D cI yX5_programUpdate wsX5_programUpdate rm_X5_programUpdate_6 [.ref (ad 0), .ref (ad 6)] (cW cI ad K v f p a st n k tb tl ob im md rn) (z_upd 0 0 192 im md ob (f, p, a, st, n, k)) (fun _ => none) (fun u => cW cI ad K v u.1 u.2.1 u.2.2.1 u.2.2.2.1 u.2.2.2.2.1 u.2.2.2.2.2 tb tl ob im md rn) := by
  refine zEntW (cc := cX5_programUpdate) (maxL := 2) (ret := none) (own := RX5) (lvs := [(0, .ref (ad 0)), (1, .ref (ad 6))]) (by decide) rfl rfl (Nat.le_of_ble_eq_true rfl) rfl ?_
  intro p0 e s m args below meth c Q ls A hx hb hml hts hown hP hK hN hD hS hA hl hret hretV
  refine lv_aload_n hx hb dX5_programUpdate_0 rfl (lv_at hl 1 rfl) ?_
  refine lv_aload_n hx hb dX5_programUpdate_1 rfl (lv_at hl 0 rfl) ?_
  refine va_get (D := D) (ci := 5) (v := .ref (ad 2)) (C := RX5) (T := TX5) (N := 9) hx hb hts iX5_programUpdate_6_X5 hown hK hP 0 rfl rfl 2 (by decide) (hts _ qX5_programUpdate_6_1) (fun _ h9 => h9) rfl dX5_programUpdate_2 ?_
  refine zVW (ws' := fun u => cW cI ad K v u.1 u.2.1 u.2.2.1 u.2.2.2.1 u.2.2.2.2.1 u.2.2.2.2.2 tb tl ob im md rn) (As := [.ref (ad 2)]) (rest := []) ⟨hx, hb, hml, hown, hts⟩ (k_X3_eraseHeader l D cI (ad 6) (ad 2) (ad 3) 0 0 192 f p a st n k (by omega)) (cwV 1 hts gX5_programUpdate_X3_eraseHeader rfl rfl rfl (by decide +kernel) ⟨Nat.le_of_ble_eq_true rfl, Nat.le_of_ble_eq_true rfl⟩) hP hK hN hD hS hA [6, 2, 3] [0, 1, 4, 5, 7, 8, 9, 10, 11] [((ad 0), .inr (5, [.ref (ad 1), .int v, .ref (ad 2), .ref (ad 4), .ref (ad 6), .ref (ad 7), .ref (ad 8), .ref (ad 10), .int rn])), ((ad 1), .inl (cI, 8, .inl K)), ((ad 4), .inr (4, [.ref (ad 5), .int (nI tl)])), ((ad 5), .inl (cI, 192, .inl tb)), ((ad 7), .inr (3, [.int 7, .int 224, .int 416])), ((ad 8), .inr (1, [.ref (ad 9)])), ((ad 9), .inl (cI, 20, .inl ob)), ((ad 10), .inr (2, [.ref (ad 11), .int (nI md)])), ((ad 11), .inl (cI, 192, .inl im))] rfl (by decide) rfl (fun _ => rfl) (fun _ => rfl) (fun _ => rfl) rfl (va_recv hK hP (ci := 3) (q0 := 6) rfl rfl) rfl hl.1 rfl (Nat.le_of_ble_eq_true rfl) dX5_programUpdate_5 ⟨Nat.zero_le _, Nat.zero_le _⟩ (fun u_5 H locs hu_5 hP hD hS => ?_)
  obtain ⟨f_5, p_5, a_5, st_5, n_5, k_5⟩ := u_5
  have hP : va_P D vwCl (cW cI ad K v f_5 p_5 a_5 st_5 n_5 k_5 tb tl ob im md rn) _ := hP
  have hD : va_D A (cW cI ad K v f_5 p_5 a_5 st_5 n_5 k_5 tb tl ob im md rn) := hD
  refine W.eq (g2 := F0 m 8 ls []) rfl ?_
  refine lv_aload_n hx hb dX5_programUpdate_8 rfl (lv_at hl 1 rfl) ?_
  refine lv_aload_n hx hb dX5_programUpdate_9 rfl (lv_at hl 0 rfl) ?_
  refine va_get (D := D) (ci := 5) (v := .ref (ad 2)) (C := RX5) (T := TX5) (N := 9) hx hb hts iX5_programUpdate_6_X5 hown hK hP 0 rfl rfl 2 (by decide) (hts _ qX5_programUpdate_6_1) (fun _ h9 => h9) rfl dX5_programUpdate_10 ?_
  refine zVW (ws' := fun u => cW cI ad K v u.1 u.2.1 u.2.2.1 u.2.2.2.1 u.2.2.2.2.1 u.2.2.2.2.2 tb tl ob im md rn) (As := [.ref (ad 2)]) (rest := []) ⟨hx, hb, hml, hown, hts⟩ (k_X3_eraseImage l D cI (ad 6) (ad 2) (ad 3) 0 0 192 f_5 p_5 a_5 st_5 n_5 k_5 (by omega)) (cwV 1 hts gX5_programUpdate_X3_eraseImage rfl rfl rfl (by decide +kernel) ⟨Nat.le_of_ble_eq_true rfl, Nat.le_of_ble_eq_true rfl⟩) hP hK hN hD hS hA [6, 2, 3] [0, 1, 4, 5, 7, 8, 9, 10, 11] [((ad 0), .inr (5, [.ref (ad 1), .int v, .ref (ad 2), .ref (ad 4), .ref (ad 6), .ref (ad 7), .ref (ad 8), .ref (ad 10), .int rn])), ((ad 1), .inl (cI, 8, .inl K)), ((ad 4), .inr (4, [.ref (ad 5), .int (nI tl)])), ((ad 5), .inl (cI, 192, .inl tb)), ((ad 7), .inr (3, [.int 7, .int 224, .int 416])), ((ad 8), .inr (1, [.ref (ad 9)])), ((ad 9), .inl (cI, 20, .inl ob)), ((ad 10), .inr (2, [.ref (ad 11), .int (nI md)])), ((ad 11), .inl (cI, 192, .inl im))] rfl (by decide) rfl (fun _ => rfl) (fun _ => rfl) (fun _ => rfl) rfl (va_recv hK hP (ci := 3) (q0 := 6) rfl rfl) rfl hl.1 rfl (Nat.le_of_ble_eq_true rfl) dX5_programUpdate_13 ⟨Nat.zero_le _, Nat.zero_le _⟩ (fun u_13 H locs hu_13 hP hD hS => ?_)
  obtain ⟨f_13, p_13, a_13, st_13, n_13, k_13⟩ := u_13
  have hP : va_P D vwCl (cW cI ad K v f_13 p_13 a_13 st_13 n_13 k_13 tb tl ob im md rn) _ := hP
  have hD : va_D A (cW cI ad K v f_13 p_13 a_13 st_13 n_13 k_13 tb tl ob im md rn) := hD
  refine W.eq (g2 := F0 m 16 ls []) rfl ?_
  refine lv_aload_n hx hb dX5_programUpdate_16 rfl (lv_at hl 1 rfl) ?_
  refine lv_aload_n hx hb dX5_programUpdate_17 rfl (lv_at hl 0 rfl) ?_
  refine va_get (D := D) (ci := 5) (v := .ref (ad 2)) (C := RX5) (T := TX5) (N := 9) hx hb hts iX5_programUpdate_6_X5 hown hK hP 0 rfl rfl 2 (by decide) (hts _ qX5_programUpdate_6_1) (fun _ h9 => h9) rfl dX5_programUpdate_18 ?_
  refine lv_aload_n hx hb dX5_programUpdate_21 rfl (lv_at hl 0 rfl) ?_
  refine va_get (D := D) (ci := 5) (v := .ref (ad 10)) (C := RX5) (T := TX5) (N := 9) hx hb hts iX5_programUpdate_6_X5 hown hK hP 0 rfl rfl 7 (by decide) (hts _ qX5_programUpdate_6_2) (fun _ h9 => h9) rfl dX5_programUpdate_22 ?_
  refine va_getN (host := RX5) (D := D) (ci := 2) (v := .ref (ad 11)) (C := RX2) (T := TX2) (N := 2) hx hb hts iX5_programUpdate_6_X2 hown hK hP 10 rfl rfl 0 (by decide) (zN_use hN 10 rfl) (fun _ h9 => h9) rfl dX5_programUpdate_25 ?_
  refine lv_aload_n hx hb dX5_programUpdate_28 rfl (lv_at hl 0 rfl) ?_
  refine va_get (D := D) (ci := 5) (v := .ref (ad 10)) (C := RX5) (T := TX5) (N := 9) hx hb hts iX5_programUpdate_6_X5 hown hK hP 0 rfl rfl 7 (by decide) (hts _ qX5_programUpdate_6_2) (fun _ h9 => h9) rfl dX5_programUpdate_29 ?_
  refine va_getN (host := RX5) (D := D) (ci := 2) (v := .int (nI md)) (C := RX2) (T := TX2) (N := 2) hx hb hts iX5_programUpdate_6_X2 hown hK hP 10 rfl rfl 1 (by decide) (zN_use hN 11 rfl) (fun _ h9 => h9) rfl dX5_programUpdate_32 ?_
  refine zVW (ws' := fun u => cW cI ad K v u.1 u.2.1 u.2.2.1 u.2.2.2.1 u.2.2.2.2.1 u.2.2.2.2.2 tb tl ob im md rn) (As := [.ref (ad 2), .ref (ad 11), .int (nI md)]) (rest := []) ⟨hx, hb, hml, hown, hts⟩ (k_X3_programImage l D cI (ad 6) (ad 2) (ad 3) (ad 11) 0 0 192 f_13 p_13 a_13 st_13 n_13 k_13 im 192 (nI md) (by omega)) (cwV 3 hts gX5_programUpdate_X3_programImage rfl rfl rfl (by decide +kernel) ⟨Nat.le_of_ble_eq_true rfl, Nat.le_of_ble_eq_true rfl⟩) hP hK hN hD hS hA [6, 2, 3, 11] [0, 1, 4, 5, 7, 8, 9, 10] [((ad 0), .inr (5, [.ref (ad 1), .int v, .ref (ad 2), .ref (ad 4), .ref (ad 6), .ref (ad 7), .ref (ad 8), .ref (ad 10), .int rn])), ((ad 1), .inl (cI, 8, .inl K)), ((ad 4), .inr (4, [.ref (ad 5), .int (nI tl)])), ((ad 5), .inl (cI, 192, .inl tb)), ((ad 7), .inr (3, [.int 7, .int 224, .int 416])), ((ad 8), .inr (1, [.ref (ad 9)])), ((ad 9), .inl (cI, 20, .inl ob)), ((ad 10), .inr (2, [.ref (ad 11), .int (nI md)]))] rfl (by decide) rfl (fun _ => rfl) (fun _ => rfl) (fun _ => rfl) rfl (va_recv hK hP (ci := 3) (q0 := 6) rfl rfl) rfl hl.1 rfl (Nat.le_of_ble_eq_true rfl) dX5_programUpdate_35 ⟨Nat.zero_le _, Nat.zero_le _⟩ (fun u_35 H locs hu_35 hP hD hS => ?_)
  obtain ⟨f_35, p_35, a_35, st_35, n_35, k_35⟩ := u_35
  have hP : va_P D vwCl (cW cI ad K v f_35 p_35 a_35 st_35 n_35 k_35 tb tl ob im md rn) _ := hP
  have hD : va_D A (cW cI ad K v f_35 p_35 a_35 st_35 n_35 k_35 tb tl ob im md rn) := hD
  refine W.eq (g2 := F0 m 38 ls []) rfl ?_
  refine lv_aload_n hx hb dX5_programUpdate_38 rfl (lv_at hl 1 rfl) ?_
  refine lv_aload_n hx hb dX5_programUpdate_39 rfl (lv_at hl 0 rfl) ?_
  refine va_get (D := D) (ci := 5) (v := .ref (ad 2)) (C := RX5) (T := TX5) (N := 9) hx hb hts iX5_programUpdate_6_X5 hown hK hP 0 rfl rfl 2 (by decide) (hts _ qX5_programUpdate_6_1) (fun _ h9 => h9) rfl dX5_programUpdate_40 ?_
  refine lv_aload_n hx hb dX5_programUpdate_43 rfl (lv_at hl 0 rfl) ?_
  refine va_get (D := D) (ci := 5) (v := .ref (ad 8)) (C := RX5) (T := TX5) (N := 9) hx hb hts iX5_programUpdate_6_X5 hown hK hP 0 rfl rfl 6 (by decide) (hts _ qX5_programUpdate_6_3) (fun _ h9 => h9) rfl dX5_programUpdate_44 ?_
  refine zVR (As := []) (rest := [.ref (ad 2), .ref (ad 6)]) ⟨hx, hb, hml, hown, hts⟩ (k_X1_imageLength l D cI (ad 8) (ad 9) ob) (cwV 0 hts gX5_programUpdate_X1_imageLength rfl rfl rfl (by decide +kernel) ⟨Nat.le_of_ble_eq_true rfl, Nat.le_of_ble_eq_true rfl⟩) hP hK hN [8, 9] rfl (va_recv hK hP (ci := 1) (q0 := 8) rfl rfl) rfl hl.1 rfl (Nat.le_of_ble_eq_true rfl) dX5_programUpdate_47 ⟨Nat.zero_le _, Nat.zero_le _⟩ ?_
  refine lv_aload_n hx hb dX5_programUpdate_50 rfl (lv_at hl 0 rfl) ?_
  refine va_get (D := D) (ci := 5) (v := .ref (ad 8)) (C := RX5) (T := TX5) (N := 9) hx hb hts iX5_programUpdate_6_X5 hown hK hP 0 rfl rfl 6 (by decide) (hts _ qX5_programUpdate_6_3) (fun _ h9 => h9) rfl dX5_programUpdate_51 ?_
  refine zVR (As := []) (rest := [.int (ob 11), .ref (ad 2), .ref (ad 6)]) ⟨hx, hb, hml, hown, hts⟩ (k_X1_sequence l D cI (ad 8) (ad 9) ob) (cwV 0 hts gX5_programUpdate_X1_sequence rfl rfl rfl (by decide +kernel) ⟨Nat.le_of_ble_eq_true rfl, Nat.le_of_ble_eq_true rfl⟩) hP hK hN [8, 9] rfl (va_recv hK hP (ci := 1) (q0 := 8) rfl rfl) rfl hl.1 rfl (Nat.le_of_ble_eq_true rfl) dX5_programUpdate_54 ⟨Nat.zero_le _, Nat.zero_le _⟩ ?_
  refine lv_aload_n hx hb dX5_programUpdate_57 rfl (lv_at hl 0 rfl) ?_
  refine va_get (D := D) (ci := 5) (v := .ref (ad 8)) (C := RX5) (T := TX5) (N := 9) hx hb hts iX5_programUpdate_6_X5 hown hK hP 0 rfl rfl 6 (by decide) (hts _ qX5_programUpdate_6_3) (fun _ h9 => h9) rfl dX5_programUpdate_58 ?_
  refine zVR (As := []) (rest := [.int (ob 1), .int (ob 11), .ref (ad 2), .ref (ad 6)]) ⟨hx, hb, hml, hown, hts⟩ (k_X1_imageDigest l D cI (ad 8) (ad 9) ob) (cwV 0 hts gX5_programUpdate_X1_imageDigest rfl rfl rfl (by decide +kernel) ⟨Nat.le_of_ble_eq_true rfl, Nat.le_of_ble_eq_true rfl⟩) hP hK hN [8, 9] rfl (va_recv hK hP (ci := 1) (q0 := 8) rfl rfl) rfl hl.1 rfl (Nat.le_of_ble_eq_true rfl) dX5_programUpdate_61 ⟨Nat.zero_le _, Nat.zero_le _⟩ ?_
  refine zVW (ws' := fun u => cW cI ad K v u.1 u.2.1 u.2.2.1 u.2.2.2.1 u.2.2.2.2.1 u.2.2.2.2.2 tb tl ob im md rn) (As := [.ref (ad 2), .int (ob 11), .int (ob 1), .int (z_mword ob 12)]) (rest := []) ⟨hx, hb, hml, hown, hts⟩ (k_X3_programName l D cI (ad 6) (ad 2) (ad 3) 0 0 192 f_35 p_35 a_35 st_35 n_35 k_35 (ob 11) (ob 1) (z_mword ob 12)) (cwV 4 hts gX5_programUpdate_X3_programName rfl rfl rfl (by decide +kernel) ⟨Nat.le_of_ble_eq_true rfl, Nat.le_of_ble_eq_true rfl⟩) hP hK hN hD hS hA [6, 2, 3] [0, 1, 4, 5, 7, 8, 9, 10, 11] [((ad 0), .inr (5, [.ref (ad 1), .int v, .ref (ad 2), .ref (ad 4), .ref (ad 6), .ref (ad 7), .ref (ad 8), .ref (ad 10), .int rn])), ((ad 1), .inl (cI, 8, .inl K)), ((ad 4), .inr (4, [.ref (ad 5), .int (nI tl)])), ((ad 5), .inl (cI, 192, .inl tb)), ((ad 7), .inr (3, [.int 7, .int 224, .int 416])), ((ad 8), .inr (1, [.ref (ad 9)])), ((ad 9), .inl (cI, 20, .inl ob)), ((ad 10), .inr (2, [.ref (ad 11), .int (nI md)])), ((ad 11), .inl (cI, 192, .inl im))] rfl (by decide) rfl (fun _ => rfl) (fun _ => rfl) (fun _ => rfl) rfl (va_recv hK hP (ci := 3) (q0 := 6) rfl rfl) rfl hl.1 rfl (Nat.le_of_ble_eq_true rfl) dX5_programUpdate_64 ⟨Nat.zero_le _, Nat.zero_le _⟩ (fun u_64 H locs hu_64 hP hD hS => ?_)
  obtain ⟨f_64, p_64, a_64, st_64, n_64, k_64⟩ := u_64
  have hP : va_P D vwCl (cW cI ad K v f_64 p_64 a_64 st_64 n_64 k_64 tb tl ob im md rn) _ := hP
  have hD : va_D A (cW cI ad K v f_64 p_64 a_64 st_64 n_64 k_64 tb tl ob im md rn) := hD
  refine W.eq (g2 := F0 m 67 ls []) rfl ?_
  refine lv_aload_n hx hb dX5_programUpdate_67 rfl (lv_at hl 1 rfl) ?_
  refine lv_aload_n hx hb dX5_programUpdate_68 rfl (lv_at hl 0 rfl) ?_
  refine va_get (D := D) (ci := 5) (v := .ref (ad 2)) (C := RX5) (T := TX5) (N := 9) hx hb hts iX5_programUpdate_6_X5 hown hK hP 0 rfl rfl 2 (by decide) (hts _ qX5_programUpdate_6_1) (fun _ h9 => h9) rfl dX5_programUpdate_69 ?_
  refine zVW (ws' := fun u => cW cI ad K v u.1 u.2.1 u.2.2.1 u.2.2.2.1 u.2.2.2.2.1 u.2.2.2.2.2 tb tl ob im md rn) (As := [.ref (ad 2)]) (rest := []) ⟨hx, hb, hml, hown, hts⟩ (k_X3_programTrials l D cI (ad 6) (ad 2) (ad 3) 0 0 192 f_64 p_64 a_64 st_64 n_64 k_64) (cwV 1 hts gX5_programUpdate_X3_programTrials rfl rfl rfl (by decide +kernel) ⟨Nat.le_of_ble_eq_true rfl, Nat.le_of_ble_eq_true rfl⟩) hP hK hN hD hS hA [6, 2, 3] [0, 1, 4, 5, 7, 8, 9, 10, 11] [((ad 0), .inr (5, [.ref (ad 1), .int v, .ref (ad 2), .ref (ad 4), .ref (ad 6), .ref (ad 7), .ref (ad 8), .ref (ad 10), .int rn])), ((ad 1), .inl (cI, 8, .inl K)), ((ad 4), .inr (4, [.ref (ad 5), .int (nI tl)])), ((ad 5), .inl (cI, 192, .inl tb)), ((ad 7), .inr (3, [.int 7, .int 224, .int 416])), ((ad 8), .inr (1, [.ref (ad 9)])), ((ad 9), .inl (cI, 20, .inl ob)), ((ad 10), .inr (2, [.ref (ad 11), .int (nI md)])), ((ad 11), .inl (cI, 192, .inl im))] rfl (by decide) rfl (fun _ => rfl) (fun _ => rfl) (fun _ => rfl) rfl (va_recv hK hP (ci := 3) (q0 := 6) rfl rfl) rfl hl.1 rfl (Nat.le_of_ble_eq_true rfl) dX5_programUpdate_72 ⟨Nat.zero_le _, Nat.zero_le _⟩ (fun u_72 H locs hu_72 hP hD hS => ?_)
  obtain ⟨f_72, p_72, a_72, st_72, n_72, k_72⟩ := u_72
  have hP : va_P D vwCl (cW cI ad K v f_72 p_72 a_72 st_72 n_72 k_72 tb tl ob im md rn) _ := hP
  have hD : va_D A (cW cI ad K v f_72 p_72 a_72 st_72 n_72 k_72 tb tl ob im md rn) := hD
  refine W.eq (g2 := F0 m 75 ls []) rfl ?_
  refine lv_aload_n hx hb dX5_programUpdate_75 rfl (lv_at hl 1 rfl) ?_
  refine lv_aload_n hx hb dX5_programUpdate_76 rfl (lv_at hl 0 rfl) ?_
  refine va_get (D := D) (ci := 5) (v := .ref (ad 2)) (C := RX5) (T := TX5) (N := 9) hx hb hts iX5_programUpdate_6_X5 hown hK hP 0 rfl rfl 2 (by decide) (hts _ qX5_programUpdate_6_1) (fun _ h9 => h9) rfl dX5_programUpdate_77 ?_
  refine zVW (ws' := fun u => cW cI ad K v u.1 u.2.1 u.2.2.1 u.2.2.2.1 u.2.2.2.2.1 u.2.2.2.2.2 tb tl ob im md rn) (As := [.ref (ad 2)]) (rest := []) ⟨hx, hb, hml, hown, hts⟩ (k_X3_programWhole l D cI (ad 6) (ad 2) (ad 3) 0 0 192 f_72 p_72 a_72 st_72 n_72 k_72) (cwV 1 hts gX5_programUpdate_X3_programWhole rfl rfl rfl (by decide +kernel) ⟨Nat.le_of_ble_eq_true rfl, Nat.le_of_ble_eq_true rfl⟩) hP hK hN hD hS hA [6, 2, 3] [0, 1, 4, 5, 7, 8, 9, 10, 11] [((ad 0), .inr (5, [.ref (ad 1), .int v, .ref (ad 2), .ref (ad 4), .ref (ad 6), .ref (ad 7), .ref (ad 8), .ref (ad 10), .int rn])), ((ad 1), .inl (cI, 8, .inl K)), ((ad 4), .inr (4, [.ref (ad 5), .int (nI tl)])), ((ad 5), .inl (cI, 192, .inl tb)), ((ad 7), .inr (3, [.int 7, .int 224, .int 416])), ((ad 8), .inr (1, [.ref (ad 9)])), ((ad 9), .inl (cI, 20, .inl ob)), ((ad 10), .inr (2, [.ref (ad 11), .int (nI md)])), ((ad 11), .inl (cI, 192, .inl im))] rfl (by decide) rfl (fun _ => rfl) (fun _ => rfl) (fun _ => rfl) rfl (va_recv hK hP (ci := 3) (q0 := 6) rfl rfl) rfl hl.1 rfl (Nat.le_of_ble_eq_true rfl) dX5_programUpdate_80 ⟨Nat.zero_le _, Nat.zero_le _⟩ (fun u_80 H locs hu_80 hP hD hS => ?_)
  obtain ⟨f_80, p_80, a_80, st_80, n_80, k_80⟩ := u_80
  have hP : va_P D vwCl (cW cI ad K v f_80 p_80 a_80 st_80 n_80 k_80 tb tl ob im md rn) _ := hP
  have hD : va_D A (cW cI ad K v f_80 p_80 a_80 st_80 n_80 k_80 tb tl ob im md rn) := hD
  refine W.eq (g2 := F0 m 83 ls []) rfl ?_
  refine lv_aload_n hx hb dX5_programUpdate_83 rfl (lv_at hl 0 rfl) ?_
  refine va_get (D := D) (ci := 5) (v := .ref (ad 2)) (C := RX5) (T := TX5) (N := 9) hx hb hts iX5_programUpdate_6_X5 hown hK hP 0 rfl rfl 2 (by decide) (hts _ qX5_programUpdate_6_1) (fun _ h9 => h9) rfl dX5_programUpdate_84 ?_
  refine lv_bipush (v := 20) hx hb dX5_programUpdate_87 (by decide) ?_
  refine zVW (ws' := fun u => cW cI ad K v u.1 u.2.1 u.2.2.1 u.2.2.2.1 u.2.2.2.2.1 u.2.2.2.2.2 tb tl ob im md rn) (As := [.int 20]) (rest := []) ⟨hx, hb, hml, hown, hts⟩ (k_X0_erase l D cI (ad 2) (ad 3) f_80 p_80 a_80 st_80 n_80 k_80 20 (by omega)) (cwV 1 hts gX5_programUpdate_X0_erase rfl rfl rfl (by decide +kernel) ⟨Nat.le_of_ble_eq_true rfl, Nat.le_of_ble_eq_true rfl⟩) hP hK hN hD hS hA [2, 3] [0, 1, 4, 5, 6, 7, 8, 9, 10, 11] [((ad 0), .inr (5, [.ref (ad 1), .int v, .ref (ad 2), .ref (ad 4), .ref (ad 6), .ref (ad 7), .ref (ad 8), .ref (ad 10), .int rn])), ((ad 1), .inl (cI, 8, .inl K)), ((ad 4), .inr (4, [.ref (ad 5), .int (nI tl)])), ((ad 5), .inl (cI, 192, .inl tb)), ((ad 6), .inr (3, [.int 0, .int 0, .int 192])), ((ad 7), .inr (3, [.int 7, .int 224, .int 416])), ((ad 8), .inr (1, [.ref (ad 9)])), ((ad 9), .inl (cI, 20, .inl ob)), ((ad 10), .inr (2, [.ref (ad 11), .int (nI md)])), ((ad 11), .inl (cI, 192, .inl im))] rfl (by decide) rfl (fun _ => rfl) (fun _ => rfl) (fun _ => rfl) rfl (va_recv hK hP (ci := 0) (q0 := 2) rfl rfl) rfl hl.1 rfl (Nat.le_of_ble_eq_true rfl) dX5_programUpdate_89 ⟨Nat.zero_le _, Nat.zero_le _⟩ (fun u_89 H locs hu_89 hP hD hS => ?_)
  obtain ⟨f_89, p_89, a_89, st_89, n_89, k_89⟩ := u_89
  have hP : va_P D vwCl (cW cI ad K v f_89 p_89 a_89 st_89 n_89 k_89 tb tl ob im md rn) _ := hP
  have hD : va_D A (cW cI ad K v f_89 p_89 a_89 st_89 n_89 k_89 tb tl ob im md rn) := hD
  refine W.eq (g2 := F0 m 92 ls []) rfl ?_
  exact hretV 92 ls _ _ (f_89, p_89, a_89, st_89, n_89, k_89) dX5_programUpdate_92 rfl rfl (by simp only [z_upd, ← hu_5, ← hu_13, ← hu_35, ← hu_64, ← hu_72, ← hu_80, ← hu_89]) hP hS
abbrev rm_X5_makeImage_7 : Room := { frames := 4, cells := 0, slots := 0, locals := 98 }
set_option maxRecDepth 20000 in
theorem qX5_makeImage_7_1 : (Cond.fieldLink RX5 12 "FlashBoot" "flash" "LFlashBoot$Flash;" : Cond) ∈ wsX5_makeImage := List.mem_of_getElem? (i := 1) rfl
set_option maxRecDepth 20000 in
theorem iX5_makeImage_7_X5 : ∀ w ∈ wsX50, w ∈ wsX5_makeImage := by decide +kernel
set_option maxRecDepth 20000 in
theorem qX5_makeImage_7_2 : (Cond.fieldLink RX5 38 "FlashBoot" "order" "LFlashBoot$Manifest;" : Cond) ∈ wsX5_makeImage := List.mem_of_getElem? (i := 2) rfl
set_option maxRecDepth 20000 in
theorem qX5_makeImage_7_3 : (Cond.fieldLink RX5 45 "FlashBoot" "patch" "LFlashBoot$Patch;" : Cond) ∈ wsX5_makeImage := List.mem_of_getElem? (i := 3) rfl
set_option maxRecDepth 20000 in
theorem iX5_makeImage_7_X3 : ∀ w ∈ wsX30, w ∈ wsX5_makeImage := by decide +kernel
set_option maxRecDepth 20000 in
theorem iX5_makeImage_7_X2 : ∀ w ∈ wsX20, w ∈ wsX5_makeImage := by decide +kernel
set_option maxHeartbeats 4000000 in
set_option maxRecDepth 100000 in
theorem k_X5_makeImage_7 (l : Launch) (D : va_G) (cI : ClassId) (ad : Nat → Nat) (K : RW) (v : Int32) (f : RW) (p : Int32) (a : Int32) (st : Int32) (n : Int32) (k : Int32) (tb : RW) (tl : Nat) (ob : RW) (im : RW) (md : Nat) (rn : Int32)  (h6 : ob 6 = nI (zb ob 6)) (h6b : zb ob 6 ≤ 192) (hB : zbOk f) : zMW (S := Int32 × RW × Nat) l D cI yX5_makeImage wsX5_makeImage rm_X5_makeImage_7 [.ref (ad 0), .ref (ad 7)] (cW cI ad K v f p a st n k tb tl ob im md rn) (z_mk 224 416 416 f ob (im, md)) (fun u => some (.int u.1)) (fun u => cW cI ad K v f p a st n k tb tl ob u.2.1 u.2.2 rn) := by
  refine zEntW (cc := cX5_makeImage) (maxL := 4) (ret := (some .boolean)) (own := RX5) (lvs := [(0, .ref (ad 0)), (1, .ref (ad 7))]) (by decide) rfl rfl (Nat.le_of_ble_eq_true rfl) rfl ?_
  intro p0 e s m args below meth c Q ls A hx hb hml hts hown hP hK hN hD hS hA hl hret hretV
  have hB9 := (hB 416 (by omega)).2
  refine lv_aload_n hx hb dX5_makeImage_0 rfl (lv_at hl 0 rfl) ?_
  refine va_get (D := D) (ci := 5) (v := .ref (ad 2)) (C := RX5) (T := TX5) (N := 9) hx hb hts iX5_makeImage_7_X5 hown hK hP 0 rfl rfl 2 (by decide) (hts _ qX5_makeImage_7_1) (fun _ h9 => h9) rfl dX5_makeImage_1 ?_
  refine lv_sipush (v := 448) hx hb dX5_makeImage_4 (by decide) ?_
  refine lv_aload_n hx hb dX5_makeImage_7 rfl (lv_at hl 0 rfl) ?_
  refine va_get (D := D) (ci := 5) (v := .ref (ad 8)) (C := RX5) (T := TX5) (N := 9) hx hb hts iX5_makeImage_7_X5 hown hK hP 0 rfl rfl 6 (by decide) (hts _ qX5_makeImage_7_2) (fun _ h9 => h9) rfl dX5_makeImage_8 ?_
  refine zVR (As := []) (rest := [.int 448, .ref (ad 2)]) ⟨hx, hb, hml, hown, hts⟩ (k_X1_payloadLength l D cI (ad 8) (ad 9) ob) (cwV 0 hts gX5_makeImage_X1_payloadLength rfl rfl rfl (by decide +kernel) ⟨Nat.le_of_ble_eq_true rfl, Nat.le_of_ble_eq_true rfl⟩) hP hK hN [8, 9] rfl (va_recv hK hP (ci := 1) (q0 := 8) rfl rfl) rfl hl.1 rfl (Nat.le_of_ble_eq_true rfl) dX5_makeImage_11 ⟨Nat.zero_le _, Nat.zero_le _⟩ ?_
  refine zVR (As := [.int 448, .int (ob 6)]) (rest := []) ⟨hx, hb, hml, hown, hts⟩ (k_X0_digestOf l D cI (ad 2) (ad 3) f p a st n k 448 (ob 6)) (cwV 2 hts gX5_makeImage_X0_digestOf rfl rfl rfl (by decide +kernel) ⟨Nat.le_of_ble_eq_true rfl, Nat.le_of_ble_eq_true rfl⟩) hP hK hN [2, 3] rfl (va_recv hK hP (ci := 0) (q0 := 2) rfl rfl) rfl hl.1 rfl (Nat.le_of_ble_eq_true rfl) dX5_makeImage_14 ⟨Nat.zero_le _, Nat.zero_le _⟩ ?_
  refine lv_aload_n hx hb dX5_makeImage_17 rfl (lv_at hl 0 rfl) ?_
  refine va_get (D := D) (ci := 5) (v := .ref (ad 8)) (C := RX5) (T := TX5) (N := 9) hx hb hts iX5_makeImage_7_X5 hown hK hP 0 rfl rfl 6 (by decide) (hts _ qX5_makeImage_7_2) (fun _ h9 => h9) rfl dX5_makeImage_18 ?_
  refine zVR (As := []) (rest := [.int (z_digO f 448 (ob 6))]) ⟨hx, hb, hml, hown, hts⟩ (k_X1_payloadDigest l D cI (ad 8) (ad 9) ob) (cwV 0 hts gX5_makeImage_X1_payloadDigest rfl rfl rfl (by decide +kernel) ⟨Nat.le_of_ble_eq_true rfl, Nat.le_of_ble_eq_true rfl⟩) hP hK hN [8, 9] rfl (va_recv hK hP (ci := 1) (q0 := 8) rfl rfl) rfl hl.1 rfl (Nat.le_of_ble_eq_true rfl) dX5_makeImage_21 ⟨Nat.zero_le _, Nat.zero_le _⟩ ?_
  refine lv_icmp_eq (tgt := 29) hx hb dX5_makeImage_24 (by decide) (fun c_24 => ?_) (fun c_24 => ?_)
  · -- 24 t
    refine lv_aload_n hx hb dX5_makeImage_29 rfl (lv_at hl 0 rfl) ?_
    refine va_get (D := D) (ci := 5) (v := .ref (ad 8)) (C := RX5) (T := TX5) (N := 9) hx hb hts iX5_makeImage_7_X5 hown hK hP 0 rfl rfl 6 (by decide) (hts _ qX5_makeImage_7_2) (fun _ h9 => h9) rfl dX5_makeImage_30 ?_
    refine zVR (As := []) (rest := []) ⟨hx, hb, hml, hown, hts⟩ (k_X1_baseDigest l D cI (ad 8) (ad 9) ob) (cwV 0 hts gX5_makeImage_X1_baseDigest rfl rfl rfl (by decide +kernel) ⟨Nat.le_of_ble_eq_true rfl, Nat.le_of_ble_eq_true rfl⟩) hP hK hN [8, 9] rfl (va_recv hK hP (ci := 1) (q0 := 8) rfl rfl) rfl hl.1 rfl (Nat.le_of_ble_eq_true rfl) dX5_makeImage_33 ⟨Nat.zero_le _, Nat.zero_le _⟩ ?_
    refine lv_if_eq (tgt := 43) hx hb dX5_makeImage_36 (by decide) (fun c_36 => ?_) (fun c_36 => ?_)
    · -- 36 t
      refine lv_iconst (v := 0) hx hb dX5_makeImage_43 (by decide) ?_
      refine lv_istore_n (lv' := [(2, .int 0), (0, .ref (ad 0)), (1, .ref (ad 7))]) hx hb dX5_makeImage_44 rfl hl (by decide) rfl (fun ls hl => ?_)
      refine lv_iload_n hx hb dX5_makeImage_45 rfl (lv_at hl 0 rfl) ?_
      refine lv_if_eq (tgt := 69) hx hb dX5_makeImage_46 (by decide) (fun c_46 => ?_) (fun c_46 => ?_)
      · -- 46 t
        refine lv_iload_n hx hb dX5_makeImage_69 rfl (lv_at hl 0 rfl) ?_
        refine lv_if_eq (tgt := 84) hx hb dX5_makeImage_70 (by decide) (fun c_70 => ?_) (fun c_70 => ?_)
        · -- 70 t
          refine lv_iconst (v := 0) hx hb dX5_makeImage_84 (by decide) ?_
          refine lv_istore_n (lv' := [(3, .int 0), (2, .int 0), (0, .ref (ad 0)), (1, .ref (ad 7))]) hx hb dX5_makeImage_85 rfl hl (by decide) rfl (fun ls hl => ?_)
          refine lv_aload_n hx hb dX5_makeImage_86 rfl (lv_at hl 2 rfl) ?_
          refine va_get (D := D) (ci := 5) (v := .ref (ad 10)) (C := RX5) (T := TX5) (N := 9) hx hb hts iX5_makeImage_7_X5 hown hK hP 0 rfl rfl 7 (by decide) (hts _ qX5_makeImage_7_3) (fun _ h9 => h9) rfl dX5_makeImage_87 ?_
          refine lv_aload_n hx hb dX5_makeImage_90 rfl (lv_at hl 2 rfl) ?_
          refine va_get (D := D) (ci := 5) (v := .ref (ad 2)) (C := RX5) (T := TX5) (N := 9) hx hb hts iX5_makeImage_7_X5 hown hK hP 0 rfl rfl 2 (by decide) (hts _ qX5_makeImage_7_1) (fun _ h9 => h9) rfl dX5_makeImage_91 ?_
          refine lv_aload_n hx hb dX5_makeImage_94 rfl (lv_at hl 2 rfl) ?_
          refine va_get (D := D) (ci := 5) (v := .ref (ad 8)) (C := RX5) (T := TX5) (N := 9) hx hb hts iX5_makeImage_7_X5 hown hK hP 0 rfl rfl 6 (by decide) (hts _ qX5_makeImage_7_2) (fun _ h9 => h9) rfl dX5_makeImage_95 ?_
          refine zVR (As := []) (rest := [.ref (ad 2), .ref (ad 10)]) ⟨hx, hb, hml, hown, hts⟩ (k_X1_payloadLength l D cI (ad 8) (ad 9) ob) (cwV 0 hts gX5_makeImage_X1_payloadLength rfl rfl rfl (by decide +kernel) ⟨Nat.le_of_ble_eq_true rfl, Nat.le_of_ble_eq_true rfl⟩) hP hK hN [8, 9] rfl (va_recv hK hP (ci := 1) (q0 := 8) rfl rfl) rfl hl.1 rfl (Nat.le_of_ble_eq_true rfl) dX5_makeImage_98 ⟨Nat.zero_le _, Nat.zero_le _⟩ ?_
          refine z_top (v := nI (zb ob 6)) (h6) ?_
          refine lv_aload_n hx hb dX5_makeImage_101 rfl (lv_at hl 3 rfl) ?_
          refine va_getN (host := RX5) (D := D) (ci := 3) (v := .int 224) (C := RX3) (T := TX3) (N := 3) hx hb hts iX5_makeImage_7_X3 hown hK hP 7 rfl rfl 1 (by decide) (zN_use hN 6 rfl) (fun _ h9 => h9) rfl dX5_makeImage_102 ?_
          refine lv_iload_n hx hb dX5_makeImage_105 rfl (lv_at hl 0 rfl) ?_
          refine zVW (ws' := fun u => cW cI ad K v f p a st n k tb tl ob u.2.1 u.2.2 rn) (As := [.ref (ad 2), .int (nI (zb ob 6)), .int 224, .int 0]) (rest := []) ⟨hx, hb, hml, hown, hts⟩ (k_X2_unfold l D cI (ad 10) (ad 11) (ad 2) (ad 3) im md f p a st n k (zb ob 6) 224 0 (by omega) (by omega) (by omega) hB) (cwV 4 hts gX5_makeImage_X2_unfold rfl rfl rfl (by decide +kernel) ⟨Nat.le_of_ble_eq_true rfl, Nat.le_of_ble_eq_true rfl⟩) hP hK hN hD hS hA [10, 11, 2, 3] [0, 1, 4, 5, 6, 7, 8, 9] [((ad 0), .inr (5, [.ref (ad 1), .int v, .ref (ad 2), .ref (ad 4), .ref (ad 6), .ref (ad 7), .ref (ad 8), .ref (ad 10), .int rn])), ((ad 1), .inl (cI, 8, .inl K)), ((ad 4), .inr (4, [.ref (ad 5), .int (nI tl)])), ((ad 5), .inl (cI, 192, .inl tb)), ((ad 6), .inr (3, [.int 0, .int 0, .int 192])), ((ad 7), .inr (3, [.int 7, .int 224, .int 416])), ((ad 8), .inr (1, [.ref (ad 9)])), ((ad 9), .inl (cI, 20, .inl ob))] rfl (by decide) rfl (fun _ => rfl) (fun _ => rfl) (fun _ => rfl) rfl (va_recv hK hP (ci := 2) (q0 := 10) rfl rfl) rfl hl.1 rfl (Nat.le_of_ble_eq_true rfl) dX5_makeImage_106 ⟨Nat.zero_le _, Nat.zero_le _⟩ (fun u_106 H locs hu_106 hP hD hS => ?_)
          obtain ⟨res_106, im_106, md_106⟩ := u_106
          have hP : va_P D vwCl (cW cI ad K v f p a st n k tb tl ob im_106 md_106 rn) _ := hP
          have hD : va_D A (cW cI ad K v f p a st n k tb tl ob im_106 md_106 rn) := hD
          refine W.eq (g2 := F0 m 109 ls [.int res_106]) rfl ?_
          refine lv_if_eq (tgt := 161) hx hb dX5_makeImage_109 (by decide) (fun c_109 => ?_) (fun c_109 => ?_)
          · -- 109 t
            refine lv_iconst (v := 0) hx hb dX5_makeImage_161 (by decide) ?_
            exact hret 162 ls _ _ (0, im_106, md_106) 0 _ dX5_makeImage_162 rfl rfl rfl (by simp only [z_mk, z_mk2, ← hu_106, if_pos c_24, if_pos c_36, if_pos c_109]) hP hS
          · -- 109 f
            refine lv_aload_n hx hb dX5_makeImage_112 rfl (lv_at hl 2 rfl) ?_
            refine va_get (D := D) (ci := 5) (v := .ref (ad 10)) (C := RX5) (T := TX5) (N := 9) hx hb hts iX5_makeImage_7_X5 hown hK hP 0 rfl rfl 7 (by decide) (hts _ qX5_makeImage_7_3) (fun _ h9 => h9) rfl dX5_makeImage_113 ?_
            refine va_getN (host := RX5) (D := D) (ci := 2) (v := .int (nI md_106)) (C := RX2) (T := TX2) (N := 2) hx hb hts iX5_makeImage_7_X2 hown hK hP 10 rfl rfl 1 (by decide) (zN_use hN 11 rfl) (fun _ h9 => h9) rfl dX5_makeImage_116 ?_
            refine lv_aload_n hx hb dX5_makeImage_119 rfl (lv_at hl 2 rfl) ?_
            refine va_get (D := D) (ci := 5) (v := .ref (ad 8)) (C := RX5) (T := TX5) (N := 9) hx hb hts iX5_makeImage_7_X5 hown hK hP 0 rfl rfl 6 (by decide) (hts _ qX5_makeImage_7_2) (fun _ h9 => h9) rfl dX5_makeImage_120 ?_
            refine zVR (As := []) (rest := [.int (nI md_106)]) ⟨hx, hb, hml, hown, hts⟩ (k_X1_imageLength l D cI (ad 8) (ad 9) ob) (cwV 0 hts gX5_makeImage_X1_imageLength rfl rfl rfl (by decide +kernel) ⟨Nat.le_of_ble_eq_true rfl, Nat.le_of_ble_eq_true rfl⟩) hP hK hN [8, 9] rfl (va_recv hK hP (ci := 1) (q0 := 8) rfl rfl) rfl hl.1 rfl (Nat.le_of_ble_eq_true rfl) dX5_makeImage_123 ⟨Nat.zero_le _, Nat.zero_le _⟩ ?_
            refine lv_icmp_ne (tgt := 161) hx hb dX5_makeImage_126 (by decide) (fun c_126 => ?_) (fun c_126 => ?_)
            · -- 126 t
              refine lv_iconst (v := 0) hx hb dX5_makeImage_161 (by decide) ?_
              exact hret 162 ls _ _ (0, im_106, md_106) 0 _ dX5_makeImage_162 rfl rfl rfl (by simp only [z_mk, z_mk2, ← hu_106, if_pos c_24, if_pos c_36, if_neg c_109, if_neg c_126]) hP hS
            · -- 126 f
              refine lv_iconst (v := 0) hx hb dX5_makeImage_129 (by decide) ?_
              refine lv_aload_n hx hb dX5_makeImage_130 rfl (lv_at hl 2 rfl) ?_
              refine va_get (D := D) (ci := 5) (v := .ref (ad 10)) (C := RX5) (T := TX5) (N := 9) hx hb hts iX5_makeImage_7_X5 hown hK hP 0 rfl rfl 7 (by decide) (hts _ qX5_makeImage_7_3) (fun _ h9 => h9) rfl dX5_makeImage_131 ?_
              refine va_getN (host := RX5) (D := D) (ci := 2) (v := .ref (ad 11)) (C := RX2) (T := TX2) (N := 2) hx hb hts iX5_makeImage_7_X2 hown hK hP 10 rfl rfl 0 (by decide) (zN_use hN 10 rfl) (fun _ h9 => h9) rfl dX5_makeImage_134 ?_
              refine lv_aload_n hx hb dX5_makeImage_137 rfl (lv_at hl 2 rfl) ?_
              refine va_get (D := D) (ci := 5) (v := .ref (ad 10)) (C := RX5) (T := TX5) (N := 9) hx hb hts iX5_makeImage_7_X5 hown hK hP 0 rfl rfl 7 (by decide) (hts _ qX5_makeImage_7_3) (fun _ h9 => h9) rfl dX5_makeImage_138 ?_
              refine va_getN (host := RX5) (D := D) (ci := 2) (v := .int (nI md_106)) (C := RX2) (T := TX2) (N := 2) hx hb hts iX5_makeImage_7_X2 hown hK hP 10 rfl rfl 1 (by decide) (zN_use hN 11 rfl) (fun _ h9 => h9) rfl dX5_makeImage_141 ?_
              refine zSR (As := [.int 0, .ref (ad 11), .int (nI md_106)]) (rest := []) ⟨hx, hb, hml, hown, hts⟩ (k_X5_digest l D cI (ad 11) im_106 192 0 (nI md_106) (by omega)) (va_cwS 3 hts gX5_makeImage_X5_digest rfl rfl rfl (by decide +kernel) ⟨Nat.le_of_ble_eq_true rfl, Nat.le_of_ble_eq_true rfl⟩) hP hK hN [11] rfl rfl hl.1 rfl (Nat.le_of_ble_eq_true rfl) dX5_makeImage_144 ⟨Nat.zero_le _, Nat.zero_le _⟩ ?_
              refine lv_aload_n hx hb dX5_makeImage_147 rfl (lv_at hl 2 rfl) ?_
              refine va_get (D := D) (ci := 5) (v := .ref (ad 8)) (C := RX5) (T := TX5) (N := 9) hx hb hts iX5_makeImage_7_X5 hown hK hP 0 rfl rfl 6 (by decide) (hts _ qX5_makeImage_7_2) (fun _ h9 => h9) rfl dX5_makeImage_148 ?_
              refine zVR (As := []) (rest := [.int (z_dig 0 im_106 192 (nI md_106))]) ⟨hx, hb, hml, hown, hts⟩ (k_X1_imageDigest l D cI (ad 8) (ad 9) ob) (cwV 0 hts gX5_makeImage_X1_imageDigest rfl rfl rfl (by decide +kernel) ⟨Nat.le_of_ble_eq_true rfl, Nat.le_of_ble_eq_true rfl⟩) hP hK hN [8, 9] rfl (va_recv hK hP (ci := 1) (q0 := 8) rfl rfl) rfl hl.1 rfl (Nat.le_of_ble_eq_true rfl) dX5_makeImage_151 ⟨Nat.zero_le _, Nat.zero_le _⟩ ?_
              refine lv_icmp_ne (tgt := 161) hx hb dX5_makeImage_154 (by decide) (fun c_154 => ?_) (fun c_154 => ?_)
              · -- 154 t
                refine lv_iconst (v := 0) hx hb dX5_makeImage_161 (by decide) ?_
                exact hret 162 ls _ _ (0, im_106, md_106) 0 _ dX5_makeImage_162 rfl rfl rfl (by simp only [z_mk, z_mk2, ← hu_106, if_pos c_24, if_pos c_36, if_neg c_109, if_pos c_126, if_neg c_154]) hP hS
              · -- 154 f
                refine lv_iconst (v := 1) hx hb dX5_makeImage_157 (by decide) ?_
                refine lv_goto (tgt := 162) hx hb dX5_makeImage_158 (by decide) ?_
                exact hret 162 ls _ _ (1, im_106, md_106) 1 _ dX5_makeImage_162 rfl rfl rfl (by simp only [z_mk, z_mk2, ← hu_106, if_pos c_24, if_pos c_36, if_neg c_109, if_pos c_126, if_pos c_154]) hP hS
        · -- 70 f
          exact absurd (by decide) c_70
      · -- 46 f
        exact absurd (by decide) c_46
    · -- 36 f
      refine lv_iconst (v := 1) hx hb dX5_makeImage_39 (by decide) ?_
      refine lv_goto (tgt := 44) hx hb dX5_makeImage_40 (by decide) ?_
      refine lv_istore_n (lv' := [(2, .int 1), (0, .ref (ad 0)), (1, .ref (ad 7))]) hx hb dX5_makeImage_44 rfl hl (by decide) rfl (fun ls hl => ?_)
      refine lv_iload_n hx hb dX5_makeImage_45 rfl (lv_at hl 0 rfl) ?_
      refine lv_if_eq (tgt := 69) hx hb dX5_makeImage_46 (by decide) (fun c_46 => ?_) (fun c_46 => ?_)
      · -- 46 t
        exact absurd c_46 (by decide)
      · -- 46 f
        refine lv_aload_n hx hb dX5_makeImage_49 rfl (lv_at hl 1 rfl) ?_
        refine va_get (D := D) (ci := 5) (v := .ref (ad 8)) (C := RX5) (T := TX5) (N := 9) hx hb hts iX5_makeImage_7_X5 hown hK hP 0 rfl rfl 6 (by decide) (hts _ qX5_makeImage_7_2) (fun _ h9 => h9) rfl dX5_makeImage_50 ?_
        refine zVR (As := []) (rest := []) ⟨hx, hb, hml, hown, hts⟩ (k_X1_baseDigest l D cI (ad 8) (ad 9) ob) (cwV 0 hts gX5_makeImage_X1_baseDigest rfl rfl rfl (by decide +kernel) ⟨Nat.le_of_ble_eq_true rfl, Nat.le_of_ble_eq_true rfl⟩) hP hK hN [8, 9] rfl (va_recv hK hP (ci := 1) (q0 := 8) rfl rfl) rfl hl.1 rfl (Nat.le_of_ble_eq_true rfl) dX5_makeImage_53 ⟨Nat.zero_le _, Nat.zero_le _⟩ ?_
        refine lv_aload_n hx hb dX5_makeImage_56 rfl (lv_at hl 2 rfl) ?_
        refine lv_aload_n hx hb dX5_makeImage_57 rfl (lv_at hl 1 rfl) ?_
        refine va_get (D := D) (ci := 5) (v := .ref (ad 2)) (C := RX5) (T := TX5) (N := 9) hx hb hts iX5_makeImage_7_X5 hown hK hP 0 rfl rfl 2 (by decide) (hts _ qX5_makeImage_7_1) (fun _ h9 => h9) rfl dX5_makeImage_58 ?_
        refine zVR (As := [.ref (ad 2)]) (rest := [.int (z_mword ob 2)]) ⟨hx, hb, hml, hown, hts⟩ (k_X3_digest l D cI (ad 7) (ad 2) (ad 3) 7 224 416 f p a st n k) (cwV 1 hts gX5_makeImage_X3_digest rfl rfl rfl (by decide +kernel) ⟨Nat.le_of_ble_eq_true rfl, Nat.le_of_ble_eq_true rfl⟩) hP hK hN [7, 2, 3] rfl (va_recv hK hP (ci := 3) (q0 := 7) rfl rfl) rfl hl.1 rfl (Nat.le_of_ble_eq_true rfl) dX5_makeImage_61 ⟨Nat.zero_le _, Nat.zero_le _⟩ ?_
        refine lv_icmp_eq (tgt := 69) hx hb dX5_makeImage_64 (by decide) (fun c_64 => ?_) (fun c_64 => ?_)
        · -- 64 t
          refine lv_iload_n hx hb dX5_makeImage_69 rfl (lv_at hl 0 rfl) ?_
          refine lv_if_eq (tgt := 84) hx hb dX5_makeImage_70 (by decide) (fun c_70 => ?_) (fun c_70 => ?_)
          · -- 70 t
            exact absurd c_70 (by decide)
          · -- 70 f
            refine lv_aload_n hx hb dX5_makeImage_73 rfl (lv_at hl 2 rfl) ?_
            refine lv_aload_n hx hb dX5_makeImage_74 rfl (lv_at hl 1 rfl) ?_
            refine va_get (D := D) (ci := 5) (v := .ref (ad 2)) (C := RX5) (T := TX5) (N := 9) hx hb hts iX5_makeImage_7_X5 hown hK hP 0 rfl rfl 2 (by decide) (hts _ qX5_makeImage_7_1) (fun _ h9 => h9) rfl dX5_makeImage_75 ?_
            refine zVR (As := [.ref (ad 2)]) (rest := []) ⟨hx, hb, hml, hown, hts⟩ (k_X3_length l D cI (ad 7) (ad 2) (ad 3) 7 224 416 f p a st n k) (cwV 1 hts gX5_makeImage_X3_length rfl rfl rfl (by decide +kernel) ⟨Nat.le_of_ble_eq_true rfl, Nat.le_of_ble_eq_true rfl⟩) hP hK hN [7, 2, 3] rfl (va_recv hK hP (ci := 3) (q0 := 7) rfl rfl) rfl hl.1 rfl (Nat.le_of_ble_eq_true rfl) dX5_makeImage_78 ⟨Nat.zero_le _, Nat.zero_le _⟩ ?_
            refine z_top (v := nI (zb f 416)) (z_atB hB (i := 416) (by omega)) ?_
            refine lv_goto (tgt := 85) hx hb dX5_makeImage_81 (by decide) ?_
            refine lv_istore_n (lv' := [(3, .int (nI (zb f 416))), (2, .int 1), (0, .ref (ad 0)), (1, .ref (ad 7))]) hx hb dX5_makeImage_85 rfl hl (by decide) rfl (fun ls hl => ?_)
            refine lv_aload_n hx hb dX5_makeImage_86 rfl (lv_at hl 2 rfl) ?_
            refine va_get (D := D) (ci := 5) (v := .ref (ad 10)) (C := RX5) (T := TX5) (N := 9) hx hb hts iX5_makeImage_7_X5 hown hK hP 0 rfl rfl 7 (by decide) (hts _ qX5_makeImage_7_3) (fun _ h9 => h9) rfl dX5_makeImage_87 ?_
            refine lv_aload_n hx hb dX5_makeImage_90 rfl (lv_at hl 2 rfl) ?_
            refine va_get (D := D) (ci := 5) (v := .ref (ad 2)) (C := RX5) (T := TX5) (N := 9) hx hb hts iX5_makeImage_7_X5 hown hK hP 0 rfl rfl 2 (by decide) (hts _ qX5_makeImage_7_1) (fun _ h9 => h9) rfl dX5_makeImage_91 ?_
            refine lv_aload_n hx hb dX5_makeImage_94 rfl (lv_at hl 2 rfl) ?_
            refine va_get (D := D) (ci := 5) (v := .ref (ad 8)) (C := RX5) (T := TX5) (N := 9) hx hb hts iX5_makeImage_7_X5 hown hK hP 0 rfl rfl 6 (by decide) (hts _ qX5_makeImage_7_2) (fun _ h9 => h9) rfl dX5_makeImage_95 ?_
            refine zVR (As := []) (rest := [.ref (ad 2), .ref (ad 10)]) ⟨hx, hb, hml, hown, hts⟩ (k_X1_payloadLength l D cI (ad 8) (ad 9) ob) (cwV 0 hts gX5_makeImage_X1_payloadLength rfl rfl rfl (by decide +kernel) ⟨Nat.le_of_ble_eq_true rfl, Nat.le_of_ble_eq_true rfl⟩) hP hK hN [8, 9] rfl (va_recv hK hP (ci := 1) (q0 := 8) rfl rfl) rfl hl.1 rfl (Nat.le_of_ble_eq_true rfl) dX5_makeImage_98 ⟨Nat.zero_le _, Nat.zero_le _⟩ ?_
            refine z_top (v := nI (zb ob 6)) (h6) ?_
            refine lv_aload_n hx hb dX5_makeImage_101 rfl (lv_at hl 3 rfl) ?_
            refine va_getN (host := RX5) (D := D) (ci := 3) (v := .int 224) (C := RX3) (T := TX3) (N := 3) hx hb hts iX5_makeImage_7_X3 hown hK hP 7 rfl rfl 1 (by decide) (zN_use hN 6 rfl) (fun _ h9 => h9) rfl dX5_makeImage_102 ?_
            refine lv_iload_n hx hb dX5_makeImage_105 rfl (lv_at hl 0 rfl) ?_
            refine zVW (ws' := fun u => cW cI ad K v f p a st n k tb tl ob u.2.1 u.2.2 rn) (As := [.ref (ad 2), .int (nI (zb ob 6)), .int 224, .int (nI (zb f 416))]) (rest := []) ⟨hx, hb, hml, hown, hts⟩ (k_X2_unfold l D cI (ad 10) (ad 11) (ad 2) (ad 3) im md f p a st n k (zb ob 6) 224 (zb f 416) (by omega) (by omega) (by omega) hB) (cwV 4 hts gX5_makeImage_X2_unfold rfl rfl rfl (by decide +kernel) ⟨Nat.le_of_ble_eq_true rfl, Nat.le_of_ble_eq_true rfl⟩) hP hK hN hD hS hA [10, 11, 2, 3] [0, 1, 4, 5, 6, 7, 8, 9] [((ad 0), .inr (5, [.ref (ad 1), .int v, .ref (ad 2), .ref (ad 4), .ref (ad 6), .ref (ad 7), .ref (ad 8), .ref (ad 10), .int rn])), ((ad 1), .inl (cI, 8, .inl K)), ((ad 4), .inr (4, [.ref (ad 5), .int (nI tl)])), ((ad 5), .inl (cI, 192, .inl tb)), ((ad 6), .inr (3, [.int 0, .int 0, .int 192])), ((ad 7), .inr (3, [.int 7, .int 224, .int 416])), ((ad 8), .inr (1, [.ref (ad 9)])), ((ad 9), .inl (cI, 20, .inl ob))] rfl (by decide) rfl (fun _ => rfl) (fun _ => rfl) (fun _ => rfl) rfl (va_recv hK hP (ci := 2) (q0 := 10) rfl rfl) rfl hl.1 rfl (Nat.le_of_ble_eq_true rfl) dX5_makeImage_106 ⟨Nat.zero_le _, Nat.zero_le _⟩ (fun u_106 H locs hu_106 hP hD hS => ?_)
            obtain ⟨res_106, im_106, md_106⟩ := u_106
            have hP : va_P D vwCl (cW cI ad K v f p a st n k tb tl ob im_106 md_106 rn) _ := hP
            have hD : va_D A (cW cI ad K v f p a st n k tb tl ob im_106 md_106 rn) := hD
            refine W.eq (g2 := F0 m 109 ls [.int res_106]) rfl ?_
            refine lv_if_eq (tgt := 161) hx hb dX5_makeImage_109 (by decide) (fun c_109 => ?_) (fun c_109 => ?_)
            · -- 109 t
              refine lv_iconst (v := 0) hx hb dX5_makeImage_161 (by decide) ?_
              exact hret 162 ls _ _ (0, im_106, md_106) 0 _ dX5_makeImage_162 rfl rfl rfl (by simp only [z_mk, z_mk2, ← hu_106, if_pos c_24, if_neg c_36, if_pos c_64, if_pos c_109]) hP hS
            · -- 109 f
              refine lv_aload_n hx hb dX5_makeImage_112 rfl (lv_at hl 2 rfl) ?_
              refine va_get (D := D) (ci := 5) (v := .ref (ad 10)) (C := RX5) (T := TX5) (N := 9) hx hb hts iX5_makeImage_7_X5 hown hK hP 0 rfl rfl 7 (by decide) (hts _ qX5_makeImage_7_3) (fun _ h9 => h9) rfl dX5_makeImage_113 ?_
              refine va_getN (host := RX5) (D := D) (ci := 2) (v := .int (nI md_106)) (C := RX2) (T := TX2) (N := 2) hx hb hts iX5_makeImage_7_X2 hown hK hP 10 rfl rfl 1 (by decide) (zN_use hN 11 rfl) (fun _ h9 => h9) rfl dX5_makeImage_116 ?_
              refine lv_aload_n hx hb dX5_makeImage_119 rfl (lv_at hl 2 rfl) ?_
              refine va_get (D := D) (ci := 5) (v := .ref (ad 8)) (C := RX5) (T := TX5) (N := 9) hx hb hts iX5_makeImage_7_X5 hown hK hP 0 rfl rfl 6 (by decide) (hts _ qX5_makeImage_7_2) (fun _ h9 => h9) rfl dX5_makeImage_120 ?_
              refine zVR (As := []) (rest := [.int (nI md_106)]) ⟨hx, hb, hml, hown, hts⟩ (k_X1_imageLength l D cI (ad 8) (ad 9) ob) (cwV 0 hts gX5_makeImage_X1_imageLength rfl rfl rfl (by decide +kernel) ⟨Nat.le_of_ble_eq_true rfl, Nat.le_of_ble_eq_true rfl⟩) hP hK hN [8, 9] rfl (va_recv hK hP (ci := 1) (q0 := 8) rfl rfl) rfl hl.1 rfl (Nat.le_of_ble_eq_true rfl) dX5_makeImage_123 ⟨Nat.zero_le _, Nat.zero_le _⟩ ?_
              refine lv_icmp_ne (tgt := 161) hx hb dX5_makeImage_126 (by decide) (fun c_126 => ?_) (fun c_126 => ?_)
              · -- 126 t
                refine lv_iconst (v := 0) hx hb dX5_makeImage_161 (by decide) ?_
                exact hret 162 ls _ _ (0, im_106, md_106) 0 _ dX5_makeImage_162 rfl rfl rfl (by simp only [z_mk, z_mk2, ← hu_106, if_pos c_24, if_neg c_36, if_pos c_64, if_neg c_109, if_neg c_126]) hP hS
              · -- 126 f
                refine lv_iconst (v := 0) hx hb dX5_makeImage_129 (by decide) ?_
                refine lv_aload_n hx hb dX5_makeImage_130 rfl (lv_at hl 2 rfl) ?_
                refine va_get (D := D) (ci := 5) (v := .ref (ad 10)) (C := RX5) (T := TX5) (N := 9) hx hb hts iX5_makeImage_7_X5 hown hK hP 0 rfl rfl 7 (by decide) (hts _ qX5_makeImage_7_3) (fun _ h9 => h9) rfl dX5_makeImage_131 ?_
                refine va_getN (host := RX5) (D := D) (ci := 2) (v := .ref (ad 11)) (C := RX2) (T := TX2) (N := 2) hx hb hts iX5_makeImage_7_X2 hown hK hP 10 rfl rfl 0 (by decide) (zN_use hN 10 rfl) (fun _ h9 => h9) rfl dX5_makeImage_134 ?_
                refine lv_aload_n hx hb dX5_makeImage_137 rfl (lv_at hl 2 rfl) ?_
                refine va_get (D := D) (ci := 5) (v := .ref (ad 10)) (C := RX5) (T := TX5) (N := 9) hx hb hts iX5_makeImage_7_X5 hown hK hP 0 rfl rfl 7 (by decide) (hts _ qX5_makeImage_7_3) (fun _ h9 => h9) rfl dX5_makeImage_138 ?_
                refine va_getN (host := RX5) (D := D) (ci := 2) (v := .int (nI md_106)) (C := RX2) (T := TX2) (N := 2) hx hb hts iX5_makeImage_7_X2 hown hK hP 10 rfl rfl 1 (by decide) (zN_use hN 11 rfl) (fun _ h9 => h9) rfl dX5_makeImage_141 ?_
                refine zSR (As := [.int 0, .ref (ad 11), .int (nI md_106)]) (rest := []) ⟨hx, hb, hml, hown, hts⟩ (k_X5_digest l D cI (ad 11) im_106 192 0 (nI md_106) (by omega)) (va_cwS 3 hts gX5_makeImage_X5_digest rfl rfl rfl (by decide +kernel) ⟨Nat.le_of_ble_eq_true rfl, Nat.le_of_ble_eq_true rfl⟩) hP hK hN [11] rfl rfl hl.1 rfl (Nat.le_of_ble_eq_true rfl) dX5_makeImage_144 ⟨Nat.zero_le _, Nat.zero_le _⟩ ?_
                refine lv_aload_n hx hb dX5_makeImage_147 rfl (lv_at hl 2 rfl) ?_
                refine va_get (D := D) (ci := 5) (v := .ref (ad 8)) (C := RX5) (T := TX5) (N := 9) hx hb hts iX5_makeImage_7_X5 hown hK hP 0 rfl rfl 6 (by decide) (hts _ qX5_makeImage_7_2) (fun _ h9 => h9) rfl dX5_makeImage_148 ?_
                refine zVR (As := []) (rest := [.int (z_dig 0 im_106 192 (nI md_106))]) ⟨hx, hb, hml, hown, hts⟩ (k_X1_imageDigest l D cI (ad 8) (ad 9) ob) (cwV 0 hts gX5_makeImage_X1_imageDigest rfl rfl rfl (by decide +kernel) ⟨Nat.le_of_ble_eq_true rfl, Nat.le_of_ble_eq_true rfl⟩) hP hK hN [8, 9] rfl (va_recv hK hP (ci := 1) (q0 := 8) rfl rfl) rfl hl.1 rfl (Nat.le_of_ble_eq_true rfl) dX5_makeImage_151 ⟨Nat.zero_le _, Nat.zero_le _⟩ ?_
                refine lv_icmp_ne (tgt := 161) hx hb dX5_makeImage_154 (by decide) (fun c_154 => ?_) (fun c_154 => ?_)
                · -- 154 t
                  refine lv_iconst (v := 0) hx hb dX5_makeImage_161 (by decide) ?_
                  exact hret 162 ls _ _ (0, im_106, md_106) 0 _ dX5_makeImage_162 rfl rfl rfl (by simp only [z_mk, z_mk2, ← hu_106, if_pos c_24, if_neg c_36, if_pos c_64, if_neg c_109, if_pos c_126, if_neg c_154]) hP hS
                · -- 154 f
                  refine lv_iconst (v := 1) hx hb dX5_makeImage_157 (by decide) ?_
                  refine lv_goto (tgt := 162) hx hb dX5_makeImage_158 (by decide) ?_
                  exact hret 162 ls _ _ (1, im_106, md_106) 1 _ dX5_makeImage_162 rfl rfl rfl (by simp only [z_mk, z_mk2, ← hu_106, if_pos c_24, if_neg c_36, if_pos c_64, if_neg c_109, if_pos c_126, if_pos c_154]) hP hS
        · -- 64 f
          refine lv_iconst (v := 0) hx hb dX5_makeImage_67 (by decide) ?_
          exact hret 68 ls _ _ (0, im, md) 0 _ dX5_makeImage_68 rfl rfl rfl (by simp only [z_mk, z_mk2, if_pos c_24, if_neg c_36, if_neg c_64]) hP hS
  · -- 24 f
    refine lv_iconst (v := 0) hx hb dX5_makeImage_27 (by decide) ?_
    exact hret 28 ls _ _ (0, im, md) 0 _ dX5_makeImage_28 rfl rfl rfl (by simp only [z_mk, z_mk2, if_neg c_24]) hP hS
abbrev rm_X5_programUpdate_7 : Room := { frames := 4, cells := 0, slots := 0, locals := 90 }
set_option maxRecDepth 20000 in
theorem qX5_programUpdate_7_1 : (Cond.fieldLink RX5 12 "FlashBoot" "flash" "LFlashBoot$Flash;" : Cond) ∈ wsX5_programUpdate := List.mem_of_getElem? (i := 1) rfl
set_option maxRecDepth 20000 in
theorem iX5_programUpdate_7_X5 : ∀ w ∈ wsX50, w ∈ wsX5_programUpdate := by decide +kernel
set_option maxRecDepth 20000 in
theorem qX5_programUpdate_7_2 : (Cond.fieldLink RX5 45 "FlashBoot" "patch" "LFlashBoot$Patch;" : Cond) ∈ wsX5_programUpdate := List.mem_of_getElem? (i := 2) rfl
set_option maxRecDepth 20000 in
theorem iX5_programUpdate_7_X2 : ∀ w ∈ wsX20, w ∈ wsX5_programUpdate := by decide +kernel
set_option maxRecDepth 20000 in
theorem qX5_programUpdate_7_3 : (Cond.fieldLink RX5 38 "FlashBoot" "order" "LFlashBoot$Manifest;" : Cond) ∈ wsX5_programUpdate := List.mem_of_getElem? (i := 3) rfl
set_option maxHeartbeats 4000000 in
set_option maxRecDepth 100000 in
theorem k_X5_programUpdate_7 (l : Launch) (D : va_G) (cI : ClassId) (ad : Nat → Nat) (K : RW) (v : Int32) (f : RW) (p : Int32) (a : Int32) (st : Int32) (n : Int32) (k : Int32) (tb : RW) (tl : Nat) (ob : RW) (im : RW) (md : Nat) (rn : Int32)   : zMW (S := RW × Int32 × Int32 × Int32 × Int32 × Int32) l D cI yX5_programUpdate wsX5_programUpdate rm_X5_programUpdate_7 [.ref (ad 0), .ref (ad 7)] (cW cI ad K v f p a st n k tb tl ob im md rn) (z_upd 7 224 416 im md ob (f, p, a, st, n, k)) (fun _ => none) (fun u => cW cI ad K v u.1 u.2.1 u.2.2.1 u.2.2.2.1 u.2.2.2.2.1 u.2.2.2.2.2 tb tl ob im md rn) := by
  refine zEntW (cc := cX5_programUpdate) (maxL := 2) (ret := none) (own := RX5) (lvs := [(0, .ref (ad 0)), (1, .ref (ad 7))]) (by decide) rfl rfl (Nat.le_of_ble_eq_true rfl) rfl ?_
  intro p0 e s m args below meth c Q ls A hx hb hml hts hown hP hK hN hD hS hA hl hret hretV
  refine lv_aload_n hx hb dX5_programUpdate_0 rfl (lv_at hl 1 rfl) ?_
  refine lv_aload_n hx hb dX5_programUpdate_1 rfl (lv_at hl 0 rfl) ?_
  refine va_get (D := D) (ci := 5) (v := .ref (ad 2)) (C := RX5) (T := TX5) (N := 9) hx hb hts iX5_programUpdate_7_X5 hown hK hP 0 rfl rfl 2 (by decide) (hts _ qX5_programUpdate_7_1) (fun _ h9 => h9) rfl dX5_programUpdate_2 ?_
  refine zVW (ws' := fun u => cW cI ad K v u.1 u.2.1 u.2.2.1 u.2.2.2.1 u.2.2.2.2.1 u.2.2.2.2.2 tb tl ob im md rn) (As := [.ref (ad 2)]) (rest := []) ⟨hx, hb, hml, hown, hts⟩ (k_X3_eraseHeader l D cI (ad 7) (ad 2) (ad 3) 7 224 416 f p a st n k (by omega)) (cwV 1 hts gX5_programUpdate_X3_eraseHeader rfl rfl rfl (by decide +kernel) ⟨Nat.le_of_ble_eq_true rfl, Nat.le_of_ble_eq_true rfl⟩) hP hK hN hD hS hA [7, 2, 3] [0, 1, 4, 5, 6, 8, 9, 10, 11] [((ad 0), .inr (5, [.ref (ad 1), .int v, .ref (ad 2), .ref (ad 4), .ref (ad 6), .ref (ad 7), .ref (ad 8), .ref (ad 10), .int rn])), ((ad 1), .inl (cI, 8, .inl K)), ((ad 4), .inr (4, [.ref (ad 5), .int (nI tl)])), ((ad 5), .inl (cI, 192, .inl tb)), ((ad 6), .inr (3, [.int 0, .int 0, .int 192])), ((ad 8), .inr (1, [.ref (ad 9)])), ((ad 9), .inl (cI, 20, .inl ob)), ((ad 10), .inr (2, [.ref (ad 11), .int (nI md)])), ((ad 11), .inl (cI, 192, .inl im))] rfl (by decide) rfl (fun _ => rfl) (fun _ => rfl) (fun _ => rfl) rfl (va_recv hK hP (ci := 3) (q0 := 7) rfl rfl) rfl hl.1 rfl (Nat.le_of_ble_eq_true rfl) dX5_programUpdate_5 ⟨Nat.zero_le _, Nat.zero_le _⟩ (fun u_5 H locs hu_5 hP hD hS => ?_)
  obtain ⟨f_5, p_5, a_5, st_5, n_5, k_5⟩ := u_5
  have hP : va_P D vwCl (cW cI ad K v f_5 p_5 a_5 st_5 n_5 k_5 tb tl ob im md rn) _ := hP
  have hD : va_D A (cW cI ad K v f_5 p_5 a_5 st_5 n_5 k_5 tb tl ob im md rn) := hD
  refine W.eq (g2 := F0 m 8 ls []) rfl ?_
  refine lv_aload_n hx hb dX5_programUpdate_8 rfl (lv_at hl 1 rfl) ?_
  refine lv_aload_n hx hb dX5_programUpdate_9 rfl (lv_at hl 0 rfl) ?_
  refine va_get (D := D) (ci := 5) (v := .ref (ad 2)) (C := RX5) (T := TX5) (N := 9) hx hb hts iX5_programUpdate_7_X5 hown hK hP 0 rfl rfl 2 (by decide) (hts _ qX5_programUpdate_7_1) (fun _ h9 => h9) rfl dX5_programUpdate_10 ?_
  refine zVW (ws' := fun u => cW cI ad K v u.1 u.2.1 u.2.2.1 u.2.2.2.1 u.2.2.2.2.1 u.2.2.2.2.2 tb tl ob im md rn) (As := [.ref (ad 2)]) (rest := []) ⟨hx, hb, hml, hown, hts⟩ (k_X3_eraseImage l D cI (ad 7) (ad 2) (ad 3) 7 224 416 f_5 p_5 a_5 st_5 n_5 k_5 (by omega)) (cwV 1 hts gX5_programUpdate_X3_eraseImage rfl rfl rfl (by decide +kernel) ⟨Nat.le_of_ble_eq_true rfl, Nat.le_of_ble_eq_true rfl⟩) hP hK hN hD hS hA [7, 2, 3] [0, 1, 4, 5, 6, 8, 9, 10, 11] [((ad 0), .inr (5, [.ref (ad 1), .int v, .ref (ad 2), .ref (ad 4), .ref (ad 6), .ref (ad 7), .ref (ad 8), .ref (ad 10), .int rn])), ((ad 1), .inl (cI, 8, .inl K)), ((ad 4), .inr (4, [.ref (ad 5), .int (nI tl)])), ((ad 5), .inl (cI, 192, .inl tb)), ((ad 6), .inr (3, [.int 0, .int 0, .int 192])), ((ad 8), .inr (1, [.ref (ad 9)])), ((ad 9), .inl (cI, 20, .inl ob)), ((ad 10), .inr (2, [.ref (ad 11), .int (nI md)])), ((ad 11), .inl (cI, 192, .inl im))] rfl (by decide) rfl (fun _ => rfl) (fun _ => rfl) (fun _ => rfl) rfl (va_recv hK hP (ci := 3) (q0 := 7) rfl rfl) rfl hl.1 rfl (Nat.le_of_ble_eq_true rfl) dX5_programUpdate_13 ⟨Nat.zero_le _, Nat.zero_le _⟩ (fun u_13 H locs hu_13 hP hD hS => ?_)
  obtain ⟨f_13, p_13, a_13, st_13, n_13, k_13⟩ := u_13
  have hP : va_P D vwCl (cW cI ad K v f_13 p_13 a_13 st_13 n_13 k_13 tb tl ob im md rn) _ := hP
  have hD : va_D A (cW cI ad K v f_13 p_13 a_13 st_13 n_13 k_13 tb tl ob im md rn) := hD
  refine W.eq (g2 := F0 m 16 ls []) rfl ?_
  refine lv_aload_n hx hb dX5_programUpdate_16 rfl (lv_at hl 1 rfl) ?_
  refine lv_aload_n hx hb dX5_programUpdate_17 rfl (lv_at hl 0 rfl) ?_
  refine va_get (D := D) (ci := 5) (v := .ref (ad 2)) (C := RX5) (T := TX5) (N := 9) hx hb hts iX5_programUpdate_7_X5 hown hK hP 0 rfl rfl 2 (by decide) (hts _ qX5_programUpdate_7_1) (fun _ h9 => h9) rfl dX5_programUpdate_18 ?_
  refine lv_aload_n hx hb dX5_programUpdate_21 rfl (lv_at hl 0 rfl) ?_
  refine va_get (D := D) (ci := 5) (v := .ref (ad 10)) (C := RX5) (T := TX5) (N := 9) hx hb hts iX5_programUpdate_7_X5 hown hK hP 0 rfl rfl 7 (by decide) (hts _ qX5_programUpdate_7_2) (fun _ h9 => h9) rfl dX5_programUpdate_22 ?_
  refine va_getN (host := RX5) (D := D) (ci := 2) (v := .ref (ad 11)) (C := RX2) (T := TX2) (N := 2) hx hb hts iX5_programUpdate_7_X2 hown hK hP 10 rfl rfl 0 (by decide) (zN_use hN 10 rfl) (fun _ h9 => h9) rfl dX5_programUpdate_25 ?_
  refine lv_aload_n hx hb dX5_programUpdate_28 rfl (lv_at hl 0 rfl) ?_
  refine va_get (D := D) (ci := 5) (v := .ref (ad 10)) (C := RX5) (T := TX5) (N := 9) hx hb hts iX5_programUpdate_7_X5 hown hK hP 0 rfl rfl 7 (by decide) (hts _ qX5_programUpdate_7_2) (fun _ h9 => h9) rfl dX5_programUpdate_29 ?_
  refine va_getN (host := RX5) (D := D) (ci := 2) (v := .int (nI md)) (C := RX2) (T := TX2) (N := 2) hx hb hts iX5_programUpdate_7_X2 hown hK hP 10 rfl rfl 1 (by decide) (zN_use hN 11 rfl) (fun _ h9 => h9) rfl dX5_programUpdate_32 ?_
  refine zVW (ws' := fun u => cW cI ad K v u.1 u.2.1 u.2.2.1 u.2.2.2.1 u.2.2.2.2.1 u.2.2.2.2.2 tb tl ob im md rn) (As := [.ref (ad 2), .ref (ad 11), .int (nI md)]) (rest := []) ⟨hx, hb, hml, hown, hts⟩ (k_X3_programImage l D cI (ad 7) (ad 2) (ad 3) (ad 11) 7 224 416 f_13 p_13 a_13 st_13 n_13 k_13 im 192 (nI md) (by omega)) (cwV 3 hts gX5_programUpdate_X3_programImage rfl rfl rfl (by decide +kernel) ⟨Nat.le_of_ble_eq_true rfl, Nat.le_of_ble_eq_true rfl⟩) hP hK hN hD hS hA [7, 2, 3, 11] [0, 1, 4, 5, 6, 8, 9, 10] [((ad 0), .inr (5, [.ref (ad 1), .int v, .ref (ad 2), .ref (ad 4), .ref (ad 6), .ref (ad 7), .ref (ad 8), .ref (ad 10), .int rn])), ((ad 1), .inl (cI, 8, .inl K)), ((ad 4), .inr (4, [.ref (ad 5), .int (nI tl)])), ((ad 5), .inl (cI, 192, .inl tb)), ((ad 6), .inr (3, [.int 0, .int 0, .int 192])), ((ad 8), .inr (1, [.ref (ad 9)])), ((ad 9), .inl (cI, 20, .inl ob)), ((ad 10), .inr (2, [.ref (ad 11), .int (nI md)]))] rfl (by decide) rfl (fun _ => rfl) (fun _ => rfl) (fun _ => rfl) rfl (va_recv hK hP (ci := 3) (q0 := 7) rfl rfl) rfl hl.1 rfl (Nat.le_of_ble_eq_true rfl) dX5_programUpdate_35 ⟨Nat.zero_le _, Nat.zero_le _⟩ (fun u_35 H locs hu_35 hP hD hS => ?_)
  obtain ⟨f_35, p_35, a_35, st_35, n_35, k_35⟩ := u_35
  have hP : va_P D vwCl (cW cI ad K v f_35 p_35 a_35 st_35 n_35 k_35 tb tl ob im md rn) _ := hP
  have hD : va_D A (cW cI ad K v f_35 p_35 a_35 st_35 n_35 k_35 tb tl ob im md rn) := hD
  refine W.eq (g2 := F0 m 38 ls []) rfl ?_
  refine lv_aload_n hx hb dX5_programUpdate_38 rfl (lv_at hl 1 rfl) ?_
  refine lv_aload_n hx hb dX5_programUpdate_39 rfl (lv_at hl 0 rfl) ?_
  refine va_get (D := D) (ci := 5) (v := .ref (ad 2)) (C := RX5) (T := TX5) (N := 9) hx hb hts iX5_programUpdate_7_X5 hown hK hP 0 rfl rfl 2 (by decide) (hts _ qX5_programUpdate_7_1) (fun _ h9 => h9) rfl dX5_programUpdate_40 ?_
  refine lv_aload_n hx hb dX5_programUpdate_43 rfl (lv_at hl 0 rfl) ?_
  refine va_get (D := D) (ci := 5) (v := .ref (ad 8)) (C := RX5) (T := TX5) (N := 9) hx hb hts iX5_programUpdate_7_X5 hown hK hP 0 rfl rfl 6 (by decide) (hts _ qX5_programUpdate_7_3) (fun _ h9 => h9) rfl dX5_programUpdate_44 ?_
  refine zVR (As := []) (rest := [.ref (ad 2), .ref (ad 7)]) ⟨hx, hb, hml, hown, hts⟩ (k_X1_imageLength l D cI (ad 8) (ad 9) ob) (cwV 0 hts gX5_programUpdate_X1_imageLength rfl rfl rfl (by decide +kernel) ⟨Nat.le_of_ble_eq_true rfl, Nat.le_of_ble_eq_true rfl⟩) hP hK hN [8, 9] rfl (va_recv hK hP (ci := 1) (q0 := 8) rfl rfl) rfl hl.1 rfl (Nat.le_of_ble_eq_true rfl) dX5_programUpdate_47 ⟨Nat.zero_le _, Nat.zero_le _⟩ ?_
  refine lv_aload_n hx hb dX5_programUpdate_50 rfl (lv_at hl 0 rfl) ?_
  refine va_get (D := D) (ci := 5) (v := .ref (ad 8)) (C := RX5) (T := TX5) (N := 9) hx hb hts iX5_programUpdate_7_X5 hown hK hP 0 rfl rfl 6 (by decide) (hts _ qX5_programUpdate_7_3) (fun _ h9 => h9) rfl dX5_programUpdate_51 ?_
  refine zVR (As := []) (rest := [.int (ob 11), .ref (ad 2), .ref (ad 7)]) ⟨hx, hb, hml, hown, hts⟩ (k_X1_sequence l D cI (ad 8) (ad 9) ob) (cwV 0 hts gX5_programUpdate_X1_sequence rfl rfl rfl (by decide +kernel) ⟨Nat.le_of_ble_eq_true rfl, Nat.le_of_ble_eq_true rfl⟩) hP hK hN [8, 9] rfl (va_recv hK hP (ci := 1) (q0 := 8) rfl rfl) rfl hl.1 rfl (Nat.le_of_ble_eq_true rfl) dX5_programUpdate_54 ⟨Nat.zero_le _, Nat.zero_le _⟩ ?_
  refine lv_aload_n hx hb dX5_programUpdate_57 rfl (lv_at hl 0 rfl) ?_
  refine va_get (D := D) (ci := 5) (v := .ref (ad 8)) (C := RX5) (T := TX5) (N := 9) hx hb hts iX5_programUpdate_7_X5 hown hK hP 0 rfl rfl 6 (by decide) (hts _ qX5_programUpdate_7_3) (fun _ h9 => h9) rfl dX5_programUpdate_58 ?_
  refine zVR (As := []) (rest := [.int (ob 1), .int (ob 11), .ref (ad 2), .ref (ad 7)]) ⟨hx, hb, hml, hown, hts⟩ (k_X1_imageDigest l D cI (ad 8) (ad 9) ob) (cwV 0 hts gX5_programUpdate_X1_imageDigest rfl rfl rfl (by decide +kernel) ⟨Nat.le_of_ble_eq_true rfl, Nat.le_of_ble_eq_true rfl⟩) hP hK hN [8, 9] rfl (va_recv hK hP (ci := 1) (q0 := 8) rfl rfl) rfl hl.1 rfl (Nat.le_of_ble_eq_true rfl) dX5_programUpdate_61 ⟨Nat.zero_le _, Nat.zero_le _⟩ ?_
  refine zVW (ws' := fun u => cW cI ad K v u.1 u.2.1 u.2.2.1 u.2.2.2.1 u.2.2.2.2.1 u.2.2.2.2.2 tb tl ob im md rn) (As := [.ref (ad 2), .int (ob 11), .int (ob 1), .int (z_mword ob 12)]) (rest := []) ⟨hx, hb, hml, hown, hts⟩ (k_X3_programName l D cI (ad 7) (ad 2) (ad 3) 7 224 416 f_35 p_35 a_35 st_35 n_35 k_35 (ob 11) (ob 1) (z_mword ob 12)) (cwV 4 hts gX5_programUpdate_X3_programName rfl rfl rfl (by decide +kernel) ⟨Nat.le_of_ble_eq_true rfl, Nat.le_of_ble_eq_true rfl⟩) hP hK hN hD hS hA [7, 2, 3] [0, 1, 4, 5, 6, 8, 9, 10, 11] [((ad 0), .inr (5, [.ref (ad 1), .int v, .ref (ad 2), .ref (ad 4), .ref (ad 6), .ref (ad 7), .ref (ad 8), .ref (ad 10), .int rn])), ((ad 1), .inl (cI, 8, .inl K)), ((ad 4), .inr (4, [.ref (ad 5), .int (nI tl)])), ((ad 5), .inl (cI, 192, .inl tb)), ((ad 6), .inr (3, [.int 0, .int 0, .int 192])), ((ad 8), .inr (1, [.ref (ad 9)])), ((ad 9), .inl (cI, 20, .inl ob)), ((ad 10), .inr (2, [.ref (ad 11), .int (nI md)])), ((ad 11), .inl (cI, 192, .inl im))] rfl (by decide) rfl (fun _ => rfl) (fun _ => rfl) (fun _ => rfl) rfl (va_recv hK hP (ci := 3) (q0 := 7) rfl rfl) rfl hl.1 rfl (Nat.le_of_ble_eq_true rfl) dX5_programUpdate_64 ⟨Nat.zero_le _, Nat.zero_le _⟩ (fun u_64 H locs hu_64 hP hD hS => ?_)
  obtain ⟨f_64, p_64, a_64, st_64, n_64, k_64⟩ := u_64
  have hP : va_P D vwCl (cW cI ad K v f_64 p_64 a_64 st_64 n_64 k_64 tb tl ob im md rn) _ := hP
  have hD : va_D A (cW cI ad K v f_64 p_64 a_64 st_64 n_64 k_64 tb tl ob im md rn) := hD
  refine W.eq (g2 := F0 m 67 ls []) rfl ?_
  refine lv_aload_n hx hb dX5_programUpdate_67 rfl (lv_at hl 1 rfl) ?_
  refine lv_aload_n hx hb dX5_programUpdate_68 rfl (lv_at hl 0 rfl) ?_
  refine va_get (D := D) (ci := 5) (v := .ref (ad 2)) (C := RX5) (T := TX5) (N := 9) hx hb hts iX5_programUpdate_7_X5 hown hK hP 0 rfl rfl 2 (by decide) (hts _ qX5_programUpdate_7_1) (fun _ h9 => h9) rfl dX5_programUpdate_69 ?_
  refine zVW (ws' := fun u => cW cI ad K v u.1 u.2.1 u.2.2.1 u.2.2.2.1 u.2.2.2.2.1 u.2.2.2.2.2 tb tl ob im md rn) (As := [.ref (ad 2)]) (rest := []) ⟨hx, hb, hml, hown, hts⟩ (k_X3_programTrials l D cI (ad 7) (ad 2) (ad 3) 7 224 416 f_64 p_64 a_64 st_64 n_64 k_64) (cwV 1 hts gX5_programUpdate_X3_programTrials rfl rfl rfl (by decide +kernel) ⟨Nat.le_of_ble_eq_true rfl, Nat.le_of_ble_eq_true rfl⟩) hP hK hN hD hS hA [7, 2, 3] [0, 1, 4, 5, 6, 8, 9, 10, 11] [((ad 0), .inr (5, [.ref (ad 1), .int v, .ref (ad 2), .ref (ad 4), .ref (ad 6), .ref (ad 7), .ref (ad 8), .ref (ad 10), .int rn])), ((ad 1), .inl (cI, 8, .inl K)), ((ad 4), .inr (4, [.ref (ad 5), .int (nI tl)])), ((ad 5), .inl (cI, 192, .inl tb)), ((ad 6), .inr (3, [.int 0, .int 0, .int 192])), ((ad 8), .inr (1, [.ref (ad 9)])), ((ad 9), .inl (cI, 20, .inl ob)), ((ad 10), .inr (2, [.ref (ad 11), .int (nI md)])), ((ad 11), .inl (cI, 192, .inl im))] rfl (by decide) rfl (fun _ => rfl) (fun _ => rfl) (fun _ => rfl) rfl (va_recv hK hP (ci := 3) (q0 := 7) rfl rfl) rfl hl.1 rfl (Nat.le_of_ble_eq_true rfl) dX5_programUpdate_72 ⟨Nat.zero_le _, Nat.zero_le _⟩ (fun u_72 H locs hu_72 hP hD hS => ?_)
  obtain ⟨f_72, p_72, a_72, st_72, n_72, k_72⟩ := u_72
  have hP : va_P D vwCl (cW cI ad K v f_72 p_72 a_72 st_72 n_72 k_72 tb tl ob im md rn) _ := hP
  have hD : va_D A (cW cI ad K v f_72 p_72 a_72 st_72 n_72 k_72 tb tl ob im md rn) := hD
  refine W.eq (g2 := F0 m 75 ls []) rfl ?_
  refine lv_aload_n hx hb dX5_programUpdate_75 rfl (lv_at hl 1 rfl) ?_
  refine lv_aload_n hx hb dX5_programUpdate_76 rfl (lv_at hl 0 rfl) ?_
  refine va_get (D := D) (ci := 5) (v := .ref (ad 2)) (C := RX5) (T := TX5) (N := 9) hx hb hts iX5_programUpdate_7_X5 hown hK hP 0 rfl rfl 2 (by decide) (hts _ qX5_programUpdate_7_1) (fun _ h9 => h9) rfl dX5_programUpdate_77 ?_
  refine zVW (ws' := fun u => cW cI ad K v u.1 u.2.1 u.2.2.1 u.2.2.2.1 u.2.2.2.2.1 u.2.2.2.2.2 tb tl ob im md rn) (As := [.ref (ad 2)]) (rest := []) ⟨hx, hb, hml, hown, hts⟩ (k_X3_programWhole l D cI (ad 7) (ad 2) (ad 3) 7 224 416 f_72 p_72 a_72 st_72 n_72 k_72) (cwV 1 hts gX5_programUpdate_X3_programWhole rfl rfl rfl (by decide +kernel) ⟨Nat.le_of_ble_eq_true rfl, Nat.le_of_ble_eq_true rfl⟩) hP hK hN hD hS hA [7, 2, 3] [0, 1, 4, 5, 6, 8, 9, 10, 11] [((ad 0), .inr (5, [.ref (ad 1), .int v, .ref (ad 2), .ref (ad 4), .ref (ad 6), .ref (ad 7), .ref (ad 8), .ref (ad 10), .int rn])), ((ad 1), .inl (cI, 8, .inl K)), ((ad 4), .inr (4, [.ref (ad 5), .int (nI tl)])), ((ad 5), .inl (cI, 192, .inl tb)), ((ad 6), .inr (3, [.int 0, .int 0, .int 192])), ((ad 8), .inr (1, [.ref (ad 9)])), ((ad 9), .inl (cI, 20, .inl ob)), ((ad 10), .inr (2, [.ref (ad 11), .int (nI md)])), ((ad 11), .inl (cI, 192, .inl im))] rfl (by decide) rfl (fun _ => rfl) (fun _ => rfl) (fun _ => rfl) rfl (va_recv hK hP (ci := 3) (q0 := 7) rfl rfl) rfl hl.1 rfl (Nat.le_of_ble_eq_true rfl) dX5_programUpdate_80 ⟨Nat.zero_le _, Nat.zero_le _⟩ (fun u_80 H locs hu_80 hP hD hS => ?_)
  obtain ⟨f_80, p_80, a_80, st_80, n_80, k_80⟩ := u_80
  have hP : va_P D vwCl (cW cI ad K v f_80 p_80 a_80 st_80 n_80 k_80 tb tl ob im md rn) _ := hP
  have hD : va_D A (cW cI ad K v f_80 p_80 a_80 st_80 n_80 k_80 tb tl ob im md rn) := hD
  refine W.eq (g2 := F0 m 83 ls []) rfl ?_
  refine lv_aload_n hx hb dX5_programUpdate_83 rfl (lv_at hl 0 rfl) ?_
  refine va_get (D := D) (ci := 5) (v := .ref (ad 2)) (C := RX5) (T := TX5) (N := 9) hx hb hts iX5_programUpdate_7_X5 hown hK hP 0 rfl rfl 2 (by decide) (hts _ qX5_programUpdate_7_1) (fun _ h9 => h9) rfl dX5_programUpdate_84 ?_
  refine lv_bipush (v := 20) hx hb dX5_programUpdate_87 (by decide) ?_
  refine zVW (ws' := fun u => cW cI ad K v u.1 u.2.1 u.2.2.1 u.2.2.2.1 u.2.2.2.2.1 u.2.2.2.2.2 tb tl ob im md rn) (As := [.int 20]) (rest := []) ⟨hx, hb, hml, hown, hts⟩ (k_X0_erase l D cI (ad 2) (ad 3) f_80 p_80 a_80 st_80 n_80 k_80 20 (by omega)) (cwV 1 hts gX5_programUpdate_X0_erase rfl rfl rfl (by decide +kernel) ⟨Nat.le_of_ble_eq_true rfl, Nat.le_of_ble_eq_true rfl⟩) hP hK hN hD hS hA [2, 3] [0, 1, 4, 5, 6, 7, 8, 9, 10, 11] [((ad 0), .inr (5, [.ref (ad 1), .int v, .ref (ad 2), .ref (ad 4), .ref (ad 6), .ref (ad 7), .ref (ad 8), .ref (ad 10), .int rn])), ((ad 1), .inl (cI, 8, .inl K)), ((ad 4), .inr (4, [.ref (ad 5), .int (nI tl)])), ((ad 5), .inl (cI, 192, .inl tb)), ((ad 6), .inr (3, [.int 0, .int 0, .int 192])), ((ad 7), .inr (3, [.int 7, .int 224, .int 416])), ((ad 8), .inr (1, [.ref (ad 9)])), ((ad 9), .inl (cI, 20, .inl ob)), ((ad 10), .inr (2, [.ref (ad 11), .int (nI md)])), ((ad 11), .inl (cI, 192, .inl im))] rfl (by decide) rfl (fun _ => rfl) (fun _ => rfl) (fun _ => rfl) rfl (va_recv hK hP (ci := 0) (q0 := 2) rfl rfl) rfl hl.1 rfl (Nat.le_of_ble_eq_true rfl) dX5_programUpdate_89 ⟨Nat.zero_le _, Nat.zero_le _⟩ (fun u_89 H locs hu_89 hP hD hS => ?_)
  obtain ⟨f_89, p_89, a_89, st_89, n_89, k_89⟩ := u_89
  have hP : va_P D vwCl (cW cI ad K v f_89 p_89 a_89 st_89 n_89 k_89 tb tl ob im md rn) _ := hP
  have hD : va_D A (cW cI ad K v f_89 p_89 a_89 st_89 n_89 k_89 tb tl ob im md rn) := hD
  refine W.eq (g2 := F0 m 92 ls []) rfl ?_
  exact hretV 92 ls _ _ (f_89, p_89, a_89, st_89, n_89, k_89) dX5_programUpdate_92 rfl rfl (by simp only [z_upd, ← hu_5, ← hu_13, ← hu_35, ← hu_64, ← hu_72, ← hu_80, ← hu_89]) hP hS
abbrev rm_X5_clearCounterBit : Room := { frames := 3, cells := 0, slots := 0, locals := 65 }
set_option maxRecDepth 20000 in
theorem qX5_clearCounterBit_1 : (Cond.fieldLink RX5 12 "FlashBoot" "flash" "LFlashBoot$Flash;" : Cond) ∈ wsX5_clearCounterBit := List.mem_of_getElem? (i := 1) rfl
set_option maxRecDepth 20000 in
theorem iX5_clearCounterBit_X5 : ∀ w ∈ wsX50, w ∈ wsX5_clearCounterBit := by decide +kernel
set_option maxHeartbeats 4000000 in
set_option maxRecDepth 100000 in
theorem k_X5_clearCounterBit (l : Launch) (D : va_G) (cI : ClassId) (ad : Nat → Nat) (K : RW) (v : Int32) (f : RW) (p : Int32) (a : Int32) (st : Int32) (n : Int32) (k : Int32) (tb : RW) (tl : Nat) (ob : RW) (im : RW) (md : Nat) (rn : Int32)   : zMW (S := RW × Int32 × Int32 × Int32 × Int32 × Int32) l D cI yX5_clearCounterBit wsX5_clearCounterBit rm_X5_clearCounterBit [.ref (ad 0)] (cW cI ad K v f p a st n k tb tl ob im md rn) (z_clr (f, p, a, st, n, k)) (fun _ => none) (fun u => cW cI ad K v u.1 u.2.1 u.2.2.1 u.2.2.2.1 u.2.2.2.2.1 u.2.2.2.2.2 tb tl ob im md rn) := by
  refine zEntW (cc := cX5_clearCounterBit) (maxL := 2) (ret := none) (own := RX5) (lvs := [(0, .ref (ad 0))]) (by decide) rfl rfl (Nat.le_of_ble_eq_true rfl) rfl ?_
  intro p0 e s m args below meth c Q ls A hx hb hml hts hown hP hK hN hD hS hA hl hret hretV
  refine lv_sipush (v := 704) hx hb dX5_clearCounterBit_0 (by decide) ?_
  refine lv_istore_n (lv' := [(1, .int 704), (0, .ref (ad 0))]) hx hb dX5_clearCounterBit_3 rfl hl (by decide) rfl (fun ls hl => ?_)
  have lp_4 : ∀ (g_4 : Nat) (d : Nat) (i : Nat) (H : Heap) (locs : List Loc) (ls : Array Slot), i + d = 736 → z_clrN d i (f, p, a, st, n, k) = z_clrN 32 704 (f, p, a, st, n, k) → d < g_4 → va_P D vwCl (cW cI ad K v f p a st n k tb tl ob im md rn) H → va_D A (cW cI ad K v f p a st n k tb tl ob im md rn) → va_S A s.heap H locs → lv_has ls 2 [(0, .ref (ad 0)), (1, .int (nI i))] → W p0 l e rm_X5_clearCounterBit s m args below meth c H locs 0 0 Q (F0 m 4 ls []) := by
    intro g_4
    induction g_4 with
    | zero => intro d i H locs ls h1 hy h9_4; exact absurd h9_4 (Nat.not_lt_zero _)
    | succ g_4 ih_4 =>
      intro d i H locs ls h1 hy h9_4 hP hD hS hl
      refine lv_iload_n hx hb dX5_clearCounterBit_4 rfl (lv_at hl 1 rfl) ?_
      refine lv_sipush (v := 736) hx hb dX5_clearCounterBit_5 (by decide) ?_
      refine z_icmp_ge (tgt := 37) hx hb dX5_clearCounterBit_8 (by decide) i 736 rfl rfl (by omega) (by omega) (fun c_8 => ?_) (fun c_8 => ?_)
      · -- 8 t
        obtain rfl : d = 0 := by omega
        exact hretV 37 ls _ _ (f, p, a, st, n, k) dX5_clearCounterBit_37 rfl rfl (hy) hP hS
      · -- 8 f
        obtain ⟨d, rfl⟩ : ∃ d1, d = d1 + 1 := ⟨d - 1, by omega⟩
        refine lv_aload_n hx hb dX5_clearCounterBit_11 rfl (lv_at hl 0 rfl) ?_
        refine va_get (D := D) (ci := 5) (v := .ref (ad 2)) (C := RX5) (T := TX5) (N := 9) hx hb hts iX5_clearCounterBit_X5 hown hK hP 0 rfl rfl 2 (by decide) (hts _ qX5_clearCounterBit_1) (fun _ h9 => h9) rfl dX5_clearCounterBit_12 ?_
        refine lv_iload_n hx hb dX5_clearCounterBit_15 rfl (lv_at hl 1 rfl) ?_
        refine zVR (As := [.int (nI i)]) (rest := []) ⟨hx, hb, hml, hown, hts⟩ (k_X0_at l D cI (ad 2) (ad 3) f p a st n k (nI i)) (cwV 1 hts gX5_clearCounterBit_X0_at rfl rfl rfl (by decide +kernel) ⟨Nat.le_of_ble_eq_true rfl, Nat.le_of_ble_eq_true rfl⟩) hP hK hN [2, 3] rfl (va_recv hK hP (ci := 0) (q0 := 2) rfl rfl) rfl hl.1 rfl (Nat.le_of_ble_eq_true rfl) dX5_clearCounterBit_16 ⟨Nat.zero_le _, Nat.zero_le _⟩ ?_
        refine lv_if_eq (tgt := 31) hx hb dX5_clearCounterBit_19 (by decide) (fun c_19 => ?_) (fun c_19 => ?_)
        · -- 19 t
          refine lv_iinc (v := (nI (i + 1))) (lv' := [(1, .int (nI (i + 1))), (0, .ref (ad 0))]) hx hb dX5_clearCounterBit_31 hl (k := 1) rfl (z_inc _ _ rfl) (by decide) rfl (fun ls hl => ?_)
          refine lv_goto (tgt := 4) hx hb dX5_clearCounterBit_34 (by decide) ?_
          exact ih_4 d (i + 1) _ _ _ (by omega) (by rw [← hy, z_clrN, if_pos c_19]) (by omega) hP hD hS (lv_sub hl [1, 0] rfl)
        · -- 19 f
          refine lv_aload_n hx hb dX5_clearCounterBit_22 rfl (lv_at hl 0 rfl) ?_
          refine va_get (D := D) (ci := 5) (v := .ref (ad 2)) (C := RX5) (T := TX5) (N := 9) hx hb hts iX5_clearCounterBit_X5 hown hK hP 0 rfl rfl 2 (by decide) (hts _ qX5_clearCounterBit_1) (fun _ h9 => h9) rfl dX5_clearCounterBit_23 ?_
          refine lv_iload_n hx hb dX5_clearCounterBit_26 rfl (lv_at hl 1 rfl) ?_
          refine zVW (ws' := fun u => cW cI ad K v u.1 u.2.1 u.2.2.1 u.2.2.2.1 u.2.2.2.2.1 u.2.2.2.2.2 tb tl ob im md rn) (As := [.int (nI i)]) (rest := []) ⟨hx, hb, hml, hown, hts⟩ (k_X0_programLowestBit l D cI (ad 2) (ad 3) f p a st n k (nI i)) (cwV 1 hts gX5_clearCounterBit_X0_programLowestBit rfl rfl rfl (by decide +kernel) ⟨Nat.le_of_ble_eq_true rfl, Nat.le_of_ble_eq_true rfl⟩) hP hK hN hD hS hA [2, 3] [0, 1, 4, 5, 6, 7, 8, 9, 10, 11] [((ad 0), .inr (5, [.ref (ad 1), .int v, .ref (ad 2), .ref (ad 4), .ref (ad 6), .ref (ad 7), .ref (ad 8), .ref (ad 10), .int rn])), ((ad 1), .inl (cI, 8, .inl K)), ((ad 4), .inr (4, [.ref (ad 5), .int (nI tl)])), ((ad 5), .inl (cI, 192, .inl tb)), ((ad 6), .inr (3, [.int 0, .int 0, .int 192])), ((ad 7), .inr (3, [.int 7, .int 224, .int 416])), ((ad 8), .inr (1, [.ref (ad 9)])), ((ad 9), .inl (cI, 20, .inl ob)), ((ad 10), .inr (2, [.ref (ad 11), .int (nI md)])), ((ad 11), .inl (cI, 192, .inl im))] rfl (by decide) rfl (fun _ => rfl) (fun _ => rfl) (fun _ => rfl) rfl (va_recv hK hP (ci := 0) (q0 := 2) rfl rfl) rfl hl.1 rfl (Nat.le_of_ble_eq_true rfl) dX5_clearCounterBit_27 ⟨Nat.zero_le _, Nat.zero_le _⟩ (fun u_27 H locs hu_27 hP hD hS => ?_)
          obtain ⟨f_27, p_27, a_27, st_27, n_27, k_27⟩ := u_27
          have hP : va_P D vwCl (cW cI ad K v f_27 p_27 a_27 st_27 n_27 k_27 tb tl ob im md rn) _ := hP
          have hD : va_D A (cW cI ad K v f_27 p_27 a_27 st_27 n_27 k_27 tb tl ob im md rn) := hD
          refine W.eq (g2 := F0 m 30 ls []) rfl ?_
          exact hretV 30 ls _ _ (f_27, p_27, a_27, st_27, n_27, k_27) dX5_clearCounterBit_30 rfl rfl (by rw [z_clr, ← hy, z_clrN, if_neg c_19]; exact hu_27) hP hS
  exact lp_4 _ 32 704 _ _ _ (by omega) rfl (Nat.lt_succ_self _) hP hD hS (lv_sub hl [1, 0] rfl)
abbrev rm_X5_raiseCounter : Room := { frames := 4, cells := 0, slots := 0, locals := 86 }
set_option maxHeartbeats 4000000 in
set_option maxRecDepth 100000 in
theorem k_X5_raiseCounter (l : Launch) (D : va_G) (cI : ClassId) (ad : Nat → Nat) (K : RW) (v : Int32) (f : RW) (p : Int32) (a : Int32) (st : Int32) (n : Int32) (k : Int32) (tb : RW) (tl : Nat) (ob : RW) (im : RW) (md : Nat) (rn : Int32) (x : Int32)  : zMW (S := RW × Int32 × Int32 × Int32 × Int32 × Int32) l D cI yX5_raiseCounter wsX5_raiseCounter rm_X5_raiseCounter [.ref (ad 0), .int x] (cW cI ad K v f p a st n k tb tl ob im md rn) (z_raise x (f, p, a, st, n, k)) (fun _ => none) (fun u => cW cI ad K v u.1 u.2.1 u.2.2.1 u.2.2.2.1 u.2.2.2.2.1 u.2.2.2.2.2 tb tl ob im md rn) := by
  refine zEntW (cc := cX5_raiseCounter) (maxL := 3) (ret := none) (own := RX5) (lvs := [(0, .ref (ad 0)), (1, .int x)]) (by decide) rfl rfl (Nat.le_of_ble_eq_true rfl) rfl ?_
  intro p0 e s m args below meth c Q ls A hx hb hml hts hown hP hK hN hD hS hA hl hret hretV
  refine lv_aload_n hx hb dX5_raiseCounter_0 rfl (lv_at hl 0 rfl) ?_
  refine zVR (As := []) (rest := []) ⟨hx, hb, hml, hown, hts⟩ (k_X5_counter l D cI ad K v f p a st n k tb tl ob im md rn) (cwV 0 hts gX5_raiseCounter_X5_counter rfl rfl rfl (by decide +kernel) ⟨Nat.le_of_ble_eq_true rfl, Nat.le_of_ble_eq_true rfl⟩) hP hK hN [0, 1, 2, 3, 4, 5, 6, 7, 8, 9, 10, 11] rfl (va_recv hK hP (ci := 5) (q0 := 0) rfl rfl) rfl hl.1 rfl (Nat.le_of_ble_eq_true rfl) dX5_raiseCounter_1 ⟨Nat.zero_le _, Nat.zero_le _⟩ ?_
  refine lv_istore_n (lv' := [(2, .int (z_cntr f)), (0, .ref (ad 0)), (1, .int x)]) hx hb dX5_raiseCounter_4 rfl hl (by decide) rfl (fun ls hl => ?_)
  have lp_5 : ∀ (g_5 : Nat) (d : Nat) (c9 : Int32) (f9 : RW) (p9 : Int32) (a9 : Int32) (s9 : Int32) (n9 : Int32) (k9 : Int32) (H : Heap) (locs : List Loc) (ls : Array Slot), z_dist x c9 = d → z_raiseN d (f9, p9, a9, s9, n9, k9) = z_raise x (f, p, a, st, n, k) → d < g_5 → va_P D vwCl (cW cI ad K v f9 p9 a9 s9 n9 k9 tb tl ob im md rn) H → va_D A (cW cI ad K v f9 p9 a9 s9 n9 k9 tb tl ob im md rn) → va_S A s.heap H locs → lv_has ls 3 [(0, .ref (ad 0)), (1, .int x), (2, .int c9)] → W p0 l e rm_X5_raiseCounter s m args below meth c H locs 0 0 Q (F0 m 5 ls []) := by
    intro g_5
    induction g_5 with
    | zero => intro d c9 f9 p9 a9 s9 n9 k9 H locs ls h1 hy h9_5; exact absurd h9_5 (Nat.not_lt_zero _)
    | succ g_5 ih_5 =>
      intro d c9 f9 p9 a9 s9 n9 k9 H locs ls h1 hy h9_5 hP hD hS hl
      refine lv_iload_n hx hb dX5_raiseCounter_5 rfl (lv_at hl 2 rfl) ?_
      refine lv_iload_n hx hb dX5_raiseCounter_6 rfl (lv_at hl 1 rfl) ?_
      refine lv_icmp_ge (tgt := 20) hx hb dX5_raiseCounter_7 (by decide) (fun c_7 => ?_) (fun c_7 => ?_)
      · -- 7 t
        obtain rfl : d = 0 := by rw [← h1]; exact z_dist0 c_7
        exact hretV 20 ls _ _ (f9, p9, a9, s9, n9, k9) dX5_raiseCounter_20 rfl rfl (hy) hP hS
      · -- 7 f
        obtain ⟨d, rfl⟩ : ∃ d1, d = d1 + 1 := ⟨d - 1, by have h7 := z_dist1 c_7; omega⟩
        refine lv_aload_n hx hb dX5_raiseCounter_10 rfl (lv_at hl 0 rfl) ?_
        refine zVW (ws' := fun u => cW cI ad K v u.1 u.2.1 u.2.2.1 u.2.2.2.1 u.2.2.2.2.1 u.2.2.2.2.2 tb tl ob im md rn) (As := []) (rest := []) ⟨hx, hb, hml, hown, hts⟩ (k_X5_clearCounterBit l D cI ad K v f9 p9 a9 s9 n9 k9 tb tl ob im md rn) (cwV 0 hts gX5_raiseCounter_X5_clearCounterBit rfl rfl rfl (by decide +kernel) ⟨Nat.le_of_ble_eq_true rfl, Nat.le_of_ble_eq_true rfl⟩) hP hK hN hD hS hA [0, 1, 2, 3, 4, 5, 6, 7, 8, 9, 10, 11] [] [] rfl (by decide) rfl (fun _ => rfl) (fun _ => rfl) (fun _ => rfl) rfl (va_recv hK hP (ci := 5) (q0 := 0) rfl rfl) rfl hl.1 rfl (Nat.le_of_ble_eq_true rfl) dX5_raiseCounter_11 ⟨Nat.zero_le _, Nat.zero_le _⟩ (fun u_11 H locs hu_11 hP hD hS => ?_)
        obtain ⟨f_11, p_11, a_11, st_11, n_11, k_11⟩ := u_11
        have hP : va_P D vwCl (cW cI ad K v f_11 p_11 a_11 st_11 n_11 k_11 tb tl ob im md rn) _ := hP
        have hD : va_D A (cW cI ad K v f_11 p_11 a_11 st_11 n_11 k_11 tb tl ob im md rn) := hD
        refine W.eq (g2 := F0 m 14 ls []) rfl ?_
        refine lv_iinc (v := (c9 + 1)) (lv' := [(2, .int (c9 + 1)), (0, .ref (ad 0)), (1, .int x)]) hx hb dX5_raiseCounter_14 hl (k := 2) rfl (rfl) (by decide) rfl (fun ls hl => ?_)
        refine lv_goto (tgt := 5) hx hb dX5_raiseCounter_17 (by decide) ?_
        exact ih_5 d (c9 + 1) f_11 p_11 a_11 st_11 n_11 k_11 _ _ _ (by have h7 := z_dist1 c_7; omega) (by rw [← hy, z_raiseN, ← hu_11]) (by omega) hP hD hS (lv_sub hl [1, 2, 0] rfl)
  exact lp_5 _ (z_dist x (z_cntr f)) (z_cntr f) f p a st n k _ _ _ rfl rfl (Nat.lt_succ_self _) hP hD hS (lv_sub hl [1, 2, 0] rfl)
