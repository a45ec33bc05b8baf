abbrev rm_X5_type : Room := { frames := 1, cells := 0, slots := 0, locals := 24 }
set_option maxRecDepth 20000 in
theorem qX5_type_1 : (Cond.fieldLink RX5 19 "FlashBoot" "tape" "LFlashBoot$Tape;" : Cond) ∈ wsX5_type := List.mem_of_getElem? (i := 1) rfl
set_option maxRecDepth 20000 in
theorem iX5_type_X5 : ∀ w ∈ wsX50, w ∈ wsX5_type := by decide +kernel
set_option maxRecDepth 20000 in
theorem iX5_type_X4 : ∀ w ∈ wsX40, w ∈ wsX5_type := by decide +kernel
set_option maxHeartbeats 4000000 in
set_option maxRecDepth 100000 in
theorem k_X5_type (l : Launch) (D : va_G) (cI : ClassId) (ad : Nat → Nat) (K : RW) (v : Int32) (f : RW) (p : Int32) (a : Int32) (st : Int32) (n : Int32) (k : Int32) (tb : RW) (tl : Nat) (ob : RW) (im : RW) (md : Nat) (rn : Int32) (x : Int64) (y : Int32) (htl : tl ≤ 192) : zMW (S := Int32 × RW × Nat) l D cI yX5_type wsX5_type rm_X5_type [.ref (ad 0), .long x, .int y] (cW cI ad K v f p a st n k tb tl ob im md rn) (c_type x y (tb, tl)) (fun u => some (.int u.1)) (fun u => cW cI ad K v f p a st n k u.2.1 u.2.2 ob im md rn) := by
  refine zEntW (cc := cX5_type) (maxL := 4) (ret := (some .int)) (own := RX5) (lvs := [(0, .ref (ad 0)), (1, .long x), (3, .int y)]) (by decide) rfl rfl (Nat.le_of_ble_eq_true rfl) rfl ?_
  intro p0 e s m args below meth c Q ls A hx hb hml hts hown hP hK hN hD hS hA hl hret hretV
  refine lv_iload_n hx hb dX5_type_0 rfl (lv_at hl 2 rfl) ?_
  refine lv_iconst (v := 1) hx hb dX5_type_1 (by decide) ?_
  refine lv_icmp_lt (tgt := 11) hx hb dX5_type_2 (by decide) (fun c_2 => ?_) (fun c_2 => ?_)
  · -- 2 t
    refine lv_iconst (v := (-1)) hx hb dX5_type_11 (by decide) ?_
    exact hret 12 ls _ _ ((-1), tb, tl) (-1) _ dX5_type_12 rfl rfl rfl (by first | (simp only [c_type, if_pos c_2]; done) | (simp only [c_type, if_neg c_2, if_neg c_8]; done)) hP hS
  · -- 2 f
    refine lv_iload_n hx hb dX5_type_5 rfl (lv_at hl 2 rfl) ?_
    refine lv_bipush (v := 8) hx hb dX5_type_6 (by decide) ?_
    refine lv_icmp_le (tgt := 13) hx hb dX5_type_8 (by decide) (fun c_8 => ?_) (fun c_8 => ?_)
    · -- 8 t
      obtain ⟨nn, hn1, hn2, rfl⟩ := z_natOf (m := 8) (n := 8) rfl (by decide) c_2 c_8
      refine lv_aload_n hx hb dX5_type_13 rfl (lv_at hl 0 rfl) ?_
      refine va_get (D := D) (ci := 5) (v := .ref (ad 4)) (C := RX5) (T := TX5) (N := 9) hx hb hts iX5_type_X5 hown hK hP 0 rfl rfl 3 (by decide) (hts _ qX5_type_1) (fun _ h9 => h9) rfl dX5_type_14 ?_
      refine lv_lload_n hx hb dX5_type_17 rfl (lv_at hl 1 rfl) ?_
      refine lv_iload_n hx hb dX5_type_18 rfl (lv_at hl 2 rfl) ?_
      refine zVW (ws' := fun u => cW cI ad K v f p a st n k u.2.1 u.2.2 ob im md rn) (As := [.long x, .int (nI nn)]) (rest := []) ⟨hx, hb, hml, hown, hts⟩ (k_X4_add l D cI (ad 4) (ad 5) tb tl x nn (by omega) (by omega)) (cwV 2 hts gX5_type_X4_add rfl rfl rfl (by decide +kernel) ⟨Nat.le_of_ble_eq_true rfl, Nat.le_of_ble_eq_true rfl⟩) hP hK hN hD hS hA [4, 5] [0, 1, 2, 3, 6, 7, 8, 9, 10, 11] [((ad 0), .inr (5, [.ref (ad 1), .int v, .ref (ad 2), .ref (ad 4), .ref (ad 6), .ref (ad 7), .ref (ad 8), .ref (ad 10), .int rn])), ((ad 1), .inl (cI, 8, .inl K)), ((ad 2), .inr (0, [.ref (ad 3), .int p, .int a, .int st, .int n, .int k])), ((ad 3), .inl (cI, 768, .inl f)), ((ad 6), .inr (3, [.int 0, .int 0, .int 192])), ((ad 7), .inr (3, [.int 7, .int 224, .int 416])), ((ad 8), .inr (1, [.ref (ad 9)])), ((ad 9), .inl (cI, 20, .inl ob)), ((ad 10), .inr (2, [.ref (ad 11), .int (nI md)])), ((ad 11), .inl (cI, 192, .inl im))] rfl (by decide) rfl (fun _ => rfl) (fun _ => rfl) (fun _ => rfl) rfl (va_recv hK hP (ci := 4) (q0 := 4) rfl rfl) rfl hl.1 rfl (Nat.le_of_ble_eq_true rfl) dX5_type_19 ⟨Nat.zero_le _, Nat.zero_le _⟩ (fun u_19 H locs hu_19 hP hD hS => ?_)
      obtain ⟨res_19, tb_19, tl_19⟩ := u_19
      have hP : va_P D vwCl (cW cI ad K v f p a st n k tb_19 tl_19 ob im md rn) _ := hP
      have hD : va_D A (cW cI ad K v f p a st n k tb_19 tl_19 ob im md rn) := hD
      refine W.eq (g2 := F0 m 22 ls [.int res_19]) rfl ?_
      refine lv_if_eq (tgt := 35) hx hb dX5_type_22 (by decide) (fun c_22 => ?_) (fun c_22 => ?_)
      · -- 22 t
        refine lv_bipush (v := (-8)) hx hb dX5_type_35 (by decide) ?_
        exact hret 37 ls _ _ ((-8), tb_19, tl_19) (-8) _ dX5_type_37 rfl rfl rfl (by simp only [c_type, nI_clamp (show nn < 2 ^ 31 by omega), c_type2, ← hu_19, if_neg c_2, if_pos c_8, if_pos c_22]) hP hS
      · -- 22 f
        refine lv_aload_n hx hb dX5_type_25 rfl (lv_at hl 0 rfl) ?_
        refine va_get (D := D) (ci := 5) (v := .ref (ad 4)) (C := RX5) (T := TX5) (N := 9) hx hb hts iX5_type_X5 hown hK hP 0 rfl rfl 3 (by decide) (hts _ qX5_type_1) (fun _ h9 => h9) rfl dX5_type_26 ?_
        refine va_getN (host := RX5) (D := D) (ci := 4) (v := .int (nI tl_19)) (C := RX4) (T := TX4) (N := 2) hx hb hts iX5_type_X4 hown hK hP 4 rfl rfl 1 (by decide) (zN_use hN 5 rfl) (fun _ h9 => h9) rfl dX5_type_29 ?_
        refine lv_goto (tgt := 37) hx hb dX5_type_32 (by decide) ?_
        exact hret 37 ls _ _ (nI tl_19, tb_19, tl_19) (nI tl_19) _ dX5_type_37 rfl rfl rfl (by simp only [c_type, nI_clamp (show nn < 2 ^ 31 by omega), c_type2, ← hu_19, if_neg c_2, if_pos c_8, if_neg c_22]) hP hS
    · -- 8 f
      refine lv_iconst (v := (-1)) hx hb dX5_type_11 (by decide) ?_
      exact hret 12 ls _ _ ((-1), tb, tl) (-1) _ dX5_type_12 rfl rfl rfl (by first | (simp only [c_type, if_pos c_2]; done) | (simp only [c_type, if_neg c_2, if_neg c_8]; done)) hP hS
abbrev rm_X5_factory : Room := { frames := 4, cells := 0, slots := 0, locals := 90 }
set_option maxRecDepth 20000 in
theorem qX5_factory_1 : (Cond.fieldLink RX5 12 "FlashBoot" "flash" "LFlashBoot$Flash;" : Cond) ∈ wsX5_factory := List.mem_of_getElem? (i := 1) rfl
set_option maxRecDepth 20000 in
theorem iX5_factory_X5 : ∀ w ∈ wsX50, w ∈ wsX5_factory := by decide +kernel
set_option maxRecDepth 20000 in
theorem iX5_factory_X0 : ∀ w ∈ wsX00, w ∈ wsX5_factory := by decide +kernel
set_option maxRecDepth 20000 in
theorem qX5_factory_2 : (Cond.fieldLink RX5 19 "FlashBoot" "tape" "LFlashBoot$Tape;" : Cond) ∈ wsX5_factory := List.mem_of_getElem? (i := 2) rfl
set_option maxRecDepth 20000 in
theorem iX5_factory_X4 : ∀ w ∈ wsX40, w ∈ wsX5_factory := by decide +kernel
set_option maxRecDepth 20000 in
theorem qX5_factory_3 : (Cond.fieldLink RX5 49 "FlashBoot" "runs" "I" : Cond) ∈ wsX5_factory := List.mem_of_getElem? (i := 3) rfl
set_option maxRecDepth 20000 in
theorem qX5_factory_4 : (Cond.fieldLink RX5 28 "FlashBoot" "lower" "LFlashBoot$Slot;" : Cond) ∈ wsX5_factory := List.mem_of_getElem? (i := 4) rfl
set_option maxHeartbeats 4000000 in
set_option maxRecDepth 100000 in
theorem k_X5_factory (l : Launch) (D : va_G) (cI : ClassId) (ad : Nat → Nat) (K : RW) (v : Int32) (f : RW) (p : Int32) (a : Int32) (st : Int32) (n : Int32) (k : Int32) (tb : RW) (tl : Nat) (ob : RW) (im : RW) (md : Nat) (rn : Int32) (x : Int32) (htl : tl ≤ 192) : zMW (S := Int32 × RW × Int32 × Int32 × Int32 × Int32 × Int32 × Nat × Int32) l D cI yX5_factory wsX5_factory rm_X5_factory [.ref (ad 0), .int x] (cW cI ad K v f p a st n k tb tl ob im md rn) (c_factory x tb tl rn (f, p, a, st, n, k)) (fun u => some (.int u.1)) (fun u => cW cI ad K v u.2.1 u.2.2.1 u.2.2.2.1 u.2.2.2.2.1 u.2.2.2.2.2.1 u.2.2.2.2.2.2.1 tb u.2.2.2.2.2.2.2.1 ob im md u.2.2.2.2.2.2.2.2) := by
  refine zEntW (cc := cX5_factory) (maxL := 2) (ret := (some .int)) (own := RX5) (lvs := [(0, .ref (ad 0)), (1, .int x)]) (by decide) rfl rfl (Nat.le_of_ble_eq_true rfl) rfl ?_
  intro p0 e s m args below meth c Q ls A hx hb hml hts hown hP hK hN hD hS hA hl hret hretV
  refine lv_aload_n hx hb dX5_factory_0 rfl (lv_at hl 0 rfl) ?_
  refine va_get (D := D) (ci := 5) (v := .ref (ad 2)) (C := RX5) (T := TX5) (N := 9) hx hb hts iX5_factory_X5 hown hK hP 0 rfl rfl 2 (by decide) (hts _ qX5_factory_1) (fun _ h9 => h9) rfl dX5_factory_1 ?_
  refine va_getN (host := RX5) (D := D) (ci := 0) (v := .int p) (C := RX0) (T := TX0) (N := 6) hx hb hts iX5_factory_X0 hown hK hP 2 rfl rfl 1 (by decide) (zN_use hN 0 rfl) (fun _ h9 => h9) rfl dX5_factory_4 ?_
  refine lv_if_ne (tgt := 13) hx hb dX5_factory_7 (by decide) (fun c_7 => ?_) (fun c_7 => ?_)
  · -- 7 t
    refine lv_iload_n hx hb dX5_factory_13 rfl (lv_at hl 1 rfl) ?_
    refine zSR (As := [.int x]) (rest := []) ⟨hx, hb, hml, hown, hts⟩ (k_X5_isSequence l D cI x) (va_cwS 1 hts gX5_factory_X5_isSequence rfl rfl rfl (by decide +kernel) ⟨Nat.le_of_ble_eq_true rfl, Nat.le_of_ble_eq_true rfl⟩) hP hK hN [] rfl rfl hl.1 rfl (Nat.le_of_ble_eq_true rfl) dX5_factory_14 ⟨Nat.zero_le _, Nat.zero_le _⟩ ?_
    refine lv_if_eq (tgt := 31) hx hb dX5_factory_17 (by decide) (fun c_17 => ?_) (fun c_17 => ?_)
    · -- 17 t
      refine lv_iconst (v := (-1)) hx hb dX5_factory_31 (by decide) ?_
      exact hret 32 ls _ _ ((-1), f, p, a, st, n, k, tl, rn) (-1) _ dX5_factory_32 rfl rfl rfl (by simp only [c_factory, z_fact, c_fact2, if_neg c_7, if_pos c_17]) hP hS
    · -- 17 f
      refine lv_aload_n hx hb dX5_factory_20 rfl (lv_at hl 0 rfl) ?_
      refine va_get (D := D) (ci := 5) (v := .ref (ad 4)) (C := RX5) (T := TX5) (N := 9) hx hb hts iX5_factory_X5 hown hK hP 0 rfl rfl 3 (by decide) (hts _ qX5_factory_2) (fun _ h9 => h9) rfl dX5_factory_21 ?_
      refine va_getN (host := RX5) (D := D) (ci := 4) (v := .int (nI tl)) (C := RX4) (T := TX4) (N := 2) hx hb hts iX5_factory_X4 hown hK hP 4 rfl rfl 1 (by decide) (zN_use hN 5 rfl) (fun _ h9 => h9) rfl dX5_factory_24 ?_
      refine lv_iconst (v := 1) hx hb dX5_factory_27 (by decide) ?_
      refine z_icmp_ge (tgt := 33) hx hb dX5_factory_28 (by decide) tl 1 rfl rfl (by omega) (by omega) (fun c_28 => ?_) (fun c_28 => ?_)
      · -- 28 t
        refine lv_aload_n hx hb dX5_factory_33 rfl (lv_at hl 0 rfl) ?_
        refine lv_bipush (v := (-7)) hx hb dX5_factory_34 (by decide) ?_
        refine va_put (D := D) (ci := 5) (v := .int (-7)) (ty := .int) (C := RX5) (T := TX5) (N := 9) hx hb hts iX5_factory_X5 tyX5 tyX5_ok nmX5 hown hK hP hD hS 0 rfl rfl 8 (by decide) (hts _ qX5_factory_3) (fun _ h9 => h9) rfl (by decide +kernel) rfl rfl (Nat.le_of_ble_eq_true rfl) dX5_factory_36 (fun H locs hP hD hS => ?_)
        have hP : va_P D vwCl (cW cI ad K v f p a st n k tb tl ob im md (-7)) _ := hP
        have hD : va_D A (cW cI ad K v f p a st n k tb tl ob im md (-7)) := hD
        refine lv_aload_n hx hb dX5_factory_39 rfl (lv_at hl 0 rfl) ?_
        refine va_get (D := D) (ci := 5) (v := .ref (ad 6)) (C := RX5) (T := TX5) (N := 9) hx hb hts iX5_factory_X5 hown hK hP 0 rfl rfl 4 (by decide) (hts _ qX5_factory_4) (fun _ h9 => h9) rfl dX5_factory_40 ?_
        refine lv_aload_n hx hb dX5_factory_43 rfl (lv_at hl 0 rfl) ?_
        refine va_get (D := D) (ci := 5) (v := .ref (ad 2)) (C := RX5) (T := TX5) (N := 9) hx hb hts iX5_factory_X5 hown hK hP 0 rfl rfl 2 (by decide) (hts _ qX5_factory_1) (fun _ h9 => h9) rfl dX5_factory_44 ?_
        refine zVW (ws' := fun u => cW cI ad K v u.1 u.2.1 u.2.2.1 u.2.2.2.1 u.2.2.2.2.1 u.2.2.2.2.2 tb tl ob im md (-7)) (As := [.ref (ad 2)]) (rest := []) ⟨hx, hb, hml, hown, hts⟩ (k_X3_eraseImage l D cI (ad 6) (ad 2) (ad 3) 0 0 192 f p a st n k (by omega)) (cwV 1 hts gX5_factory_X3_eraseImage rfl rfl rfl (by decide +kernel) ⟨Nat.le_of_ble_eq_true rfl, Nat.le_of_ble_eq_true rfl⟩) hP hK hN hD hS hA [6, 2, 3] [0, 1, 4, 5, 7, 8, 9, 10, 11] [((ad 0), .inr (5, [.ref (ad 1), .int v, .ref (ad 2), .ref (ad 4), .ref (ad 6), .ref (ad 7), .ref (ad 8), .ref (ad 10), .int (-7)])), ((ad 1), .inl (cI, 8, .inl K)), ((ad 4), .inr (4, [.ref (ad 5), .int (nI tl)])), ((ad 5), .inl (cI, 192, .inl tb)), ((ad 7), .inr (3, [.int 7, .int 224, .int 416])), ((ad 8), .inr (1, [.ref (ad 9)])), ((ad 9), .inl (cI, 20, .inl ob)), ((ad 10), .inr (2, [.ref (ad 11), .int (nI md)])), ((ad 11), .inl (cI, 192, .inl im))] rfl (by decide) rfl (fun _ => rfl) (fun _ => rfl) (fun _ => rfl) rfl (va_recv hK hP (ci := 3) (q0 := 6) rfl rfl) rfl hl.1 rfl (Nat.le_of_ble_eq_true rfl) dX5_factory_47 ⟨Nat.zero_le _, Nat.zero_le _⟩ (fun u_47 H locs hu_47 hP hD hS => ?_)
        obtain ⟨f_47, p_47, a_47, st_47, n_47, k_47⟩ := u_47
        have hP : va_P D vwCl (cW cI ad K v f_47 p_47 a_47 st_47 n_47 k_47 tb tl ob im md (-7)) _ := hP
        have hD : va_D A (cW cI ad K v f_47 p_47 a_47 st_47 n_47 k_47 tb tl ob im md (-7)) := hD
        refine W.eq (g2 := F0 m 50 ls []) rfl ?_
        refine lv_aload_n hx hb dX5_factory_50 rfl (lv_at hl 0 rfl) ?_
        refine va_get (D := D) (ci := 5) (v := .ref (ad 6)) (C := RX5) (T := TX5) (N := 9) hx hb hts iX5_factory_X5 hown hK hP 0 rfl rfl 4 (by decide) (hts _ qX5_factory_4) (fun _ h9 => h9) rfl dX5_factory_51 ?_
        refine lv_aload_n hx hb dX5_factory_54 rfl (lv_at hl 0 rfl) ?_
        refine va_get (D := D) (ci := 5) (v := .ref (ad 2)) (C := RX5) (T := TX5) (N := 9) hx hb hts iX5_factory_X5 hown hK hP 0 rfl rfl 2 (by decide) (hts _ qX5_factory_1) (fun _ h9 => h9) rfl dX5_factory_55 ?_
        refine zVW (ws' := fun u => cW cI ad K v u.1 u.2.1 u.2.2.1 u.2.2.2.1 u.2.2.2.2.1 u.2.2.2.2.2 tb tl ob im md (-7)) (As := [.ref (ad 2)]) (rest := []) ⟨hx, hb, hml, hown, hts⟩ (k_X3_eraseHeader l D cI (ad 6) (ad 2) (ad 3) 0 0 192 f_47 p_47 a_47 st_47 n_47 k_47 (by omega)) (cwV 1 hts gX5_factory_X3_eraseHeader rfl rfl rfl (by decide +kernel) ⟨Nat.le_of_ble_eq_true rfl, Nat.le_of_ble_eq_true rfl⟩) hP hK hN hD hS hA [6, 2, 3] [0, 1, 4, 5, 7, 8, 9, 10, 11] [((ad 0), .inr (5, [.ref (ad 1), .int v, .ref (ad 2), .ref (ad 4), .ref (ad 6), .ref (ad 7), .ref (ad 8), .ref (ad 10), .int (-7)])), ((ad 1), .inl (cI, 8, .inl K)), ((ad 4), .inr (4, [.ref (ad 5), .int (nI tl)])), ((ad 5), .inl (cI, 192, .inl tb)), ((ad 7), .inr (3, [.int 7, .int 224, .int 416])), ((ad 8), .inr (1, [.ref (ad 9)])), ((ad 9), .inl (cI, 20, .inl ob)), ((ad 10), .inr (2, [.ref (ad 11), .int (nI md)])), ((ad 11), .inl (cI, 192, .inl im))] rfl (by decide) rfl (fun _ => rfl) (fun _ => rfl) (fun _ => rfl) rfl (va_recv hK hP (ci := 3) (q0 := 6) rfl rfl) rfl hl.1 rfl (Nat.le_of_ble_eq_true rfl) dX5_factory_58 ⟨Nat.zero_le _, Nat.zero_le _⟩ (fun u_58 H locs hu_58 hP hD hS => ?_)
        obtain ⟨f_58, p_58, a_58, st_58, n_58, k_58⟩ := u_58
        have hP : va_P D vwCl (cW cI ad K v f_58 p_58 a_58 st_58 n_58 k_58 tb tl ob im md (-7)) _ := hP
        have hD : va_D A (cW cI ad K v f_58 p_58 a_58 st_58 n_58 k_58 tb tl ob im md (-7)) := hD
        refine W.eq (g2 := F0 m 61 ls []) rfl ?_
        refine lv_aload_n hx hb dX5_factory_61 rfl (lv_at hl 0 rfl) ?_
        refine va_get (D := D) (ci := 5) (v := .ref (ad 2)) (C := RX5) (T := TX5) (N := 9) hx hb hts iX5_factory_X5 hown hK hP 0 rfl rfl 2 (by decide) (hts _ qX5_factory_1) (fun _ h9 => h9) rfl dX5_factory_62 ?_
        refine lv_bipush (v := 22) hx hb dX5_factory_65 (by decide) ?_
        refine zVW (ws' := fun u => cW cI ad K v u.1 u.2.1 u.2.2.1 u.2.2.2.1 u.2.2.2.2.1 u.2.2.2.2.2 tb tl ob im md (-7)) (As := [.int 22]) (rest := []) ⟨hx, hb, hml, hown, hts⟩ (k_X0_erase l D cI (ad 2) (ad 3) f_58 p_58 a_58 st_58 n_58 k_58 22 (by omega)) (cwV 1 hts gX5_factory_X0_erase rfl rfl rfl (by decide +kernel) ⟨Nat.le_of_ble_eq_true rfl, Nat.le_of_ble_eq_true rfl⟩) hP hK hN hD hS hA [2, 3] [0, 1, 4, 5, 6, 7, 8, 9, 10, 11] [((ad 0), .inr (5, [.ref (ad 1), .int v, .ref (ad 2), .ref (ad 4), .ref (ad 6), .ref (ad 7), .ref (ad 8), .ref (ad 10), .int (-7)])), ((ad 1), .inl (cI, 8, .inl K)), ((ad 4), .inr (4, [.ref (ad 5), .int (nI tl)])), ((ad 5), .inl (cI, 192, .inl tb)), ((ad 6), .inr (3, [.int 0, .int 0, .int 192])), ((ad 7), .inr (3, [.int 7, .int 224, .int 416])), ((ad 8), .inr (1, [.ref (ad 9)])), ((ad 9), .inl (cI, 20, .inl ob)), ((ad 10), .inr (2, [.ref (ad 11), .int (nI md)])), ((ad 11), .inl (cI, 192, .inl im))] rfl (by decide) rfl (fun _ => rfl) (fun _ => rfl) (fun _ => rfl) rfl (va_recv hK hP (ci := 0) (q0 := 2) rfl rfl) rfl hl.1 rfl (Nat.le_of_ble_eq_true rfl) dX5_factory_67 ⟨Nat.zero_le _, Nat.zero_le _⟩ (fun u_67 H locs hu_67 hP hD hS => ?_)
        obtain ⟨f_67, p_67, a_67, st_67, n_67, k_67⟩ := u_67
        have hP : va_P D vwCl (cW cI ad K v f_67 p_67 a_67 st_67 n_67 k_67 tb tl ob im md (-7)) _ := hP
        have hD : va_D A (cW cI ad K v f_67 p_67 a_67 st_67 n_67 k_67 tb tl ob im md (-7)) := hD
        refine W.eq (g2 := F0 m 70 ls []) rfl ?_
        refine lv_aload_n hx hb dX5_factory_70 rfl (lv_at hl 0 rfl) ?_
        refine va_get (D := D) (ci := 5) (v := .ref (ad 6)) (C := RX5) (T := TX5) (N := 9) hx hb hts iX5_factory_X5 hown hK hP 0 rfl rfl 4 (by decide) (hts _ qX5_factory_4) (fun _ h9 => h9) rfl dX5_factory_71 ?_
        refine lv_aload_n hx hb dX5_factory_74 rfl (lv_at hl 0 rfl) ?_
        refine va_get (D := D) (ci := 5) (v := .ref (ad 2)) (C := RX5) (T := TX5) (N := 9) hx hb hts iX5_factory_X5 hown hK hP 0 rfl rfl 2 (by decide) (hts _ qX5_factory_1) (fun _ h9 => h9) rfl dX5_factory_75 ?_
        refine lv_aload_n hx hb dX5_factory_78 rfl (lv_at hl 0 rfl) ?_
        refine va_get (D := D) (ci := 5) (v := .ref (ad 4)) (C := RX5) (T := TX5) (N := 9) hx hb hts iX5_factory_X5 hown hK hP 0 rfl rfl 3 (by decide) (hts _ qX5_factory_2) (fun _ h9 => h9) rfl dX5_factory_79 ?_
        refine va_getN (host := RX5) (D := D) (ci := 4) (v := .ref (ad 5)) (C := RX4) (T := TX4) (N := 2) hx hb hts iX5_factory_X4 hown hK hP 4 rfl rfl 0 (by decide) (zN_use hN 4 rfl) (fun _ h9 => h9) rfl dX5_factory_82 ?_
        refine lv_aload_n hx hb dX5_factory_85 rfl (lv_at hl 0 rfl) ?_
        refine va_get (D := D) (ci := 5) (v := .ref (ad 4)) (C := RX5) (T := TX5) (N := 9) hx hb hts iX5_factory_X5 hown hK hP 0 rfl rfl 3 (by decide) (hts _ qX5_factory_2) (fun _ h9 => h9) rfl dX5_factory_86 ?_
        refine va_getN (host := RX5) (D := D) (ci := 4) (v := .int (nI tl)) (C := RX4) (T := TX4) (N := 2) hx hb hts iX5_factory_X4 hown hK hP 4 rfl rfl 1 (by decide) (zN_use hN 5 rfl) (fun _ h9 => h9) rfl dX5_factory_89 ?_
        refine zVW (ws' := fun u => cW cI ad K v u.1 u.2.1 u.2.2.1 u.2.2.2.1 u.2.2.2.2.1 u.2.2.2.2.2 tb tl ob im md (-7)) (As := [.ref (ad 2), .ref (ad 5), .int (nI tl)]) (rest := []) ⟨hx, hb, hml, hown, hts⟩ (k_X3_programImage l D cI (ad 6) (ad 2) (ad 3) (ad 5) 0 0 192 f_67 p_67 a_67 st_67 n_67 k_67 tb 192 (nI tl) (by omega)) (cwV 3 hts gX5_factory_X3_programImage rfl rfl rfl (by decide +kernel) ⟨Nat.le_of_ble_eq_true rfl, Nat.le_of_ble_eq_true rfl⟩) hP hK hN hD hS hA [6, 2, 3, 5] [0, 1, 4, 7, 8, 9, 10, 11] [((ad 0), .inr (5, [.ref (ad 1), .int v, .ref (ad 2), .ref (ad 4), .ref (ad 6), .ref (ad 7), .ref (ad 8), .ref (ad 10), .int (-7)])), ((ad 1), .inl (cI, 8, .inl K)), ((ad 4), .inr (4, [.ref (ad 5), .int (nI tl)])), ((ad 7), .inr (3, [.int 7, .int 224, .int 416])), ((ad 8), .inr (1, [.ref (ad 9)])), ((ad 9), .inl (cI, 20, .inl ob)), ((ad 10), .inr (2, [.ref (ad 11), .int (nI md)])), ((ad 11), .inl (cI, 192, .inl im))] rfl (by decide) rfl (fun _ => rfl) (fun _ => rfl) (fun _ => rfl) rfl (va_recv hK hP (ci := 3) (q0 := 6) rfl rfl) rfl hl.1 rfl (Nat.le_of_ble_eq_true rfl) dX5_factory_92 ⟨Nat.zero_le _, Nat.zero_le _⟩ (fun u_92 H locs hu_92 hP hD hS => ?_)
        obtain ⟨f_92, p_92, a_92, st_92, n_92, k_92⟩ := u_92
        have hP : va_P D vwCl (cW cI ad K v f_92 p_92 a_92 st_92 n_92 k_92 tb tl ob im md (-7)) _ := hP
        have hD : va_D A (cW cI ad K v f_92 p_92 a_92 st_92 n_92 k_92 tb tl ob im md (-7)) := hD
        refine W.eq (g2 := F0 m 95 ls []) rfl ?_
        refine lv_aload_n hx hb dX5_factory_95 rfl (lv_at hl 0 rfl) ?_
        refine va_get (D := D) (ci := 5) (v := .ref (ad 6)) (C := RX5) (T := TX5) (N := 9) hx hb hts iX5_factory_X5 hown hK hP 0 rfl rfl 4 (by decide) (hts _ qX5_factory_4) (fun _ h9 => h9) rfl dX5_factory_96 ?_
        refine lv_aload_n hx hb dX5_factory_99 rfl (lv_at hl 0 rfl) ?_
        refine va_get (D := D) (ci := 5) (v := .ref (ad 2)) (C := RX5) (T := TX5) (N := 9) hx hb hts iX5_factory_X5 hown hK hP 0 rfl rfl 2 (by decide) (hts _ qX5_factory_1) (fun _ h9 => h9) rfl dX5_factory_100 ?_
        refine lv_aload_n hx hb dX5_factory_103 rfl (lv_at hl 0 rfl) ?_
        refine va_get (D := D) (ci := 5) (v := .ref (ad 4)) (C := RX5) (T := TX5) (N := 9) hx hb hts iX5_factory_X5 hown hK hP 0 rfl rfl 3 (by decide) (hts _ qX5_factory_2) (fun _ h9 => h9) rfl dX5_factory_104 ?_
        refine va_getN (host := RX5) (D := D) (ci := 4) (v := .int (nI tl)) (C := RX4) (T := TX4) (N := 2) hx hb hts iX5_factory_X4 hown hK hP 4 rfl rfl 1 (by decide) (zN_use hN 5 rfl) (fun _ h9 => h9) rfl dX5_factory_107 ?_
        refine lv_iload_n hx hb dX5_factory_110 rfl (lv_at hl 1 rfl) ?_
        refine lv_iconst (v := 0) hx hb dX5_factory_111 (by decide) ?_
        refine lv_aload_n hx hb dX5_factory_112 rfl (lv_at hl 0 rfl) ?_
        refine va_get (D := D) (ci := 5) (v := .ref (ad 4)) (C := RX5) (T := TX5) (N := 9) hx hb hts iX5_factory_X5 hown hK hP 0 rfl rfl 3 (by decide) (hts _ qX5_factory_2) (fun _ h9 => h9) rfl dX5_factory_113 ?_
        refine va_getN (host := RX5) (D := D) (ci := 4) (v := .ref (ad 5)) (C := RX4) (T := TX4) (N := 2) hx hb hts iX5_factory_X4 hown hK hP 4 rfl rfl 0 (by decide) (zN_use hN 4 rfl) (fun _ h9 => h9) rfl dX5_factory_116 ?_
        refine lv_aload_n hx hb dX5_factory_119 rfl (lv_at hl 0 rfl) ?_
        refine va_get (D := D) (ci := 5) (v := .ref (ad 4)) (C := RX5) (T := TX5) (N := 9) hx hb hts iX5_factory_X5 hown hK hP 0 rfl rfl 3 (by decide) (hts _ qX5_factory_2) (fun _ h9 => h9) rfl dX5_factory_120 ?_
        refine va_getN (host := RX5) (D := D) (ci := 4) (v := .int (nI tl)) (C := RX4) (T := TX4) (N := 2) hx hb hts iX5_factory_X4 hown hK hP 4 rfl rfl 1 (by decide) (zN_use hN 5 rfl) (fun _ h9 => h9) rfl dX5_factory_123 ?_
        refine zSR (As := [.int 0, .ref (ad 5), .int (nI tl)]) (rest := [.int x, .int (nI tl), .ref (ad 2), .ref (ad 6)]) ⟨hx, hb, hml, hown, hts⟩ (k_X5_digest l D cI (ad 5) tb 192 0 (nI tl) (by omega)) (va_cwS 3 hts gX5_factory_X5_digest rfl rfl rfl (by decide +kernel) ⟨Nat.le_of_ble_eq_true rfl, Nat.le_of_ble_eq_true rfl⟩) hP hK hN [5] rfl rfl hl.1 rfl (Nat.le_of_ble_eq_true rfl) dX5_factory_126 ⟨Nat.zero_le _, Nat.zero_le _⟩ ?_
        refine zVW (ws' := fun u => cW cI ad K v u.1 u.2.1 u.2.2.1 u.2.2.2.1 u.2.2.2.2.1 u.2.2.2.2.2 tb tl ob im md (-7)) (As := [.ref (ad 2), .int (nI tl), .int x, .int (z_dig 0 tb 192 (nI tl))]) (rest := []) ⟨hx, hb, hml, hown, hts⟩ (k_X3_programName l D cI (ad 6) (ad 2) (ad 3) 0 0 192 f_92 p_92 a_92 st_92 n_92 k_92 (nI tl) x (z_dig 0 tb 192 (nI tl))) (cwV 4 hts gX5_factory_X3_programName rfl rfl rfl (by decide +kernel) ⟨Nat.le_of_ble_eq_true rfl, Nat.le_of_ble_eq_true rfl⟩) hP hK hN hD hS hA [6, 2, 3] [0, 1, 4, 5, 7, 8, 9, 10, 11] [((ad 0), .inr (5, [.ref (ad 1), .int v, .ref (ad 2), .ref (ad 4), .ref (ad 6), .ref (ad 7), .ref (ad 8), .ref (ad 10), .int (-7)])), ((ad 1), .inl (cI, 8, .inl K)), ((ad 4), .inr (4, [.ref (ad 5), .int (nI tl)])), ((ad 5), .inl (cI, 192, .inl tb)), ((ad 7), .inr (3, [.int 7, .int 224, .int 416])), ((ad 8), .inr (1, [.ref (ad 9)])), ((ad 9), .inl (cI, 20, .inl ob)), ((ad 10), .inr (2, [.ref (ad 11), .int (nI md)])), ((ad 11), .inl (cI, 192, .inl im))] rfl (by decide) rfl (fun _ => rfl) (fun _ => rfl) (fun _ => rfl) rfl (va_recv hK hP (ci := 3) (q0 := 6) rfl rfl) rfl hl.1 rfl (Nat.le_of_ble_eq_true rfl) dX5_factory_129 ⟨Nat.zero_le _, Nat.zero_le _⟩ (fun u_129 H locs hu_129 hP hD hS => ?_)
        obtain ⟨f_129, p_129, a_129, st_129, n_129, k_129⟩ := u_129
        have hP : va_P D vwCl (cW cI ad K v f_129 p_129 a_129 st_129 n_129 k_129 tb tl ob im md (-7)) _ := hP
        have hD : va_D A (cW cI ad K v f_129 p_129 a_129 st_129 n_129 k_129 tb tl ob im md (-7)) := hD
        refine W.eq (g2 := F0 m 132 ls []) rfl ?_
        refine lv_aload_n hx hb dX5_factory_132 rfl (lv_at hl 0 rfl) ?_
        refine va_get (D := D) (ci := 5) (v := .ref (ad 6)) (C := RX5) (T := TX5) (N := 9) hx hb hts iX5_factory_X5 hown hK hP 0 rfl rfl 4 (by decide) (hts _ qX5_factory_4) (fun _ h9 => h9) rfl dX5_factory_133 ?_
        refine lv_aload_n hx hb dX5_factory_136 rfl (lv_at hl 0 rfl) ?_
        refine va_get (D := D) (ci := 5) (v := .ref (ad 2)) (C := RX5) (T := TX5) (N := 9) hx hb hts iX5_factory_X5 hown hK hP 0 rfl rfl 2 (by decide) (hts _ qX5_factory_1) (fun _ h9 => h9) rfl dX5_factory_137 ?_
        refine zVW (ws' := fun u => cW cI ad K v u.1 u.2.1 u.2.2.1 u.2.2.2.1 u.2.2.2.2.1 u.2.2.2.2.2 tb tl ob im md (-7)) (As := [.ref (ad 2)]) (rest := []) ⟨hx, hb, hml, hown, hts⟩ (k_X3_programConfirmed l D cI (ad 6) (ad 2) (ad 3) 0 0 192 f_129 p_129 a_129 st_129 n_129 k_129) (cwV 1 hts gX5_factory_X3_programConfirmed rfl rfl rfl (by decide +kernel) ⟨Nat.le_of_ble_eq_true rfl, Nat.le_of_ble_eq_true rfl⟩) hP hK hN hD hS hA [6, 2, 3] [0, 1, 4, 5, 7, 8, 9, 10, 11] [((ad 0), .inr (5, [.ref (ad 1), .int v, .ref (ad 2), .ref (ad 4), .ref (ad 6), .ref (ad 7), .ref (ad 8), .ref (ad 10), .int (-7)])), ((ad 1), .inl (cI, 8, .inl K)), ((ad 4), .inr (4, [.ref (ad 5), .int (nI tl)])), ((ad 5), .inl (cI, 192, .inl tb)), ((ad 7), .inr (3, [.int 7, .int 224, .int 416])), ((ad 8), .inr (1, [.ref (ad 9)])), ((ad 9), .inl (cI, 20, .inl ob)), ((ad 10), .inr (2, [.ref (ad 11), .int (nI md)])), ((ad 11), .inl (cI, 192, .inl im))] rfl (by decide) rfl (fun _ => rfl) (fun _ => rfl) (fun _ => rfl) rfl (va_recv hK hP (ci := 3) (q0 := 6) rfl rfl) rfl hl.1 rfl (Nat.le_of_ble_eq_true rfl) dX5_factory_140 ⟨Nat.zero_le _, Nat.zero_le _⟩ (fun u_140 H locs hu_140 hP hD hS => ?_)
        obtain ⟨f_140, p_140, a_140, st_140, n_140, k_140⟩ := u_140
        have hP : va_P D vwCl (cW cI ad K v f_140 p_140 a_140 st_140 n_140 k_140 tb tl ob im md (-7)) _ := hP
        have hD : va_D A (cW cI ad K v f_140 p_140 a_140 st_140 n_140 k_140 tb tl ob im md (-7)) := hD
        refine W.eq (g2 := F0 m 143 ls []) rfl ?_
        refine lv_aload_n hx hb dX5_factory_143 rfl (lv_at hl 0 rfl) ?_
        refine va_get (D := D) (ci := 5) (v := .ref (ad 6)) (C := RX5) (T := TX5) (N := 9) hx hb hts iX5_factory_X5 hown hK hP 0 rfl rfl 4 (by decide) (hts _ qX5_factory_4) (fun _ h9 => h9) rfl dX5_factory_144 ?_
        refine lv_aload_n hx hb dX5_factory_147 rfl (lv_at hl 0 rfl) ?_
        refine va_get (D := D) (ci := 5) (v := .ref (ad 2)) (C := RX5) (T := TX5) (N := 9) hx hb hts iX5_factory_X5 hown hK hP 0 rfl rfl 2 (by decide) (hts _ qX5_factory_1) (fun _ h9 => h9) rfl dX5_factory_148 ?_
        refine zVW (ws' := fun u => cW cI ad K v u.1 u.2.1 u.2.2.1 u.2.2.2.1 u.2.2.2.2.1 u.2.2.2.2.2 tb tl ob im md (-7)) (As := [.ref (ad 2)]) (rest := []) ⟨hx, hb, hml, hown, hts⟩ (k_X3_programWhole l D cI (ad 6) (ad 2) (ad 3) 0 0 192 f_140 p_140 a_140 st_140 n_140 k_140) (cwV 1 hts gX5_factory_X3_programWhole rfl rfl rfl (by decide +kernel) ⟨Nat.le_of_ble_eq_true rfl, Nat.le_of_ble_eq_true rfl⟩) hP hK hN hD hS hA [6, 2, 3] [0, 1, 4, 5, 7, 8, 9, 10, 11] [((ad 0), .inr (5, [.ref (ad 1), .int v, .ref (ad 2), .ref (ad 4), .ref (ad 6), .ref (ad 7), .ref (ad 8), .ref (ad 10), .int (-7)])), ((ad 1), .inl (cI, 8, .inl K)), ((ad 4), .inr (4, [.ref (ad 5), .int (nI tl)])), ((ad 5), .inl (cI, 192, .inl tb)), ((ad 7), .inr (3, [.int 7, .int 224, .int 416])), ((ad 8), .inr (1, [.ref (ad 9)])), ((ad 9), .inl (cI, 20, .inl ob)), ((ad 10), .inr (2, [.ref (ad 11), .int (nI md)])), ((ad 11), .inl (cI, 192, .inl im))] rfl (by decide) rfl (fun _ => rfl) (fun _ => rfl) (fun _ => rfl) rfl (va_recv hK hP (ci := 3) (q0 := 6) rfl rfl) rfl hl.1 rfl (Nat.le_of_ble_eq_true rfl) dX5_factory_151 ⟨Nat.zero_le _, Nat.zero_le _⟩ (fun u_151 H locs hu_151 hP hD hS => ?_)
        obtain ⟨f_151, p_151, a_151, st_151, n_151, k_151⟩ := u_151
        have hP : va_P D vwCl (cW cI ad K v f_151 p_151 a_151 st_151 n_151 k_151 tb tl ob im md (-7)) _ := hP
        have hD : va_D A (cW cI ad K v f_151 p_151 a_151 st_151 n_151 k_151 tb tl ob im md (-7)) := hD
        refine W.eq (g2 := F0 m 154 ls []) rfl ?_
        refine lv_aload_n hx hb dX5_factory_154 rfl (lv_at hl 0 rfl) ?_
        refine va_get (D := D) (ci := 5) (v := .ref (ad 4)) (C := RX5) (T := TX5) (N := 9) hx hb hts iX5_factory_X5 hown hK hP 0 rfl rfl 3 (by decide) (hts _ qX5_factory_2) (fun _ h9 => h9) rfl dX5_factory_155 ?_
        refine lv_iconst (v := 0) hx hb dX5_factory_158 (by decide) ?_
        refine va_putN (host := RX5) (D := D) (ci := 4) (v := .int 0) (ty := .int) (C := RX4) (T := TX4) (N := 2) hx hb hts iX5_factory_X4 tyX4 tyX4_ok nmX4 hown hK hP hD hS 4 rfl rfl 1 (by decide) (zN_use hN 5 rfl) (fun _ h9 => h9) rfl (by decide +kernel) rfl rfl (Nat.le_of_ble_eq_true rfl) dX5_factory_159 (fun H locs hP hD hS => ?_)
        have hP : va_P D vwCl (cW cI ad K v f_151 p_151 a_151 st_151 n_151 k_151 tb 0 ob im md (-7)) _ := hP
        have hD : va_D A (cW cI ad K v f_151 p_151 a_151 st_151 n_151 k_151 tb 0 ob im md (-7)) := hD
        refine lv_aload_n hx hb dX5_factory_162 rfl (lv_at hl 0 rfl) ?_
        refine lv_iconst (v := 1) hx hb dX5_factory_163 (by decide) ?_
        refine zVW (ws' := fun u => cW cI ad K v f_151 p_151 a_151 st_151 n_151 k_151 tb 0 ob im md u.2) (As := [.int 1]) (rest := []) ⟨hx, hb, hml, hown, hts⟩ (k_X5_unlessTorn l D cI ad K v f_151 p_151 a_151 st_151 n_151 k_151 tb 0 ob im md (-7) 1) (cwV 1 hts gX5_factory_X5_unlessTorn rfl rfl rfl (by decide +kernel) ⟨Nat.le_of_ble_eq_true rfl, Nat.le_of_ble_eq_true rfl⟩) hP hK hN hD hS hA [0, 1, 2, 3, 4, 5, 6, 7, 8, 9, 10, 11] [] [] rfl (by decide) rfl (fun _ => rfl) (fun _ => rfl) (fun _ => rfl) rfl (va_recv hK hP (ci := 5) (q0 := 0) rfl rfl) rfl hl.1 rfl (Nat.le_of_ble_eq_true rfl) dX5_factory_164 ⟨Nat.zero_le _, Nat.zero_le _⟩ (fun u_164 H locs hu_164 hP hD hS => ?_)
        obtain ⟨res_164, rn_164⟩ := u_164
        have hP : va_P D vwCl (cW cI ad K v f_151 p_151 a_151 st_151 n_151 k_151 tb 0 ob im md rn_164) _ := hP
        have hD : va_D A (cW cI ad K v f_151 p_151 a_151 st_151 n_151 k_151 tb 0 ob im md rn_164) := hD
        refine W.eq (g2 := F0 m 167 ls [.int res_164]) rfl ?_
        exact hret 167 ls _ _ (res_164, f_151, p_151, a_151, st_151, n_151, k_151, 0, rn_164) res_164 _ dX5_factory_167 rfl rfl rfl (by simp only [c_factory, z_fact, c_fact2, ← hu_47, ← hu_58, ← hu_67, ← hu_92, ← hu_129, ← hu_140, ← hu_151, ← hu_164, if_neg c_7, if_neg c_17, if_pos c_28]) hP hS
      · -- 28 f
        refine lv_iconst (v := (-1)) hx hb dX5_factory_31 (by decide) ?_
        exact hret 32 ls _ _ ((-1), f, p, a, st, n, k, tl, rn) (-1) _ dX5_factory_32 rfl rfl rfl (by simp only [c_factory, z_fact, c_fact2, if_neg c_7, if_neg c_17, if_neg (Nat.not_le_of_lt c_28)]) hP hS
  · -- 7 f
    refine lv_bipush (v := (-2)) hx hb dX5_factory_10 (by decide) ?_
    exact hret 12 ls _ _ ((-2), f, p, a, st, n, k, tl, rn) (-2) _ dX5_factory_12 rfl rfl rfl (by simp only [c_factory, z_fact, c_fact2, if_pos c_7]) hP hS
abbrev rm_X5_manifest : Room := { frames := 5, cells := 0, slots := 0, locals := 107 }
set_option maxRecDepth 20000 in
theorem qX5_manifest_1 : (Cond.fieldLink RX5 12 "FlashBoot" "flash" "LFlashBoot$Flash;" : Cond) ∈ wsX5_manifest := List.mem_of_getElem? (i := 1) rfl
set_option maxRecDepth 20000 in
theorem iX5_manifest_X5 : ∀ w ∈ wsX50, w ∈ wsX5_manifest := by decide +kernel
set_option maxRecDepth 20000 in
theorem iX5_manifest_X0 : ∀ w ∈ wsX00, w ∈ wsX5_manifest := by decide +kernel
set_option maxRecDepth 20000 in
theorem qX5_manifest_2 : (Cond.fieldLink RX5 19 "FlashBoot" "tape" "LFlashBoot$Tape;" : Cond) ∈ wsX5_manifest := List.mem_of_getElem? (i := 2) rfl
set_option maxRecDepth 20000 in
theorem iX5_manifest_X4 : ∀ w ∈ wsX40, w ∈ wsX5_manifest := by decide +kernel
set_option maxHeartbeats 4000000 in
set_option maxRecDepth 100000 in
theorem k_X5_manifest (l : Launch) (D : va_G) (cI : ClassId) (ad : Nat → Nat) (K : RW) (v : Int32) (f : RW) (p : Int32) (a : Int32) (st : Int32) (n : Int32) (k : Int32) (tb : RW) (tl : Nat) (ob : RW) (im : RW) (md : Nat) (rn : Int32)  (htl : tl ≤ 192) : zMW (S := Int32 × RW × RW × Int32 × Int32 × Int32 × Int32 × Int32 × Nat × Int32) l D cI yX5_manifest wsX5_manifest rm_X5_manifest [.ref (ad 0)] (cW cI ad K v f p a st n k tb tl ob im md rn) (c_manifest K v tb tl ob rn (f, p, a, st, n, k)) (fun u => some (.int u.1)) (fun u => cW cI ad K v u.2.2.1 u.2.2.2.1 u.2.2.2.2.1 u.2.2.2.2.2.1 u.2.2.2.2.2.2.1 u.2.2.2.2.2.2.2.1 tb u.2.2.2.2.2.2.2.2.1 u.2.1 im md u.2.2.2.2.2.2.2.2.2) := by
  refine zEntW (cc := cX5_manifest) (maxL := 2) (ret := (some .int)) (own := RX5) (lvs := [(0, .ref (ad 0))]) (by decide) rfl rfl (Nat.le_of_ble_eq_true rfl) rfl ?_
  intro p0 e s m args below meth c Q ls A hx hb hml hts hown hP hK hN hD hS hA hl hret hretV
  refine lv_aload_n hx hb dX5_manifest_0 rfl (lv_at hl 0 rfl) ?_
  refine va_get (D := D) (ci := 5) (v := .ref (ad 2)) (C := RX5) (T := TX5) (N := 9) hx hb hts iX5_manifest_X5 hown hK hP 0 rfl rfl 2 (by decide) (hts _ qX5_manifest_1) (fun _ h9 => h9) rfl dX5_manifest_1 ?_
  refine va_getN (host := RX5) (D := D) (ci := 0) (v := .int p) (C := RX0) (T := TX0) (N := 6) hx hb hts iX5_manifest_X0 hown hK hP 2 rfl rfl 1 (by decide) (zN_use hN 0 rfl) (fun _ h9 => h9) rfl dX5_manifest_4 ?_
  refine lv_if_ne (tgt := 13) hx hb dX5_manifest_7 (by decide) (fun c_7 => ?_) (fun c_7 => ?_)
  · -- 7 t
    refine lv_aload_n hx hb dX5_manifest_13 rfl (lv_at hl 0 rfl) ?_
    refine zVW (ws' := fun u => cW cI ad K v f p a st n k tb tl u.2 im md rn) (As := []) (rest := []) ⟨hx, hb, hml, hown, hts⟩ (k_X5_judgeTape l D cI ad K v f p a st n k tb tl ob im md rn (by omega)) (cwV 0 hts gX5_manifest_X5_judgeTape rfl rfl rfl (by decide +kernel) ⟨Nat.le_of_ble_eq_true rfl, Nat.le_of_ble_eq_true rfl⟩) hP hK hN hD hS hA [0, 1, 2, 3, 4, 5, 6, 7, 8, 9, 10, 11] [] [] rfl (by decide) rfl (fun _ => rfl) (fun _ => rfl) (fun _ => rfl) rfl (va_recv hK hP (ci := 5) (q0 := 0) rfl rfl) rfl hl.1 rfl (Nat.le_of_ble_eq_true rfl) dX5_manifest_14 ⟨Nat.zero_le _, Nat.zero_le _⟩ (fun u_14 H locs hu_14 hP hD hS => ?_)
    obtain ⟨res_14, ob_14⟩ := u_14
    have hP : va_P D vwCl (cW cI ad K v f p a st n k tb tl ob_14 im md rn) _ := hP
    have hD : va_D A (cW cI ad K v f p a st n k tb tl ob_14 im md rn) := hD
    refine W.eq (g2 := F0 m 17 ls [.int res_14]) rfl ?_
    refine lv_istore_n (lv' := [(1, .int res_14), (0, .ref (ad 0))]) hx hb dX5_manifest_17 rfl hl (by decide) rfl (fun ls hl => ?_)
    refine lv_iload_n hx hb dX5_manifest_18 rfl (lv_at hl 0 rfl) ?_
    refine lv_if_ne (tgt := 26) hx hb dX5_manifest_19 (by decide) (fun c_19 => ?_) (fun c_19 => ?_)
    · -- 19 t
      refine lv_aload_n hx hb dX5_manifest_26 rfl (lv_at hl 1 rfl) ?_
      refine va_get (D := D) (ci := 5) (v := .ref (ad 4)) (C := RX5) (T := TX5) (N := 9) hx hb hts iX5_manifest_X5 hown hK hP 0 rfl rfl 3 (by decide) (hts _ qX5_manifest_2) (fun _ h9 => h9) rfl dX5_manifest_27 ?_
      refine lv_iconst (v := 0) hx hb dX5_manifest_30 (by decide) ?_
      refine va_putN (host := RX5) (D := D) (ci := 4) (v := .int 0) (ty := .int) (C := RX4) (T := TX4) (N := 2) hx hb hts iX5_manifest_X4 tyX4 tyX4_ok nmX4 hown hK hP hD hS 4 rfl rfl 1 (by decide) (zN_use hN 5 rfl) (fun _ h9 => h9) rfl (by decide +kernel) rfl rfl (Nat.le_of_ble_eq_true rfl) dX5_manifest_31 (fun H locs hP hD hS => ?_)
      have hP : va_P D vwCl (cW cI ad K v f p a st n k tb 0 ob_14 im md rn) _ := hP
      have hD : va_D A (cW cI ad K v f p a st n k tb 0 ob_14 im md rn) := hD
      refine lv_aload_n hx hb dX5_manifest_34 rfl (lv_at hl 1 rfl) ?_
      refine lv_iload_n hx hb dX5_manifest_35 rfl (lv_at hl 0 rfl) ?_
      refine zVW (ws' := fun u => cW cI ad K v f p a st n k tb 0 ob_14 im md u.2) (As := [.int res_14]) (rest := []) ⟨hx, hb, hml, hown, hts⟩ (k_X5_unlessTorn l D cI ad K v f p a st n k tb 0 ob_14 im md rn res_14) (cwV 1 hts gX5_manifest_X5_unlessTorn rfl rfl rfl (by decide +kernel) ⟨Nat.le_of_ble_eq_true rfl, Nat.le_of_ble_eq_true rfl⟩) hP hK hN hD hS hA [0, 1, 2, 3, 4, 5, 6, 7, 8, 9, 10, 11] [] [] rfl (by decide) rfl (fun _ => rfl) (fun _ => rfl) (fun _ => rfl) rfl (va_recv hK hP (ci := 5) (q0 := 0) rfl rfl) rfl hl.1 rfl (Nat.le_of_ble_eq_true rfl) dX5_manifest_36 ⟨Nat.zero_le _, Nat.zero_le _⟩ (fun u_36 H locs hu_36 hP hD hS => ?_)
      obtain ⟨res_36, rn_36⟩ := u_36
      have hP : va_P D vwCl (cW cI ad K v f p a st n k tb 0 ob_14 im md rn_36) _ := hP
      have hD : va_D A (cW cI ad K v f p a st n k tb 0 ob_14 im md rn_36) := hD
      refine W.eq (g2 := F0 m 39 ls [.int res_36]) rfl ?_
      exact hret 39 ls _ _ (res_36, ob_14, f, p, a, st, n, k, 0, rn_36) res_36 _ dX5_manifest_39 rfl rfl rfl (by simp only [c_manifest, c_man2, c_man3, ← hu_14, ← hu_36, if_neg c_7, if_neg c_19]) hP hS
    · -- 19 f
      refine lv_aload_n hx hb dX5_manifest_22 rfl (lv_at hl 1 rfl) ?_
      refine zVW (ws' := fun u => cW cI ad K v u.1 u.2.1 u.2.2.1 u.2.2.2.1 u.2.2.2.2.1 u.2.2.2.2.2 tb tl ob_14 im md rn) (As := []) (rest := []) ⟨hx, hb, hml, hown, hts⟩ (k_X5_stageAnew l D cI ad K v f p a st n k tb tl ob_14 im md rn) (cwV 0 hts gX5_manifest_X5_stageAnew rfl rfl rfl (by decide +kernel) ⟨Nat.le_of_ble_eq_true rfl, Nat.le_of_ble_eq_true rfl⟩) hP hK hN hD hS hA [0, 1, 2, 3, 4, 5, 6, 7, 8, 9, 10, 11] [] [] rfl (by decide) rfl (fun _ => rfl) (fun _ => rfl) (fun _ => rfl) rfl (va_recv hK hP (ci := 5) (q0 := 0) rfl rfl) rfl hl.1 rfl (Nat.le_of_ble_eq_true rfl) dX5_manifest_23 ⟨Nat.zero_le _, Nat.zero_le _⟩ (fun u_23 H locs hu_23 hP hD hS => ?_)
      obtain ⟨f_23, p_23, a_23, st_23, n_23, k_23⟩ := u_23
      have hP : va_P D vwCl (cW cI ad K v f_23 p_23 a_23 st_23 n_23 k_23 tb tl ob_14 im md rn) _ := hP
      have hD : va_D A (cW cI ad K v f_23 p_23 a_23 st_23 n_23 k_23 tb tl ob_14 im md rn) := hD
      refine W.eq (g2 := F0 m 26 ls []) rfl ?_
      refine lv_aload_n hx hb dX5_manifest_26 rfl (lv_at hl 1 rfl) ?_
      refine va_get (D := D) (ci := 5) (v := .ref (ad 4)) (C := RX5) (T := TX5) (N := 9) hx hb hts iX5_manifest_X5 hown hK hP 0 rfl rfl 3 (by decide) (hts _ qX5_manifest_2) (fun _ h9 => h9) rfl dX5_manifest_27 ?_
      refine lv_iconst (v := 0) hx hb dX5_manifest_30 (by decide) ?_
      refine va_putN (host := RX5) (D := D) (ci := 4) (v := .int 0) (ty := .int) (C := RX4) (T := TX4) (N := 2) hx hb hts iX5_manifest_X4 tyX4 tyX4_ok nmX4 hown hK hP hD hS 4 rfl rfl 1 (by decide) (zN_use hN 5 rfl) (fun _ h9 => h9) rfl (by decide +kernel) rfl rfl (Nat.le_of_ble_eq_true rfl) dX5_manifest_31 (fun H locs hP hD hS => ?_)
      have hP : va_P D vwCl (cW cI ad K v f_23 p_23 a_23 st_23 n_23 k_23 tb 0 ob_14 im md rn) _ := hP
      have hD : va_D A (cW cI ad K v f_23 p_23 a_23 st_23 n_23 k_23 tb 0 ob_14 im md rn) := hD
      refine lv_aload_n hx hb dX5_manifest_34 rfl (lv_at hl 1 rfl) ?_
      refine lv_iload_n hx hb dX5_manifest_35 rfl (lv_at hl 0 rfl) ?_
      refine zVW (ws' := fun u => cW cI ad K v f_23 p_23 a_23 st_23 n_23 k_23 tb 0 ob_14 im md u.2) (As := [.int res_14]) (rest := []) ⟨hx, hb, hml, hown, hts⟩ (k_X5_unlessTorn l D cI ad K v f_23 p_23 a_23 st_23 n_23 k_23 tb 0 ob_14 im md rn res_14) (cwV 1 hts gX5_manifest_X5_unlessTorn rfl rfl rfl (by decide +kernel) ⟨Nat.le_of_ble_eq_true rfl, Nat.le_of_ble_eq_true rfl⟩) hP hK hN hD hS hA [0, 1, 2, 3, 4, 5, 6, 7, 8, 9, 10, 11] [] [] rfl (by decide) rfl (fun _ => rfl) (fun _ => rfl) (fun _ => rfl) rfl (va_recv hK hP (ci := 5) (q0 := 0) rfl rfl) rfl hl.1 rfl (Nat.le_of_ble_eq_true rfl) dX5_manifest_36 ⟨Nat.zero_le _, Nat.zero_le _⟩ (fun u_36 H locs hu_36 hP hD hS => ?_)
      obtain ⟨res_36, rn_36⟩ := u_36
      have hP : va_P D vwCl (cW cI ad K v f_23 p_23 a_23 st_23 n_23 k_23 tb 0 ob_14 im md rn_36) _ := hP
      have hD : va_D A (cW cI ad K v f_23 p_23 a_23 st_23 n_23 k_23 tb 0 ob_14 im md rn_36) := hD
      refine W.eq (g2 := F0 m 39 ls [.int res_36]) rfl ?_
      exact hret 39 ls _ _ (res_36, ob_14, f_23, p_23, a_23, st_23, n_23, k_23, 0, rn_36) res_36 _ dX5_manifest_39 rfl rfl rfl (by simp only [c_manifest, c_man2, c_man3, ← hu_14, ← hu_23, ← hu_36, if_neg c_7, if_pos c_19]) hP hS
  · -- 7 f
    refine lv_bipush (v := (-2)) hx hb dX5_manifest_10 (by decide) ?_
    exact hret 12 ls _ _ ((-2), ob, f, p, a, st, n, k, tl, rn) (-2) _ dX5_manifest_12 rfl rfl rfl (by simp only [c_manifest, c_man2, c_man3, if_pos c_7]) hP hS
abbrev rm_X5_block : Room := { frames := 5, cells := 0, slots := 0, locals := 107 }
set_option maxRecDepth 20000 in
theorem qX5_block_1 : (Cond.fieldLink RX5 12 "FlashBoot" "flash" "LFlashBoot$Flash;" : Cond) ∈ wsX5_block := List.mem_of_getElem? (i := 1) rfl
set_option maxRecDepth 20000 in
theorem iX5_block_X5 : ∀ w ∈ wsX50, w ∈ wsX5_block := by decide +kernel
set_option maxRecDepth 20000 in
theorem iX5_block_X0 : ∀ w ∈ wsX00, w ∈ wsX5_block := by decide +kernel
set_option maxRecDepth 20000 in
theorem qX5_block_2 : (Cond.fieldLink RX5 38 "FlashBoot" "order" "LFlashBoot$Manifest;" : Cond) ∈ wsX5_block := List.mem_of_getElem? (i := 2) rfl
set_option maxRecDepth 20000 in
theorem qX5_block_3 : (Cond.fieldLink RX5 19 "FlashBoot" "tape" "LFlashBoot$Tape;" : Cond) ∈ wsX5_block := List.mem_of_getElem? (i := 3) rfl
set_option maxRecDepth 20000 in
theorem iX5_block_X4 : ∀ w ∈ wsX40, w ∈ wsX5_block := by decide +kernel
set_option maxHeartbeats 4000000 in
set_option maxRecDepth 100000 in
theorem k_X5_block (l : Launch) (D : va_G) (cI : ClassId) (ad : Nat → Nat) (K : RW) (v : Int32) (f : RW) (p : Int32) (a : Int32) (st : Int32) (n : Int32) (k : Int32) (tb : RW) (tl : Nat) (ob : RW) (im : RW) (md : Nat) (rn : Int32) (x : Int32) (htl : tl ≤ 192) : zMW (S := Int32 × RW × RW × Int32 × Int32 × Int32 × Int32 × Int32 × Nat × Int32) l D cI yX5_block wsX5_block rm_X5_block [.ref (ad 0), .int x] (cW cI ad K v f p a st n k tb tl ob im md rn) (c_block K v x tb tl ob rn (f, p, a, st, n, k)) (fun u => some (.int u.1)) (fun u => cW cI ad K v u.2.2.1 u.2.2.2.1 u.2.2.2.2.1 u.2.2.2.2.2.1 u.2.2.2.2.2.2.1 u.2.2.2.2.2.2.2.1 tb u.2.2.2.2.2.2.2.2.1 u.2.1 im md u.2.2.2.2.2.2.2.2.2) := by
  refine zEntW (cc := cX5_block) (maxL := 3) (ret := (some .int)) (own := RX5) (lvs := [(0, .ref (ad 0)), (1, .int x)]) (by decide) rfl rfl (Nat.le_of_ble_eq_true rfl) rfl ?_
  intro p0 e s m args below meth c Q ls A hx hb hml hts hown hP hK hN hD hS hA hl hret hretV
  refine lv_aload_n hx hb dX5_block_0 rfl (lv_at hl 0 rfl) ?_
  refine va_get (D := D) (ci := 5) (v := .ref (ad 2)) (C := RX5) (T := TX5) (N := 9) hx hb hts iX5_block_X5 hown hK hP 0 rfl rfl 2 (by decide) (hts _ qX5_block_1) (fun _ h9 => h9) rfl dX5_block_1 ?_
  refine va_getN (host := RX5) (D := D) (ci := 0) (v := .int p) (C := RX0) (T := TX0) (N := 6) hx hb hts iX5_block_X0 hown hK hP 2 rfl rfl 1 (by decide) (zN_use hN 0 rfl) (fun _ h9 => h9) rfl dX5_block_4 ?_
  refine lv_if_ne (tgt := 13) hx hb dX5_block_7 (by decide) (fun c_7 => ?_) (fun c_7 => ?_)
  · -- 7 t
    refine lv_aload_n hx hb dX5_block_13 rfl (lv_at hl 0 rfl) ?_
    refine zVW (ws' := fun u => cW cI ad K v f p a st n k tb tl u.2 im md rn) (As := []) (rest := []) ⟨hx, hb, hml, hown, hts⟩ (k_X5_readStagedManifest l D cI ad K v f p a st n k tb tl ob im md rn) (cwV 0 hts gX5_block_X5_readStagedManifest rfl rfl rfl (by decide +kernel) ⟨Nat.le_of_ble_eq_true rfl, Nat.le_of_ble_eq_true rfl⟩) hP hK hN hD hS hA [0, 1, 2, 3, 4, 5, 6, 7, 8, 9, 10, 11] [] [] rfl (by decide) rfl (fun _ => rfl) (fun _ => rfl) (fun _ => rfl) rfl (va_recv hK hP (ci := 5) (q0 := 0) rfl rfl) rfl hl.1 rfl (Nat.le_of_ble_eq_true rfl) dX5_block_14 ⟨Nat.zero_le _, Nat.zero_le _⟩ (fun u_14 H locs hu_14 hP hD hS => ?_)
    obtain ⟨res_14, ob_14⟩ := u_14
    have hP : va_P D vwCl (cW cI ad K v f p a st n k tb tl ob_14 im md rn) _ := hP
    have hD : va_D A (cW cI ad K v f p a st n k tb tl ob_14 im md rn) := hD
    refine W.eq (g2 := F0 m 17 ls [.int res_14]) rfl ?_
    refine lv_if_eq (tgt := 49) hx hb dX5_block_17 (by decide) (fun c_17 => ?_) (fun c_17 => ?_)
    · -- 17 t
      refine lv_iconst (v := (-1)) hx hb dX5_block_49 (by decide) ?_
      exact hret 50 ls _ _ ((-1), ob_14, f, p, a, st, n, k, tl, rn) (-1) _ dX5_block_50 rfl rfl rfl (by simp only [c_block, c_blk2, c_man3, ← hu_14, if_neg c_7, if_pos c_17]) hP hS
    · -- 17 f
      refine lv_iload_n hx hb dX5_block_20 rfl (lv_at hl 1 rfl) ?_
      refine lv_aload_n hx hb dX5_block_21 rfl (lv_at hl 0 rfl) ?_
      refine va_get (D := D) (ci := 5) (v := .ref (ad 8)) (C := RX5) (T := TX5) (N := 9) hx hb hts iX5_block_X5 hown hK hP 0 rfl rfl 6 (by decide) (hts _ qX5_block_2) (fun _ h9 => h9) rfl dX5_block_22 ?_
      refine zVR (As := []) (rest := [.int x]) ⟨hx, hb, hml, hown, hts⟩ (k_X1_payloadLength l D cI (ad 8) (ad 9) ob_14) (cwV 0 hts gX5_block_X1_payloadLength rfl rfl rfl (by decide +kernel) ⟨Nat.le_of_ble_eq_true rfl, Nat.le_of_ble_eq_true rfl⟩) hP hK hN [8, 9] rfl (va_recv hK hP (ci := 1) (q0 := 8) rfl rfl) rfl hl.1 rfl (Nat.le_of_ble_eq_true rfl) dX5_block_25 ⟨Nat.zero_le _, Nat.zero_le _⟩ ?_
      refine zSR (As := [.int x, .int (ob_14 6)]) (rest := []) ⟨hx, hb, hml, hown, hts⟩ (k_X5_isBlockOf l D cI x (ob_14 6)) (va_cwS 2 hts gX5_block_X5_isBlockOf rfl rfl rfl (by decide +kernel) ⟨Nat.le_of_ble_eq_true rfl, Nat.le_of_ble_eq_true rfl⟩) hP hK hN [] rfl rfl hl.1 rfl (Nat.le_of_ble_eq_true rfl) dX5_block_28 ⟨Nat.zero_le _, Nat.zero_le _⟩ ?_
      refine lv_if_eq (tgt := 49) hx hb dX5_block_31 (by decide) (fun c_31 => ?_) (fun c_31 => ?_)
      · -- 31 t
        refine lv_iconst (v := (-1)) hx hb dX5_block_49 (by decide) ?_
        exact hret 50 ls _ _ ((-1), ob_14, f, p, a, st, n, k, tl, rn) (-1) _ dX5_block_50 rfl rfl rfl (by simp only [c_block, c_blk2, c_man3, ← hu_14, if_neg c_7, if_neg c_17, if_pos c_31]) hP hS
      · -- 31 f
        refine lv_aload_n hx hb dX5_block_34 rfl (lv_at hl 0 rfl) ?_
        refine va_get (D := D) (ci := 5) (v := .ref (ad 4)) (C := RX5) (T := TX5) (N := 9) hx hb hts iX5_block_X5 hown hK hP 0 rfl rfl 3 (by decide) (hts _ qX5_block_3) (fun _ h9 => h9) rfl dX5_block_35 ?_
        refine va_getN (host := RX5) (D := D) (ci := 4) (v := .int (nI tl)) (C := RX4) (T := TX4) (N := 2) hx hb hts iX5_block_X4 hown hK hP 4 rfl rfl 1 (by decide) (zN_use hN 5 rfl) (fun _ h9 => h9) rfl dX5_block_38 ?_
        refine lv_aload_n hx hb dX5_block_41 rfl (lv_at hl 0 rfl) ?_
        refine lv_iload_n hx hb dX5_block_42 rfl (lv_at hl 1 rfl) ?_
        refine zVR (As := [.int x]) (rest := [.int (nI tl)]) ⟨hx, hb, hml, hown, hts⟩ (k_X5_blockLength l D cI ad K v f p a st n k tb tl ob_14 im md rn x) (cwV 1 hts gX5_block_X5_blockLength rfl rfl rfl (by decide +kernel) ⟨Nat.le_of_ble_eq_true rfl, Nat.le_of_ble_eq_true rfl⟩) hP hK hN [0, 1, 2, 3, 4, 5, 6, 7, 8, 9, 10, 11] rfl (va_recv hK hP (ci := 5) (q0 := 0) rfl rfl) rfl hl.1 rfl (Nat.le_of_ble_eq_true rfl) dX5_block_43 ⟨Nat.zero_le _, Nat.zero_le _⟩ ?_
        refine lv_icmp_eq (tgt := 51) hx hb dX5_block_46 (by decide) (fun c_46 => ?_) (fun c_46 => ?_)
        · -- 46 t
          refine lv_aload_n hx hb dX5_block_51 rfl (lv_at hl 0 rfl) ?_
          refine lv_iload_n hx hb dX5_block_52 rfl (lv_at hl 1 rfl) ?_
          refine zVR (As := [.int x]) (rest := []) ⟨hx, hb, hml, hown, hts⟩ (k_X5_isThere l D cI ad K v f p a st n k tb tl ob_14 im md rn x) (cwV 1 hts gX5_block_X5_isThere rfl rfl rfl (by decide +kernel) ⟨Nat.le_of_ble_eq_true rfl, Nat.le_of_ble_eq_true rfl⟩) hP hK hN [0, 1, 2, 3, 4, 5, 6, 7, 8, 9, 10, 11] rfl (va_recv hK hP (ci := 5) (q0 := 0) rfl rfl) rfl hl.1 rfl (Nat.le_of_ble_eq_true rfl) dX5_block_53 ⟨Nat.zero_le _, Nat.zero_le _⟩ ?_
          refine lv_if_ne (tgt := 63) hx hb dX5_block_56 (by decide) (fun c_56 => ?_) (fun c_56 => ?_)
          · -- 56 t
            refine lv_iconst (v := 0) hx hb dX5_block_63 (by decide) ?_
            refine lv_istore_n (lv' := [(2, .int 0), (0, .ref (ad 0)), (1, .int x)]) hx hb dX5_block_64 rfl hl (by decide) rfl (fun ls hl => ?_)
            refine lv_iload_n hx hb dX5_block_65 rfl (lv_at hl 0 rfl) ?_
            refine lv_if_eq (tgt := 111) hx hb dX5_block_66 (by decide) (fun c_66 => ?_) (fun c_66 => ?_)
            · -- 66 t
              refine lv_aload_n hx hb dX5_block_111 rfl (lv_at hl 1 rfl) ?_
              refine va_get (D := D) (ci := 5) (v := .ref (ad 4)) (C := RX5) (T := TX5) (N := 9) hx hb hts iX5_block_X5 hown hK hP 0 rfl rfl 3 (by decide) (hts _ qX5_block_3) (fun _ h9 => h9) rfl dX5_block_112 ?_
              refine lv_iconst (v := 0) hx hb dX5_block_115 (by decide) ?_
              refine va_putN (host := RX5) (D := D) (ci := 4) (v := .int 0) (ty := .int) (C := RX4) (T := TX4) (N := 2) hx hb hts iX5_block_X4 tyX4 tyX4_ok nmX4 hown hK hP hD hS 4 rfl rfl 1 (by decide) (zN_use hN 5 rfl) (fun _ h9 => h9) rfl (by decide +kernel) rfl rfl (Nat.le_of_ble_eq_true rfl) dX5_block_116 (fun H locs hP hD hS => ?_)
              have hP : va_P D vwCl (cW cI ad K v f p a st n k tb 0 ob_14 im md rn) _ := hP
              have hD : va_D A (cW cI ad K v f p a st n k tb 0 ob_14 im md rn) := hD
              refine lv_aload_n hx hb dX5_block_119 rfl (lv_at hl 1 rfl) ?_
              refine lv_iload_n hx hb dX5_block_120 rfl (lv_at hl 0 rfl) ?_
              refine lv_if_eq (tgt := 128) hx hb dX5_block_121 (by decide) (fun c_121 => ?_) (fun c_121 => ?_)
              · -- 121 t
                refine lv_iconst (v := 0) hx hb dX5_block_128 (by decide) ?_
                refine zVW (ws' := fun u => cW cI ad K v f p a st n k tb 0 ob_14 im md u.2) (As := [.int 0]) (rest := []) ⟨hx, hb, hml, hown, hts⟩ (k_X5_unlessTorn l D cI ad K v f p a st n k tb 0 ob_14 im md rn 0) (cwV 1 hts gX5_block_X5_unlessTorn rfl rfl rfl (by decide +kernel) ⟨Nat.le_of_ble_eq_true rfl, Nat.le_of_ble_eq_true rfl⟩) hP hK hN hD hS hA [0, 1, 2, 3, 4, 5, 6, 7, 8, 9, 10, 11] [] [] rfl (by decide) rfl (fun _ => rfl) (fun _ => rfl) (fun _ => rfl) rfl (va_recv hK hP (ci := 5) (q0 := 0) rfl rfl) rfl hl.1 rfl (Nat.le_of_ble_eq_true rfl) dX5_block_129 ⟨Nat.zero_le _, Nat.zero_le _⟩ (fun u_129 H locs hu_129 hP hD hS => ?_)
                obtain ⟨res_129, rn_129⟩ := u_129
                have hP : va_P D vwCl (cW cI ad K v f p a st n k tb 0 ob_14 im md rn_129) _ := hP
                have hD : va_D A (cW cI ad K v f p a st n k tb 0 ob_14 im md rn_129) := hD
                refine W.eq (g2 := F0 m 132 ls [.int res_129]) rfl ?_
                exact hret 132 ls _ _ (res_129, ob_14, f, p, a, st, n, k, 0, rn_129) res_129 _ dX5_block_132 rfl rfl rfl (by simp only [c_block, c_blk2, c_man3, ← hu_14, ← hu_129, if_neg c_7, if_neg c_17, if_neg c_31, if_pos c_46, if_neg c_56]) hP hS
              · -- 121 f
                exact absurd (by decide) c_121
            · -- 66 f
              exact absurd (by decide) c_66
          · -- 56 f
            refine lv_iconst (v := 1) hx hb dX5_block_59 (by decide) ?_
            refine lv_goto (tgt := 64) hx hb dX5_block_60 (by decide) ?_
            refine lv_istore_n (lv' := [(2, .int 1), (0, .ref (ad 0)), (1, .int x)]) hx hb dX5_block_64 rfl hl (by decide) rfl (fun ls hl => ?_)
            refine lv_iload_n hx hb dX5_block_65 rfl (lv_at hl 0 rfl) ?_
            refine lv_if_eq (tgt := 111) hx hb dX5_block_66 (by decide) (fun c_66 => ?_) (fun c_66 => ?_)
            · -- 66 t
              exact absurd c_66 (by decide)
            · -- 66 f
              refine lv_aload_n hx hb dX5_block_69 rfl (lv_at hl 1 rfl) ?_
              refine va_get (D := D) (ci := 5) (v := .ref (ad 2)) (C := RX5) (T := TX5) (N := 9) hx hb hts iX5_block_X5 hown hK hP 0 rfl rfl 2 (by decide) (hts _ qX5_block_1) (fun _ h9 => h9) rfl dX5_block_70 ?_
              refine lv_sipush (v := 448) hx hb dX5_block_73 (by decide) ?_
              refine lv_bipush (v := 16) hx hb dX5_block_76 (by decide) ?_
              refine lv_iload_n hx hb dX5_block_78 rfl (lv_at hl 2 rfl) ?_
              refine lv_imul hx hb dX5_block_79 ?_
              refine lv_iadd hx hb dX5_block_80 ?_
              refine lv_aload_n hx hb dX5_block_81 rfl (lv_at hl 1 rfl) ?_
              refine va_get (D := D) (ci := 5) (v := .ref (ad 4)) (C := RX5) (T := TX5) (N := 9) hx hb hts iX5_block_X5 hown hK hP 0 rfl rfl 3 (by decide) (hts _ qX5_block_3) (fun _ h9 => h9) rfl dX5_block_82 ?_
              refine va_getN (host := RX5) (D := D) (ci := 4) (v := .ref (ad 5)) (C := RX4) (T := TX4) (N := 2) hx hb hts iX5_block_X4 hown hK hP 4 rfl rfl 0 (by decide) (zN_use hN 4 rfl) (fun _ h9 => h9) rfl dX5_block_85 ?_
              refine lv_aload_n hx hb dX5_block_88 rfl (lv_at hl 1 rfl) ?_
              refine va_get (D := D) (ci := 5) (v := .ref (ad 4)) (C := RX5) (T := TX5) (N := 9) hx hb hts iX5_block_X5 hown hK hP 0 rfl rfl 3 (by decide) (hts _ qX5_block_3) (fun _ h9 => h9) rfl dX5_block_89 ?_
              refine va_getN (host := RX5) (D := D) (ci := 4) (v := .int (nI tl)) (C := RX4) (T := TX4) (N := 2) hx hb hts iX5_block_X4 hown hK hP 4 rfl rfl 1 (by decide) (zN_use hN 5 rfl) (fun _ h9 => h9) rfl dX5_block_92 ?_
              refine zVW (ws' := fun u => cW cI ad K v u.1 u.2.1 u.2.2.1 u.2.2.2.1 u.2.2.2.2.1 u.2.2.2.2.2 tb tl ob_14 im md rn) (As := [.int (448 + (16 * x)), .ref (ad 5), .int (nI tl)]) (rest := []) ⟨hx, hb, hml, hown, hts⟩ (k_X0_programRow l D cI (ad 2) (ad 3) (ad 5) f p a st n k tb 192 (448 + (16 * x)) (nI tl) (by omega)) (cwV 3 hts gX5_block_X0_programRow rfl rfl rfl (by decide +kernel) ⟨Nat.le_of_ble_eq_true rfl, Nat.le_of_ble_eq_true rfl⟩) hP hK hN hD hS hA [2, 3, 5] [0, 1, 4, 6, 7, 8, 9, 10, 11] [((ad 0), .inr (5, [.ref (ad 1), .int v, .ref (ad 2), .ref (ad 4), .ref (ad 6), .ref (ad 7), .ref (ad 8), .ref (ad 10), .int rn])), ((ad 1), .inl (cI, 8, .inl K)), ((ad 4), .inr (4, [.ref (ad 5), .int (nI tl)])), ((ad 6), .inr (3, [.int 0, .int 0, .int 192])), ((ad 7), .inr (3, [.int 7, .int 224, .int 416])), ((ad 8), .inr (1, [.ref (ad 9)])), ((ad 9), .inl (cI, 20, .inl ob_14)), ((ad 10), .inr (2, [.ref (ad 11), .int (nI md)])), ((ad 11), .inl (cI, 192, .inl im))] rfl (by decide) rfl (fun _ => rfl) (fun _ => rfl) (fun _ => rfl) rfl (va_recv hK hP (ci := 0) (q0 := 2) rfl rfl) rfl hl.1 rfl (Nat.le_of_ble_eq_true rfl) dX5_block_95 ⟨Nat.zero_le _, Nat.zero_le _⟩ (fun u_95 H locs hu_95 hP hD hS => ?_)
              obtain ⟨f_95, p_95, a_95, st_95, n_95, k_95⟩ := u_95
              have hP : va_P D vwCl (cW cI ad K v f_95 p_95 a_95 st_95 n_95 k_95 tb tl ob_14 im md rn) _ := hP
              have hD : va_D A (cW cI ad K v f_95 p_95 a_95 st_95 n_95 k_95 tb tl ob_14 im md rn) := hD
              refine W.eq (g2 := F0 m 98 ls []) rfl ?_
              refine lv_aload_n hx hb dX5_block_98 rfl (lv_at hl 1 rfl) ?_
              refine va_get (D := D) (ci := 5) (v := .ref (ad 2)) (C := RX5) (T := TX5) (N := 9) hx hb hts iX5_block_X5 hown hK hP 0 rfl rfl 2 (by decide) (hts _ qX5_block_1) (fun _ h9 => h9) rfl dX5_block_99 ?_
              refine lv_sipush (v := 672) hx hb dX5_block_102 (by decide) ?_
              refine lv_iload_n hx hb dX5_block_105 rfl (lv_at hl 2 rfl) ?_
              refine lv_iadd hx hb dX5_block_106 ?_
              refine lv_iconst (v := 0) hx hb dX5_block_107 (by decide) ?_
              refine zVW (ws' := fun u => cW cI ad K v u.1 u.2.1 u.2.2.1 u.2.2.2.1 u.2.2.2.2.1 u.2.2.2.2.2 tb tl ob_14 im md rn) (As := [.int (672 + x), .int 0]) (rest := []) ⟨hx, hb, hml, hown, hts⟩ (k_X0_program l D cI (ad 2) (ad 3) f_95 p_95 a_95 st_95 n_95 k_95 (672 + x) 0) (cwV 2 hts gX5_block_X0_program rfl rfl rfl (by decide +kernel) ⟨Nat.le_of_ble_eq_true rfl, Nat.le_of_ble_eq_true rfl⟩) hP hK hN hD hS hA [2, 3] [0, 1, 4, 5, 6, 7, 8, 9, 10, 11] [((ad 0), .inr (5, [.ref (ad 1), .int v, .ref (ad 2), .ref (ad 4), .ref (ad 6), .ref (ad 7), .ref (ad 8), .ref (ad 10), .int rn])), ((ad 1), .inl (cI, 8, .inl K)), ((ad 4), .inr (4, [.ref (ad 5), .int (nI tl)])), ((ad 5), .inl (cI, 192, .inl tb)), ((ad 6), .inr (3, [.int 0, .int 0, .int 192])), ((ad 7), .inr (3, [.int 7, .int 224, .int 416])), ((ad 8), .inr (1, [.ref (ad 9)])), ((ad 9), .inl (cI, 20, .inl ob_14)), ((ad 10), .inr (2, [.ref (ad 11), .int (nI md)])), ((ad 11), .inl (cI, 192, .inl im))] rfl (by decide) rfl (fun _ => rfl) (fun _ => rfl) (fun _ => rfl) rfl (va_recv hK hP (ci := 0) (q0 := 2) rfl rfl) rfl hl.1 rfl (Nat.le_of_ble_eq_true rfl) dX5_block_108 ⟨Nat.zero_le _, Nat.zero_le _⟩ (fun u_108 H locs hu_108 hP hD hS => ?_)
              obtain ⟨f_108, p_108, a_108, st_108, n_108, k_108⟩ := u_108
              have hP : va_P D vwCl (cW cI ad K v f_108 p_108 a_108 st_108 n_108 k_108 tb tl ob_14 im md rn) _ := hP
              have hD : va_D A (cW cI ad K v f_108 p_108 a_108 st_108 n_108 k_108 tb tl ob_14 im md rn) := hD
              refine W.eq (g2 := F0 m 111 ls []) rfl ?_
              refine lv_aload_n hx hb dX5_block_111 rfl (lv_at hl 1 rfl) ?_
              refine va_get (D := D) (ci := 5) (v := .ref (ad 4)) (C := RX5) (T := TX5) (N := 9) hx hb hts iX5_block_X5 hown hK hP 0 rfl rfl 3 (by decide) (hts _ qX5_block_3) (fun _ h9 => h9) rfl dX5_block_112 ?_
              refine lv_iconst (v := 0) hx hb dX5_block_115 (by decide) ?_
              refine va_putN (host := RX5) (D := D) (ci := 4) (v := .int 0) (ty := .int) (C := RX4) (T := TX4) (N := 2) hx hb hts iX5_block_X4 tyX4 tyX4_ok nmX4 hown hK hP hD hS 4 rfl rfl 1 (by decide) (zN_use hN 5 rfl) (fun _ h9 => h9) rfl (by decide +kernel) rfl rfl (Nat.le_of_ble_eq_true rfl) dX5_block_116 (fun H locs hP hD hS => ?_)
              have hP : va_P D vwCl (cW cI ad K v f_108 p_108 a_108 st_108 n_108 k_108 tb 0 ob_14 im md rn) _ := hP
              have hD : va_D A (cW cI ad K v f_108 p_108 a_108 st_108 n_108 k_108 tb 0 ob_14 im md rn) := hD
              refine lv_aload_n hx hb dX5_block_119 rfl (lv_at hl 1 rfl) ?_
              refine lv_iload_n hx hb dX5_block_120 rfl (lv_at hl 0 rfl) ?_
              refine lv_if_eq (tgt := 128) hx hb dX5_block_121 (by decide) (fun c_121 => ?_) (fun c_121 => ?_)
              · -- 121 t
                exact absurd c_121 (by decide)
              · -- 121 f
                refine lv_iconst (v := 1) hx hb dX5_block_124 (by decide) ?_
                refine lv_goto (tgt := 129) hx hb dX5_block_125 (by decide) ?_
                refine zVW (ws' := fun u => cW cI ad K v f_108 p_108 a_108 st_108 n_108 k_108 tb 0 ob_14 im md u.2) (As := [.int 1]) (rest := []) ⟨hx, hb, hml, hown, hts⟩ (k_X5_unlessTorn l D cI ad K v f_108 p_108 a_108 st_108 n_108 k_108 tb 0 ob_14 im md rn 1) (cwV 1 hts gX5_block_X5_unlessTorn rfl rfl rfl (by decide +kernel) ⟨Nat.le_of_ble_eq_true rfl, Nat.le_of_ble_eq_true rfl⟩) hP hK hN hD hS hA [0, 1, 2, 3, 4, 5, 6, 7, 8, 9, 10, 11] [] [] rfl (by decide) rfl (fun _ => rfl) (fun _ => rfl) (fun _ => rfl) rfl (va_recv hK hP (ci := 5) (q0 := 0) rfl rfl) rfl hl.1 rfl (Nat.le_of_ble_eq_true rfl) dX5_block_129 ⟨Nat.zero_le _, Nat.zero_le _⟩ (fun u_129 H locs hu_129 hP hD hS => ?_)
                obtain ⟨res_129, rn_129⟩ := u_129
                have hP : va_P D vwCl (cW cI ad K v f_108 p_108 a_108 st_108 n_108 k_108 tb 0 ob_14 im md rn_129) _ := hP
                have hD : va_D A (cW cI ad K v f_108 p_108 a_108 st_108 n_108 k_108 tb 0 ob_14 im md rn_129) := hD
                refine W.eq (g2 := F0 m 132 ls [.int res_129]) rfl ?_
                exact hret 132 ls _ _ (res_129, ob_14, f_108, p_108, a_108, st_108, n_108, k_108, 0, rn_129) res_129 _ dX5_block_132 rfl rfl rfl (by simp only [c_block, c_blk2, c_man3, ← hu_14, ← hu_95, ← hu_108, ← hu_129, if_neg c_7, if_neg c_17, if_neg c_31, if_pos c_46, if_pos c_56]) hP hS
        · -- 46 f
          refine lv_iconst (v := (-1)) hx hb dX5_block_49 (by decide) ?_
          exact hret 50 ls _ _ ((-1), ob_14, f, p, a, st, n, k, tl, rn) (-1) _ dX5_block_50 rfl rfl rfl (by simp only [c_block, c_blk2, c_man3, ← hu_14, if_neg c_7, if_neg c_17, if_neg c_31, if_neg c_46]) hP hS
  · -- 7 f
    refine lv_bipush (v := (-2)) hx hb dX5_block_10 (by decide) ?_
    exact hret 12 ls _ _ ((-2), ob, f, p, a, st, n, k, tl, rn) (-2) _ dX5_block_12 rfl rfl rfl (by simp only [c_block, c_blk2, c_man3, if_pos c_7]) hP hS
abbrev rm_X5_install : Room := { frames := 5, cells := 0, slots := 0, locals := 121 }
set_option maxRecDepth 20000 in
theorem qX5_install_1 : (Cond.fieldLink RX5 12 "FlashBoot" "flash" "LFlashBoot$Flash;" : Cond) ∈ wsX5_install := List.mem_of_getElem? (i := 1) rfl
set_option maxRecDepth 20000 in
theorem iX5_install_X5 : ∀ w ∈ wsX50, w ∈ wsX5_install := by decide +kernel
set_option maxRecDepth 20000 in
theorem iX5_install_X0 : ∀ w ∈ wsX00, w ∈ wsX5_install := by decide +kernel
set_option maxRecDepth 20000 in
theorem qX5_install_2 : (Cond.fieldLink RX5 38 "FlashBoot" "order" "LFlashBoot$Manifest;" : Cond) ∈ wsX5_install := List.mem_of_getElem? (i := 2) rfl
set_option maxRecDepth 20000 in
theorem qX5_install_3 : (Cond.fieldLink RX5 49 "FlashBoot" "runs" "I" : Cond) ∈ wsX5_install := List.mem_of_getElem? (i := 3) rfl
set_option maxHeartbeats 4000000 in
set_option maxRecDepth 100000 in
theorem k_X5_install (l : Launch) (D : va_G) (cI : ClassId) (ad : Nat → Nat) (K : RW) (v : Int32) (f : RW) (p : Int32) (a : Int32) (st : Int32) (n : Int32) (k : Int32) (tb : RW) (tl : Nat) (ob : RW) (im : RW) (md : Nat) (rn : Int32)  (hB : zbOk f) : zMW (S := Int32 × RW × RW × Int32 × Int32 × Int32 × Int32 × Int32 × RW × Nat × Int32) l D cI yX5_install wsX5_install rm_X5_install [.ref (ad 0)] (cW cI ad K v f p a st n k tb tl ob im md rn) (c_install K v ob im md rn (f, p, a, st, n, k)) (fun u => some (.int u.1)) (fun u => cW cI ad K v u.2.2.1 u.2.2.2.1 u.2.2.2.2.1 u.2.2.2.2.2.1 u.2.2.2.2.2.2.1 u.2.2.2.2.2.2.2.1 tb tl u.2.1 u.2.2.2.2.2.2.2.2.1 u.2.2.2.2.2.2.2.2.2.1 u.2.2.2.2.2.2.2.2.2.2) := by
  refine zEntW (cc := cX5_install) (maxL := 1) (ret := (some .int)) (own := RX5) (lvs := [(0, .ref (ad 0))]) (by decide) rfl rfl (Nat.le_of_ble_eq_true rfl) rfl ?_
  intro p0 e s m args below meth c Q ls A hx hb hml hts hown hP hK hN hD hS hA hl hret hretV
  refine lv_aload_n hx hb dX5_install_0 rfl (lv_at hl 0 rfl) ?_
  refine va_get (D := D) (ci := 5) (v := .ref (ad 2)) (C := RX5) (T := TX5) (N := 9) hx hb hts iX5_install_X5 hown hK hP 0 rfl rfl 2 (by decide) (hts _ qX5_install_1) (fun _ h9 => h9) rfl dX5_install_1 ?_
  refine va_getN (host := RX5) (D := D) (ci := 0) (v := .int p) (C := RX0) (T := TX0) (N := 6) hx hb hts iX5_install_X0 hown hK hP 2 rfl rfl 1 (by decide) (zN_use hN 0 rfl) (fun _ h9 => h9) rfl dX5_install_4 ?_
  refine lv_if_ne (tgt := 13) hx hb dX5_install_7 (by decide) (fun c_7 => ?_) (fun c_7 => ?_)
  · -- 7 t
    refine lv_aload_n hx hb dX5_install_13 rfl (lv_at hl 0 rfl) ?_
    refine zVW (ws' := fun u => cW cI ad K v f p a st n k tb tl u.2 im md rn) (As := []) (rest := []) ⟨hx, hb, hml, hown, hts⟩ (k_X5_readStagedManifest l D cI ad K v f p a st n k tb tl ob im md rn) (cwV 0 hts gX5_install_X5_readStagedManifest rfl rfl rfl (by decide +kernel) ⟨Nat.le_of_ble_eq_true rfl, Nat.le_of_ble_eq_true rfl⟩) hP hK hN hD hS hA [0, 1, 2, 3, 4, 5, 6, 7, 8, 9, 10, 11] [] [] rfl (by decide) rfl (fun _ => rfl) (fun _ => rfl) (fun _ => rfl) rfl (va_recv hK hP (ci := 5) (q0 := 0) rfl rfl) rfl hl.1 rfl (Nat.le_of_ble_eq_true rfl) dX5_install_14 ⟨Nat.zero_le _, Nat.zero_le _⟩ (fun u_14 H locs hu_14 hP hD hS => ?_)
    obtain ⟨res_14, ob_14⟩ := u_14
    have hP : va_P D vwCl (cW cI ad K v f p a st n k tb tl ob_14 im md rn) _ := hP
    have hD : va_D A (cW cI ad K v f p a st n k tb tl ob_14 im md rn) := hD
    refine W.eq (g2 := F0 m 17 ls [.int res_14]) rfl ?_
    refine lv_if_ne (tgt := 23) hx hb dX5_install_17 (by decide) (fun c_17 => ?_) (fun c_17 => ?_)
    · -- 17 t
      obtain ⟨h6, h6b⟩ := z_rsm_len hu_14 c_17
      refine lv_aload_n hx hb dX5_install_23 rfl (lv_at hl 0 rfl) ?_
      refine lv_aload_n hx hb dX5_install_24 rfl (lv_at hl 0 rfl) ?_
      refine va_get (D := D) (ci := 5) (v := .ref (ad 8)) (C := RX5) (T := TX5) (N := 9) hx hb hts iX5_install_X5 hown hK hP 0 rfl rfl 6 (by decide) (hts _ qX5_install_2) (fun _ h9 => h9) rfl dX5_install_25 ?_
      refine zVR (As := []) (rest := [.ref (ad 0)]) ⟨hx, hb, hml, hown, hts⟩ (k_X1_sequence l D cI (ad 8) (ad 9) ob_14) (cwV 0 hts gX5_install_X1_sequence rfl rfl rfl (by decide +kernel) ⟨Nat.le_of_ble_eq_true rfl, Nat.le_of_ble_eq_true rfl⟩) hP hK hN [8, 9] rfl (va_recv hK hP (ci := 1) (q0 := 8) rfl rfl) rfl hl.1 rfl (Nat.le_of_ble_eq_true rfl) dX5_install_28 ⟨Nat.zero_le _, Nat.zero_le _⟩ ?_
      refine zVR (As := [.int (ob_14 1)]) (rest := []) ⟨hx, hb, hml, hown, hts⟩ (k_X5_isOld l D cI ad K v f p a st n k tb tl ob_14 im md rn (ob_14 1)) (cwV 1 hts gX5_install_X5_isOld rfl rfl rfl (by decide +kernel) ⟨Nat.le_of_ble_eq_true rfl, Nat.le_of_ble_eq_true rfl⟩) hP hK hN [0, 1, 2, 3, 4, 5, 6, 7, 8, 9, 10, 11] rfl (va_recv hK hP (ci := 5) (q0 := 0) rfl rfl) rfl hl.1 rfl (Nat.le_of_ble_eq_true rfl) dX5_install_31 ⟨Nat.zero_le _, Nat.zero_le _⟩ ?_
      refine lv_if_eq (tgt := 40) hx hb dX5_install_34 (by decide) (fun c_34 => ?_) (fun c_34 => ?_)
      · -- 34 t
        refine lv_aload_n hx hb dX5_install_40 rfl (lv_at hl 0 rfl) ?_
        refine zVR (As := []) (rest := []) ⟨hx, hb, hml, hown, hts⟩ (k_X5_isWhollyStaged l D cI ad K v f p a st n k tb tl ob_14 im md rn) (cwV 0 hts gX5_install_X5_isWhollyStaged rfl rfl rfl (by decide +kernel) ⟨Nat.le_of_ble_eq_true rfl, Nat.le_of_ble_eq_true rfl⟩) hP hK hN [0, 1, 2, 3, 4, 5, 6, 7, 8, 9, 10, 11] rfl (va_recv hK hP (ci := 5) (q0 := 0) rfl rfl) rfl hl.1 rfl (Nat.le_of_ble_eq_true rfl) dX5_install_41 ⟨Nat.zero_le _, Nat.zero_le _⟩ ?_
        refine lv_if_ne (tgt := 50) hx hb dX5_install_44 (by decide) (fun c_44 => ?_) (fun c_44 => ?_)
        · -- 44 t
          by_cases c_s : rn = 0
          · -- split 50 True
            refine lv_aload_n hx hb dX5_install_50 rfl (lv_at hl 0 rfl) ?_
            refine lv_aload_n hx hb dX5_install_51 rfl (lv_at hl 0 rfl) ?_
            refine lv_aload_n hx hb dX5_install_52 rfl (lv_at hl 0 rfl) ?_
            refine va_get (D := D) (ci := 5) (v := .int rn) (C := RX5) (T := TX5) (N := 9) hx hb hts iX5_install_X5 hown hK hP 0 rfl rfl 8 (by decide) (hts _ qX5_install_3) (fun _ h9 => h9) rfl dX5_install_53 ?_
            refine zVR (As := [.int rn]) (rest := [.ref (ad 0)]) ⟨hx, hb, hml, hown, hts⟩ (k_X5_slot l D cI ad K v f p a st n k tb tl ob_14 im md rn rn) (cwV 1 hts gX5_install_X5_slot rfl rfl rfl (by decide +kernel) ⟨Nat.le_of_ble_eq_true rfl, Nat.le_of_ble_eq_true rfl⟩) hP hK hN [0, 1, 2, 3, 4, 5, 6, 7, 8, 9, 10, 11] rfl (va_recv hK hP (ci := 5) (q0 := 0) rfl rfl) rfl hl.1 rfl (Nat.le_of_ble_eq_true rfl) dX5_install_56 ⟨Nat.zero_le _, Nat.zero_le _⟩ ?_
            refine z_topR (v := (ad 6)) (by rw [z_slot, if_pos c_s]) ?_
            refine zVW (ws' := fun u => cW cI ad K v f p a st n k tb tl ob_14 u.2.1 u.2.2 rn) (As := [.ref (ad 6)]) (rest := []) ⟨hx, hb, hml, hown, hts⟩ (k_X5_makeImage_6 l D cI ad K v f p a st n k tb tl ob_14 im md rn h6 h6b hB) (cwV 1 hts gX5_install_X5_makeImage rfl rfl rfl (by decide +kernel) ⟨Nat.le_of_ble_eq_true rfl, Nat.le_of_ble_eq_true rfl⟩) hP hK hN hD hS hA [0, 1, 2, 3, 4, 5, 6, 7, 8, 9, 10, 11] [] [] rfl (by decide) rfl (fun _ => rfl) (fun _ => rfl) (fun _ => rfl) rfl (va_recv hK hP (ci := 5) (q0 := 0) rfl rfl) rfl hl.1 rfl (Nat.le_of_ble_eq_true rfl) dX5_install_59 ⟨Nat.zero_le _, Nat.zero_le _⟩ (fun u_59 H locs hu_59 hP hD hS => ?_)
            obtain ⟨res_59, im_59, md_59⟩ := u_59
            have hP : va_P D vwCl (cW cI ad K v f p a st n k tb tl ob_14 im_59 md_59 rn) _ := hP
            have hD : va_D A (cW cI ad K v f p a st n k tb tl ob_14 im_59 md_59 rn) := hD
            refine W.eq (g2 := F0 m 62 ls [.int res_59]) rfl ?_
            refine lv_if_ne (tgt := 68) hx hb dX5_install_62 (by decide) (fun c_62 => ?_) (fun c_62 => ?_)
            · -- 62 t
              by_cases c_s2 : 1 - rn = 0
              · -- split 68 True
                refine lv_aload_n hx hb dX5_install_68 rfl (lv_at hl 0 rfl) ?_
                refine lv_aload_n hx hb dX5_install_69 rfl (lv_at hl 0 rfl) ?_
                refine lv_iconst (v := 1) hx hb dX5_install_70 (by decide) ?_
                refine lv_aload_n hx hb dX5_install_71 rfl (lv_at hl 0 rfl) ?_
                refine va_get (D := D) (ci := 5) (v := .int rn) (C := RX5) (T := TX5) (N := 9) hx hb hts iX5_install_X5 hown hK hP 0 rfl rfl 8 (by decide) (hts _ qX5_install_3) (fun _ h9 => h9) rfl dX5_install_72 ?_
                refine lv_isub hx hb dX5_install_75 ?_
                refine zVR (As := [.int (1 - rn)]) (rest := [.ref (ad 0)]) ⟨hx, hb, hml, hown, hts⟩ (k_X5_slot l D cI ad K v f p a st n k tb tl ob_14 im_59 md_59 rn (1 - rn)) (cwV 1 hts gX5_install_X5_slot rfl rfl rfl (by decide +kernel) ⟨Nat.le_of_ble_eq_true rfl, Nat.le_of_ble_eq_true rfl⟩) hP hK hN [0, 1, 2, 3, 4, 5, 6, 7, 8, 9, 10, 11] rfl (va_recv hK hP (ci := 5) (q0 := 0) rfl rfl) rfl hl.1 rfl (Nat.le_of_ble_eq_true rfl) dX5_install_76 ⟨Nat.zero_le _, Nat.zero_le _⟩ ?_
                refine z_topR (v := (ad 6)) (by rw [z_slot, if_pos c_s2]) ?_
                refine zVW (ws' := fun u => cW cI ad K v u.1 u.2.1 u.2.2.1 u.2.2.2.1 u.2.2.2.2.1 u.2.2.2.2.2 tb tl ob_14 im_59 md_59 rn) (As := [.ref (ad 6)]) (rest := []) ⟨hx, hb, hml, hown, hts⟩ (k_X5_programUpdate_6 l D cI ad K v f p a st n k tb tl ob_14 im_59 md_59 rn) (cwV 1 hts gX5_install_X5_programUpdate rfl rfl rfl (by decide +kernel) ⟨Nat.le_of_ble_eq_true rfl, Nat.le_of_ble_eq_true rfl⟩) hP hK hN hD hS hA [0, 1, 2, 3, 4, 5, 6, 7, 8, 9, 10, 11] [] [] rfl (by decide) rfl (fun _ => rfl) (fun _ => rfl) (fun _ => rfl) rfl (va_recv hK hP (ci := 5) (q0 := 0) rfl rfl) rfl hl.1 rfl (Nat.le_of_ble_eq_true rfl) dX5_install_79 ⟨Nat.zero_le _, Nat.zero_le _⟩ (fun u_79 H locs hu_79 hP hD hS => ?_)
                obtain ⟨f_79, p_79, a_79, st_79, n_79, k_79⟩ := u_79
                have hP : va_P D vwCl (cW cI ad K v f_79 p_79 a_79 st_79 n_79 k_79 tb tl ob_14 im_59 md_59 rn) _ := hP
                have hD : va_D A (cW cI ad K v f_79 p_79 a_79 st_79 n_79 k_79 tb tl ob_14 im_59 md_59 rn) := hD
                refine W.eq (g2 := F0 m 82 ls []) rfl ?_
                refine lv_aload_n hx hb dX5_install_82 rfl (lv_at hl 0 rfl) ?_
                refine lv_iconst (v := 1) hx hb dX5_install_83 (by decide) ?_
                refine zVW (ws' := fun u => cW cI ad K v f_79 p_79 a_79 st_79 n_79 k_79 tb tl ob_14 im_59 md_59 u.2) (As := [.int 1]) (rest := []) ⟨hx, hb, hml, hown, hts⟩ (k_X5_unlessTorn l D cI ad K v f_79 p_79 a_79 st_79 n_79 k_79 tb tl ob_14 im_59 md_59 rn 1) (cwV 1 hts gX5_install_X5_unlessTorn rfl rfl rfl (by decide +kernel) ⟨Nat.le_of_ble_eq_true rfl, Nat.le_of_ble_eq_true rfl⟩) hP hK hN hD hS hA [0, 1, 2, 3, 4, 5, 6, 7, 8, 9, 10, 11] [] [] rfl (by decide) rfl (fun _ => rfl) (fun _ => rfl) (fun _ => rfl) rfl (va_recv hK hP (ci := 5) (q0 := 0) rfl rfl) rfl hl.1 rfl (Nat.le_of_ble_eq_true rfl) dX5_install_84 ⟨Nat.zero_le _, Nat.zero_le _⟩ (fun u_84 H locs hu_84 hP hD hS => ?_)
                obtain ⟨res_84, rn_84⟩ := u_84
                have hP : va_P D vwCl (cW cI ad K v f_79 p_79 a_79 st_79 n_79 k_79 tb tl ob_14 im_59 md_59 rn_84) _ := hP
                have hD : va_D A (cW cI ad K v f_79 p_79 a_79 st_79 n_79 k_79 tb tl ob_14 im_59 md_59 rn_84) := hD
                refine W.eq (g2 := F0 m 87 ls [.int res_84]) rfl ?_
                exact hret 87 ls _ _ (res_84, ob_14, f_79, p_79, a_79, st_79, n_79, k_79, im_59, md_59, rn_84) res_84 _ dX5_install_87 rfl rfl rfl (by simp only [c_install, c_ins2, c_ins3, c_ins4, ← hu_14, ← hu_59, ← hu_79, ← hu_84, if_neg c_7, if_neg c_17, if_pos c_34, if_neg c_44, if_pos c_s, if_neg c_62, if_pos c_s2]) hP hS
              · -- split 68 False
                refine lv_aload_n hx hb dX5_install_68 rfl (lv_at hl 0 rfl) ?_
                refine lv_aload_n hx hb dX5_install_69 rfl (lv_at hl 0 rfl) ?_
                refine lv_iconst (v := 1) hx hb dX5_install_70 (by decide) ?_
                refine lv_aload_n hx hb dX5_install_71 rfl (lv_at hl 0 rfl) ?_
                refine va_get (D := D) (ci := 5) (v := .int rn) (C := RX5) (T := TX5) (N := 9) hx hb hts iX5_install_X5 hown hK hP 0 rfl rfl 8 (by decide) (hts _ qX5_install_3) (fun _ h9 => h9) rfl dX5_install_72 ?_
                refine lv_isub hx hb dX5_install_75 ?_
                refine zVR (As := [.int (1 - rn)]) (rest := [.ref (ad 0)]) ⟨hx, hb, hml, hown, hts⟩ (k_X5_slot l D cI ad K v f p a st n k tb tl ob_14 im_59 md_59 rn (1 - rn)) (cwV 1 hts gX5_install_X5_slot rfl rfl rfl (by decide +kernel) ⟨Nat.le_of_ble_eq_true rfl, Nat.le_of_ble_eq_true rfl⟩) hP hK hN [0, 1, 2, 3, 4, 5, 6, 7, 8, 9, 10, 11] rfl (va_recv hK hP (ci := 5) (q0 := 0) rfl rfl) rfl hl.1 rfl (Nat.le_of_ble_eq_true rfl) dX5_install_76 ⟨Nat.zero_le _, Nat.zero_le _⟩ ?_
                refine z_topR (v := (ad 7)) (by rw [z_slot, if_neg c_s2]) ?_
                refine zVW (ws' := fun u => cW cI ad K v u.1 u.2.1 u.2.2.1 u.2.2.2.1 u.2.2.2.2.1 u.2.2.2.2.2 tb tl ob_14 im_59 md_59 rn) (As := [.ref (ad 7)]) (rest := []) ⟨hx, hb, hml, hown, hts⟩ (k_X5_programUpdate_7 l D cI ad K v f p a st n k tb tl ob_14 im_59 md_59 rn) (cwV 1 hts gX5_install_X5_programUpdate rfl rfl rfl (by decide +kernel) ⟨Nat.le_of_ble_eq_true rfl, Nat.le_of_ble_eq_true rfl⟩) hP hK hN hD hS hA [0, 1, 2, 3, 4, 5, 6, 7, 8, 9, 10, 11] [] [] rfl (by decide) rfl (fun _ => rfl) (fun _ => rfl) (fun _ => rfl) rfl (va_recv hK hP (ci := 5) (q0 := 0) rfl rfl) rfl hl.1 rfl (Nat.le_of_ble_eq_true rfl) dX5_install_79 ⟨Nat.zero_le _, Nat.zero_le _⟩ (fun u_79 H locs hu_79 hP hD hS => ?_)
                obtain ⟨f_79, p_79, a_79, st_79, n_79, k_79⟩ := u_79
                have hP : va_P D vwCl (cW cI ad K v f_79 p_79 a_79 st_79 n_79 k_79 tb tl ob_14 im_59 md_59 rn) _ := hP
                have hD : va_D A (cW cI ad K v f_79 p_79 a_79 st_79 n_79 k_79 tb tl ob_14 im_59 md_59 rn) := hD
                refine W.eq (g2 := F0 m 82 ls []) rfl ?_
                refine lv_aload_n hx hb dX5_install_82 rfl (lv_at hl 0 rfl) ?_
                refine lv_iconst (v := 1) hx hb dX5_install_83 (by decide) ?_
                refine zVW (ws' := fun u => cW cI ad K v f_79 p_79 a_79 st_79 n_79 k_79 tb tl ob_14 im_59 md_59 u.2) (As := [.int 1]) (rest := []) ⟨hx, hb, hml, hown, hts⟩ (k_X5_unlessTorn l D cI ad K v f_79 p_79 a_79 st_79 n_79 k_79 tb tl ob_14 im_59 md_59 rn 1) (cwV 1 hts gX5_install_X5_unlessTorn rfl rfl rfl (by decide +kernel) ⟨Nat.le_of_ble_eq_true rfl, Nat.le_of_ble_eq_true rfl⟩) hP hK hN hD hS hA [0, 1, 2, 3, 4, 5, 6, 7, 8, 9, 10, 11] [] [] rfl (by decide) rfl (fun _ => rfl) (fun _ => rfl) (fun _ => rfl) rfl (va_recv hK hP (ci := 5) (q0 := 0) rfl rfl) rfl hl.1 rfl (Nat.le_of_ble_eq_true rfl) dX5_install_84 ⟨Nat.zero_le _, Nat.zero_le _⟩ (fun u_84 H locs hu_84 hP hD hS => ?_)
                obtain ⟨res_84, rn_84⟩ := u_84
                have hP : va_P D vwCl (cW cI ad K v f_79 p_79 a_79 st_79 n_79 k_79 tb tl ob_14 im_59 md_59 rn_84) _ := hP
                have hD : va_D A (cW cI ad K v f_79 p_79 a_79 st_79 n_79 k_79 tb tl ob_14 im_59 md_59 rn_84) := hD
                refine W.eq (g2 := F0 m 87 ls [.int res_84]) rfl ?_
                exact hret 87 ls _ _ (res_84, ob_14, f_79, p_79, a_79, st_79, n_79, k_79, im_59, md_59, rn_84) res_84 _ dX5_install_87 rfl rfl rfl (by simp only [c_install, c_ins2, c_ins3, c_ins4, ← hu_14, ← hu_59, ← hu_79, ← hu_84, if_neg c_7, if_neg c_17, if_pos c_34, if_neg c_44, if_pos c_s, if_neg c_62, if_neg c_s2]) hP hS
            · -- 62 f
              refine lv_bipush (v := (-6)) hx hb dX5_install_65 (by decide) ?_
              exact hret 67 ls _ _ ((-6), ob_14, f, p, a, st, n, k, im_59, md_59, rn) (-6) _ dX5_install_67 rfl rfl rfl (by simp only [c_install, c_ins2, c_ins3, c_ins4, ← hu_14, ← hu_59, if_neg c_7, if_neg c_17, if_pos c_34, if_neg c_44, if_pos c_s, if_pos c_62]) hP hS
          · -- split 50 False
            refine lv_aload_n hx hb dX5_install_50 rfl (lv_at hl 0 rfl) ?_
            refine lv_aload_n hx hb dX5_install_51 rfl (lv_at hl 0 rfl) ?_
            refine lv_aload_n hx hb dX5_install_52 rfl (lv_at hl 0 rfl) ?_
            refine va_get (D := D) (ci := 5) (v := .int rn) (C := RX5) (T := TX5) (N := 9) hx hb hts iX5_install_X5 hown hK hP 0 rfl rfl 8 (by decide) (hts _ qX5_install_3) (fun _ h9 => h9) rfl dX5_install_53 ?_
            refine zVR (As := [.int rn]) (rest := [.ref (ad 0)]) ⟨hx, hb, hml, hown, hts⟩ (k_X5_slot l D cI ad K v f p a st n k tb tl ob_14 im md rn rn) (cwV 1 hts gX5_install_X5_slot rfl rfl rfl (by decide +kernel) ⟨Nat.le_of_ble_eq_true rfl, Nat.le_of_ble_eq_true rfl⟩) hP hK hN [0, 1, 2, 3, 4, 5, 6, 7, 8, 9, 10, 11] rfl (va_recv hK hP (ci := 5) (q0 := 0) rfl rfl) rfl hl.1 rfl (Nat.le_of_ble_eq_true rfl) dX5_install_56 ⟨Nat.zero_le _, Nat.zero_le _⟩ ?_
            refine z_topR (v := (ad 7)) (by rw [z_slot, if_neg c_s]) ?_
            refine zVW (ws' := fun u => cW cI ad K v f p a st n k tb tl ob_14 u.2.1 u.2.2 rn) (As := [.ref (ad 7)]) (rest := []) ⟨hx, hb, hml, hown, hts⟩ (k_X5_makeImage_7 l D cI ad K v f p a st n k tb tl ob_14 im md rn h6 h6b hB) (cwV 1 hts gX5_install_X5_makeImage rfl rfl rfl (by decide +kernel) ⟨Nat.le_of_ble_eq_true rfl, Nat.le_of_ble_eq_true rfl⟩) hP hK hN hD hS hA [0, 1, 2, 3, 4, 5, 6, 7, 8, 9, 10, 11] [] [] rfl (by decide) rfl (fun _ => rfl) (fun _ => rfl) (fun _ => rfl) rfl (va_recv hK hP (ci := 5) (q0 := 0) rfl rfl) rfl hl.1 rfl (Nat.le_of_ble_eq_true rfl) dX5_install_59 ⟨Nat.zero_le _, Nat.zero_le _⟩ (fun u_59 H locs hu_59 hP hD hS => ?_)
            obtain ⟨res_59, im_59, md_59⟩ := u_59
            have hP : va_P D vwCl (cW cI ad K v f p a st n k tb tl ob_14 im_59 md_59 rn) _ := hP
            have hD : va_D A (cW cI ad K v f p a st n k tb tl ob_14 im_59 md_59 rn) := hD
            refine W.eq (g2 := F0 m 62 ls [.int res_59]) rfl ?_
            refine lv_if_ne (tgt := 68) hx hb dX5_install_62 (by decide) (fun c_62 => ?_) (fun c_62 => ?_)
            · -- 62 t
              by_cases c_s2 : 1 - rn = 0
              · -- split 68 True
                refine lv_aload_n hx hb dX5_install_68 rfl (lv_at hl 0 rfl) ?_
                refine lv_aload_n hx hb dX5_install_69 rfl (lv_at hl 0 rfl) ?_
                refine lv_iconst (v := 1) hx hb dX5_install_70 (by decide) ?_
                refine lv_aload_n hx hb dX5_install_71 rfl (lv_at hl 0 rfl) ?_
                refine va_get (D := D) (ci := 5) (v := .int rn) (C := RX5) (T := TX5) (N := 9) hx hb hts iX5_install_X5 hown hK hP 0 rfl rfl 8 (by decide) (hts _ qX5_install_3) (fun _ h9 => h9) rfl dX5_install_72 ?_
                refine lv_isub hx hb dX5_install_75 ?_
                refine zVR (As := [.int (1 - rn)]) (rest := [.ref (ad 0)]) ⟨hx, hb, hml, hown, hts⟩ (k_X5_slot l D cI ad K v f p a st n k tb tl ob_14 im_59 md_59 rn (1 - rn)) (cwV 1 hts gX5_install_X5_slot rfl rfl rfl (by decide +kernel) ⟨Nat.le_of_ble_eq_true rfl, Nat.le_of_ble_eq_true rfl⟩) hP hK hN [0, 1, 2, 3, 4, 5, 6, 7, 8, 9, 10, 11] rfl (va_recv hK hP (ci := 5) (q0 := 0) rfl rfl) rfl hl.1 rfl (Nat.le_of_ble_eq_true rfl) dX5_install_76 ⟨Nat.zero_le _, Nat.zero_le _⟩ ?_
                refine z_topR (v := (ad 6)) (by rw [z_slot, if_pos c_s2]) ?_
                refine zVW (ws' := fun u => cW cI ad K v u.1 u.2.1 u.2.2.1 u.2.2.2.1 u.2.2.2.2.1 u.2.2.2.2.2 tb tl ob_14 im_59 md_59 rn) (As := [.ref (ad 6)]) (rest := []) ⟨hx, hb, hml, hown, hts⟩ (k_X5_programUpdate_6 l D cI ad K v f p a st n k tb tl ob_14 im_59 md_59 rn) (cwV 1 hts gX5_install_X5_programUpdate rfl rfl rfl (by decide +kernel) ⟨Nat.le_of_ble_eq_true rfl, Nat.le_of_ble_eq_true rfl⟩) hP hK hN hD hS hA [0, 1, 2, 3, 4, 5, 6, 7, 8, 9, 10, 11] [] [] rfl (by decide) rfl (fun _ => rfl) (fun _ => rfl) (fun _ => rfl) rfl (va_recv hK hP (ci := 5) (q0 := 0) rfl rfl) rfl hl.1 rfl (Nat.le_of_ble_eq_true rfl) dX5_install_79 ⟨Nat.zero_le _, Nat.zero_le _⟩ (fun u_79 H locs hu_79 hP hD hS => ?_)
                obtain ⟨f_79, p_79, a_79, st_79, n_79, k_79⟩ := u_79
                have hP : va_P D vwCl (cW cI ad K v f_79 p_79 a_79 st_79 n_79 k_79 tb tl ob_14 im_59 md_59 rn) _ := hP
                have hD : va_D A (cW cI ad K v f_79 p_79 a_79 st_79 n_79 k_79 tb tl ob_14 im_59 md_59 rn) := hD
                refine W.eq (g2 := F0 m 82 ls []) rfl ?_
                refine lv_aload_n hx hb dX5_install_82 rfl (lv_at hl 0 rfl) ?_
                refine lv_iconst (v := 1) hx hb dX5_install_83 (by decide) ?_
                refine zVW (ws' := fun u => cW cI ad K v f_79 p_79 a_79 st_79 n_79 k_79 tb tl ob_14 im_59 md_59 u.2) (As := [.int 1]) (rest := []) ⟨hx, hb, hml, hown, hts⟩ (k_X5_unlessTorn l D cI ad K v f_79 p_79 a_79 st_79 n_79 k_79 tb tl ob_14 im_59 md_59 rn 1) (cwV 1 hts gX5_install_X5_unlessTorn rfl rfl rfl (by decide +kernel) ⟨Nat.le_of_ble_eq_true rfl, Nat.le_of_ble_eq_true rfl⟩) hP hK hN hD hS hA [0, 1, 2, 3, 4, 5, 6, 7, 8, 9, 10, 11] [] [] rfl (by decide) rfl (fun _ => rfl) (fun _ => rfl) (fun _ => rfl) rfl (va_recv hK hP (ci := 5) (q0 := 0) rfl rfl) rfl hl.1 rfl (Nat.le_of_ble_eq_true rfl) dX5_install_84 ⟨Nat.zero_le _, Nat.zero_le _⟩ (fun u_84 H locs hu_84 hP hD hS => ?_)
                obtain ⟨res_84, rn_84⟩ := u_84
                have hP : va_P D vwCl (cW cI ad K v f_79 p_79 a_79 st_79 n_79 k_79 tb tl ob_14 im_59 md_59 rn_84) _ := hP
                have hD : va_D A (cW cI ad K v f_79 p_79 a_79 st_79 n_79 k_79 tb tl ob_14 im_59 md_59 rn_84) := hD
                refine W.eq (g2 := F0 m 87 ls [.int res_84]) rfl ?_
                exact hret 87 ls _ _ (res_84, ob_14, f_79, p_79, a_79, st_79, n_79, k_79, im_59, md_59, rn_84) res_84 _ dX5_install_87 rfl rfl rfl (by simp only [c_install, c_ins2, c_ins3, c_ins4, ← hu_14, ← hu_59, ← hu_79, ← hu_84, if_neg c_7, if_neg c_17, if_pos c_34, if_neg c_44, if_neg c_s, if_neg c_62, if_pos c_s2]) hP hS
              · -- split 68 False
                refine lv_aload_n hx hb dX5_install_68 rfl (lv_at hl 0 rfl) ?_
                refine lv_aload_n hx hb dX5_install_69 rfl (lv_at hl 0 rfl) ?_
                refine lv_iconst (v := 1) hx hb dX5_install_70 (by decide) ?_
                refine lv_aload_n hx hb dX5_install_71 rfl (lv_at hl 0 rfl) ?_
                refine va_get (D := D) (ci := 5) (v := .int rn) (C := RX5) (T := TX5) (N := 9) hx hb hts iX5_install_X5 hown hK hP 0 rfl rfl 8 (by decide) (hts _ qX5_install_3) (fun _ h9 => h9) rfl dX5_install_72 ?_
                refine lv_isub hx hb dX5_install_75 ?_
                refine zVR (As := [.int (1 - rn)]) (rest := [.ref (ad 0)]) ⟨hx, hb, hml, hown, hts⟩ (k_X5_slot l D cI ad K v f p a st n k tb tl ob_14 im_59 md_59 rn (1 - rn)) (cwV 1 hts gX5_install_X5_slot rfl rfl rfl (by decide +kernel) ⟨Nat.le_of_ble_eq_true rfl, Nat.le_of_ble_eq_true rfl⟩) hP hK hN [0, 1, 2, 3, 4, 5, 6, 7, 8, 9, 10, 11] rfl (va_recv hK hP (ci := 5) (q0 := 0) rfl rfl) rfl hl.1 rfl (Nat.le_of_ble_eq_true rfl) dX5_install_76 ⟨Nat.zero_le _, Nat.zero_le _⟩ ?_
                refine z_topR (v := (ad 7)) (by rw [z_slot, if_neg c_s2]) ?_
                refine zVW (ws' := fun u => cW cI ad K v u.1 u.2.1 u.2.2.1 u.2.2.2.1 u.2.2.2.2.1 u.2.2.2.2.2 tb tl ob_14 im_59 md_59 rn) (As := [.ref (ad 7)]) (rest := []) ⟨hx, hb, hml, hown, hts⟩ (k_X5_programUpdate_7 l D cI ad K v f p a st n k tb tl ob_14 im_59 md_59 rn) (cwV 1 hts gX5_install_X5_programUpdate rfl rfl rfl (by decide +kernel) ⟨Nat.le_of_ble_eq_true rfl, Nat.le_of_ble_eq_true rfl⟩) hP hK hN hD hS hA [0, 1, 2, 3, 4, 5, 6, 7, 8, 9, 10, 11] [] [] rfl (by decide) rfl (fun _ => rfl) (fun _ => rfl) (fun _ => rfl) rfl (va_recv hK hP (ci := 5) (q0 := 0) rfl rfl) rfl hl.1 rfl (Nat.le_of_ble_eq_true rfl) dX5_install_79 ⟨Nat.zero_le _, Nat.zero_le _⟩ (fun u_79 H locs hu_79 hP hD hS => ?_)
                obtain ⟨f_79, p_79, a_79, st_79, n_79, k_79⟩ := u_79
                have hP : va_P D vwCl (cW cI ad K v f_79 p_79 a_79 st_79 n_79 k_79 tb tl ob_14 im_59 md_59 rn) _ := hP
                have hD : va_D A (cW cI ad K v f_79 p_79 a_79 st_79 n_79 k_79 tb tl ob_14 im_59 md_59 rn) := hD
                refine W.eq (g2 := F0 m 82 ls []) rfl ?_
                refine lv_aload_n hx hb dX5_install_82 rfl (lv_at hl 0 rfl) ?_
                refine lv_iconst (v := 1) hx hb dX5_install_83 (by decide) ?_
                refine zVW (ws' := fun u => cW cI ad K v f_79 p_79 a_79 st_79 n_79 k_79 tb tl ob_14 im_59 md_59 u.2) (As := [.int 1]) (rest := []) ⟨hx, hb, hml, hown, hts⟩ (k_X5_unlessTorn l D cI ad K v f_79 p_79 a_79 st_79 n_79 k_79 tb tl ob_14 im_59 md_59 rn 1) (cwV 1 hts gX5_install_X5_unlessTorn rfl rfl rfl (by decide +kernel) ⟨Nat.le_of_ble_eq_true rfl, Nat.le_of_ble_eq_true rfl⟩) hP hK hN hD hS hA [0, 1, 2, 3, 4, 5, 6, 7, 8, 9, 10, 11] [] [] rfl (by decide) rfl (fun _ => rfl) (fun _ => rfl) (fun _ => rfl) rfl (va_recv hK hP (ci := 5) (q0 := 0) rfl rfl) rfl hl.1 rfl (Nat.le_of_ble_eq_true rfl) dX5_install_84 ⟨Nat.zero_le _, Nat.zero_le _⟩ (fun u_84 H locs hu_84 hP hD hS => ?_)
                obtain ⟨res_84, rn_84⟩ := u_84
                have hP : va_P D vwCl (cW cI ad K v f_79 p_79 a_79 st_79 n_79 k_79 tb tl ob_14 im_59 md_59 rn_84) _ := hP
                have hD : va_D A (cW cI ad K v f_79 p_79 a_79 st_79 n_79 k_79 tb tl ob_14 im_59 md_59 rn_84) := hD
                refine W.eq (g2 := F0 m 87 ls [.int res_84]) rfl ?_
                exact hret 87 ls _ _ (res_84, ob_14, f_79, p_79, a_79, st_79, n_79, k_79, im_59, md_59, rn_84) res_84 _ dX5_install_87 rfl rfl rfl (by simp only [c_install, c_ins2, c_ins3, c_ins4, ← hu_14, ← hu_59, ← hu_79, ← hu_84, if_neg c_7, if_neg c_17, if_pos c_34, if_neg c_44, if_neg c_s, if_neg c_62, if_neg c_s2]) hP hS
            · -- 62 f
              refine lv_bipush (v := (-6)) hx hb dX5_install_65 (by decide) ?_
              exact hret 67 ls _ _ ((-6), ob_14, f, p, a, st, n, k, im_59, md_59, rn) (-6) _ dX5_install_67 rfl rfl rfl (by simp only [c_install, c_ins2, c_ins3, c_ins4, ← hu_14, ← hu_59, if_neg c_7, if_neg c_17, if_pos c_34, if_neg c_44, if_neg c_s, if_pos c_62]) hP hS
        · -- 44 f
          refine lv_bipush (v := (-5)) hx hb dX5_install_47 (by decide) ?_
          exact hret 49 ls _ _ ((-5), ob_14, f, p, a, st, n, k, im, md, rn) (-5) _ dX5_install_49 rfl rfl rfl (by simp only [c_install, c_ins2, c_ins3, c_ins4, ← hu_14, if_neg c_7, if_neg c_17, if_pos c_34, if_pos c_44]) hP hS
      · -- 34 f
        refine lv_bipush (v := (-3)) hx hb dX5_install_37 (by decide) ?_
        exact hret 39 ls _ _ ((-3), ob_14, f, p, a, st, n, k, im, md, rn) (-3) _ dX5_install_39 rfl rfl rfl (by simp only [c_install, c_ins2, c_ins3, c_ins4, ← hu_14, if_neg c_7, if_neg c_17, if_neg c_34]) hP hS
    · -- 17 f
      refine lv_bipush (v := (-7)) hx hb dX5_install_20 (by decide) ?_
      exact hret 22 ls _ _ ((-7), ob_14, f, p, a, st, n, k, im, md, rn) (-7) _ dX5_install_22 rfl rfl rfl (by simp only [c_install, c_ins2, c_ins3, c_ins4, ← hu_14, if_neg c_7, if_pos c_17]) hP hS
  · -- 7 f
    refine lv_bipush (v := (-2)) hx hb dX5_install_10 (by decide) ?_
    exact hret 12 ls _ _ ((-2), ob, f, p, a, st, n, k, im, md, rn) (-2) _ dX5_install_12 rfl rfl rfl (by simp only [c_install, c_ins2, c_ins3, c_ins4, if_pos c_7]) hP hS
abbrev rm_X5_boot : Room := { frames := 6, cells := 0, slots := 0, locals := 128 }
set_option maxRecDepth 20000 in
theorem qX5_boot_1 : (Cond.fieldLink RX5 12 "FlashBoot" "flash" "LFlashBoot$Flash;" : Cond) ∈ wsX5_boot := List.mem_of_getElem? (i := 1) rfl
set_option maxRecDepth 20000 in
theorem iX5_boot_X5 : ∀ w ∈ wsX50, w ∈ wsX5_boot := by decide +kernel
set_option maxRecDepth 20000 in
theorem iX5_boot_X0 : ∀ w ∈ wsX00, w ∈ wsX5_boot := by decide +kernel
set_option maxRecDepth 20000 in
theorem qX5_boot_2 : (Cond.fieldLink RX5 49 "FlashBoot" "runs" "I" : Cond) ∈ wsX5_boot := List.mem_of_getElem? (i := 2) rfl
set_option maxHeartbeats 4000000 in
set_option maxRecDepth 100000 in
theorem k_X5_boot (l : Launch) (D : va_G) (cI : ClassId) (ad : Nat → Nat) (K : RW) (v : Int32) (f : RW) (p : Int32) (a : Int32) (st : Int32) (n : Int32) (k : Int32) (tb : RW) (tl : Nat) (ob : RW) (im : RW) (md : Nat) (rn : Int32)   : zMW (S := Int32 × RW × Int32 × Int32 × Int32 × Int32 × Int32 × Int32) l D cI yX5_boot wsX5_boot rm_X5_boot [.ref (ad 0)] (cW cI ad K v f p a st n k tb tl ob im md rn) (c_boot (f, p, a, st, n, k)) (fun u => some (.int u.1)) (fun u => cW cI ad K v u.2.1 u.2.2.1 u.2.2.2.1 u.2.2.2.2.1 u.2.2.2.2.2.1 u.2.2.2.2.2.2.1 tb tl ob im md u.2.2.2.2.2.2.2) := by
  refine zEntW (cc := cX5_boot) (maxL := 1) (ret := (some .int)) (own := RX5) (lvs := [(0, .ref (ad 0))]) (by decide) rfl rfl (Nat.le_of_ble_eq_true rfl) rfl ?_
  intro p0 e s m args below meth c Q ls A hx hb hml hts hown hP hK hN hD hS hA hl hret hretV
  refine lv_aload_n hx hb dX5_boot_0 rfl (lv_at hl 0 rfl) ?_
  refine va_get (D := D) (ci := 5) (v := .ref (ad 2)) (C := RX5) (T := TX5) (N := 9) hx hb hts iX5_boot_X5 hown hK hP 0 rfl rfl 2 (by decide) (hts _ qX5_boot_1) (fun _ h9 => h9) rfl dX5_boot_1 ?_
  refine lv_iconst (v := 1) hx hb dX5_boot_4 (by decide) ?_
  refine va_putN (host := RX5) (D := D) (ci := 0) (v := .int 1) (ty := .boolean) (C := RX0) (T := TX0) (N := 6) hx hb hts iX5_boot_X0 tyX0 tyX0_ok nmX0 hown hK hP hD hS 2 rfl rfl 1 (by decide) (zN_use hN 0 rfl) (fun _ h9 => h9) rfl (by decide +kernel) rfl rfl (Nat.le_of_ble_eq_true rfl) dX5_boot_5 (fun H locs hP hD hS => ?_)
  have hP : va_P D vwCl (cW cI ad K v f 1 a st n k tb tl ob im md rn) _ := hP
  have hD : va_D A (cW cI ad K v f 1 a st n k tb tl ob im md rn) := hD
  refine lv_aload_n hx hb dX5_boot_8 rfl (lv_at hl 0 rfl) ?_
  refine lv_aload_n hx hb dX5_boot_9 rfl (lv_at hl 0 rfl) ?_
  refine zVR (As := []) (rest := [.ref (ad 0)]) ⟨hx, hb, hml, hown, hts⟩ (k_X5_slotOnTrial l D cI ad K v f 1 a st n k tb tl ob im md rn) (cwV 0 hts gX5_boot_X5_slotOnTrial rfl rfl rfl (by decide +kernel) ⟨Nat.le_of_ble_eq_true rfl, Nat.le_of_ble_eq_true rfl⟩) hP hK hN [0, 1, 2, 3, 4, 5, 6, 7, 8, 9, 10, 11] rfl (va_recv hK hP (ci := 5) (q0 := 0) rfl rfl) rfl hl.1 rfl (Nat.le_of_ble_eq_true rfl) dX5_boot_10 ⟨Nat.zero_le _, Nat.zero_le _⟩ ?_
  refine va_put (D := D) (ci := 5) (v := .int (z_onTrial f)) (ty := .int) (C := RX5) (T := TX5) (N := 9) hx hb hts iX5_boot_X5 tyX5 tyX5_ok nmX5 hown hK hP hD hS 0 rfl rfl 8 (by decide) (hts _ qX5_boot_2) (fun _ h9 => h9) rfl (by decide +kernel) rfl rfl (Nat.le_of_ble_eq_true rfl) dX5_boot_13 (fun H locs hP hD hS => ?_)
  have hP : va_P D vwCl (cW cI ad K v f 1 a st n k tb tl ob im md (z_onTrial f)) _ := hP
  have hD : va_D A (cW cI ad K v f 1 a st n k tb tl ob im md (z_onTrial f)) := hD
  refine lv_aload_n hx hb dX5_boot_16 rfl (lv_at hl 0 rfl) ?_
  refine va_get (D := D) (ci := 5) (v := .int (z_onTrial f)) (C := RX5) (T := TX5) (N := 9) hx hb hts iX5_boot_X5 hown hK hP 0 rfl rfl 8 (by decide) (hts _ qX5_boot_2) (fun _ h9 => h9) rfl dX5_boot_17 ?_
  refine lv_bipush (v := (-7)) hx hb dX5_boot_20 (by decide) ?_
  refine lv_icmp_ne (tgt := 38) hx hb dX5_boot_22 (by decide) (fun c_22 => ?_) (fun c_22 => ?_)
  · -- 22 t
    by_cases c_s : (z_onTrial f) = 0
    · -- split 38 True
      refine lv_aload_n hx hb dX5_boot_38 rfl (lv_at hl 0 rfl) ?_
      refine lv_aload_n hx hb dX5_boot_39 rfl (lv_at hl 0 rfl) ?_
      refine va_get (D := D) (ci := 5) (v := .int (z_onTrial f)) (C := RX5) (T := TX5) (N := 9) hx hb hts iX5_boot_X5 hown hK hP 0 rfl rfl 8 (by decide) (hts _ qX5_boot_2) (fun _ h9 => h9) rfl dX5_boot_40 ?_
      refine zVR (As := [.int (z_onTrial f)]) (rest := []) ⟨hx, hb, hml, hown, hts⟩ (k_X5_slot l D cI ad K v f 1 a st n k tb tl ob im md (z_onTrial f) (z_onTrial f)) (cwV 1 hts gX5_boot_X5_slot rfl rfl rfl (by decide +kernel) ⟨Nat.le_of_ble_eq_true rfl, Nat.le_of_ble_eq_true rfl⟩) hP hK hN [0, 1, 2, 3, 4, 5, 6, 7, 8, 9, 10, 11] rfl (va_recv hK hP (ci := 5) (q0 := 0) rfl rfl) rfl hl.1 rfl (Nat.le_of_ble_eq_true rfl) dX5_boot_43 ⟨Nat.zero_le _, Nat.zero_le _⟩ ?_
      refine z_topR (v := (ad 6)) (by rw [z_slot, if_pos c_s]) ?_
      refine lv_aload_n hx hb dX5_boot_46 rfl (lv_at hl 0 rfl) ?_
      refine va_get (D := D) (ci := 5) (v := .ref (ad 2)) (C := RX5) (T := TX5) (N := 9) hx hb hts iX5_boot_X5 hown hK hP 0 rfl rfl 2 (by decide) (hts _ qX5_boot_1) (fun _ h9 => h9) rfl dX5_boot_47 ?_
      refine zVW (ws' := fun u => cW cI ad K v u.1 u.2.1 u.2.2.1 u.2.2.2.1 u.2.2.2.2.1 u.2.2.2.2.2 tb tl ob im md (z_onTrial f)) (As := [.ref (ad 2)]) (rest := []) ⟨hx, hb, hml, hown, hts⟩ (k_X3_useTrial l D cI (ad 6) (ad 2) (ad 3) 0 0 192 f 1 a st n k) (cwV 1 hts gX5_boot_X3_useTrial rfl rfl rfl (by decide +kernel) ⟨Nat.le_of_ble_eq_true rfl, Nat.le_of_ble_eq_true rfl⟩) hP hK hN hD hS hA [6, 2, 3] [0, 1, 4, 5, 7, 8, 9, 10, 11] [((ad 0), .inr (5, [.ref (ad 1), .int v, .ref (ad 2), .ref (ad 4), .ref (ad 6), .ref (ad 7), .ref (ad 8), .ref (ad 10), .int (z_onTrial f)])), ((ad 1), .inl (cI, 8, .inl K)), ((ad 4), .inr (4, [.ref (ad 5), .int (nI tl)])), ((ad 5), .inl (cI, 192, .inl tb)), ((ad 7), .inr (3, [.int 7, .int 224, .int 416])), ((ad 8), .inr (1, [.ref (ad 9)])), ((ad 9), .inl (cI, 20, .inl ob)), ((ad 10), .inr (2, [.ref (ad 11), .int (nI md)])), ((ad 11), .inl (cI, 192, .inl im))] rfl (by decide) rfl (fun _ => rfl) (fun _ => rfl) (fun _ => rfl) rfl (va_recv hK hP (ci := 3) (q0 := 6) rfl rfl) rfl hl.1 rfl (Nat.le_of_ble_eq_true rfl) dX5_boot_50 ⟨Nat.zero_le _, Nat.zero_le _⟩ (fun u_50 H locs hu_50 hP hD hS => ?_)
      obtain ⟨f_50, p_50, a_50, st_50, n_50, k_50⟩ := u_50
      have hP : va_P D vwCl (cW cI ad K v f_50 p_50 a_50 st_50 n_50 k_50 tb tl ob im md (z_onTrial f)) _ := hP
      have hD : va_D A (cW cI ad K v f_50 p_50 a_50 st_50 n_50 k_50 tb tl ob im md (z_onTrial f)) := hD
      refine W.eq (g2 := F0 m 53 ls []) rfl ?_
      refine lv_aload_n hx hb dX5_boot_53 rfl (lv_at hl 0 rfl) ?_
      refine lv_aload_n hx hb dX5_boot_54 rfl (lv_at hl 0 rfl) ?_
      refine va_get (D := D) (ci := 5) (v := .int (z_onTrial f)) (C := RX5) (T := TX5) (N := 9) hx hb hts iX5_boot_X5 hown hK hP 0 rfl rfl 8 (by decide) (hts _ qX5_boot_2) (fun _ h9 => h9) rfl dX5_boot_55 ?_
      refine zVW (ws' := fun u => cW cI ad K v f_50 p_50 a_50 st_50 n_50 k_50 tb tl ob im md u.2) (As := [.int (z_onTrial f)]) (rest := []) ⟨hx, hb, hml, hown, hts⟩ (k_X5_unlessTorn l D cI ad K v f_50 p_50 a_50 st_50 n_50 k_50 tb tl ob im md (z_onTrial f) (z_onTrial f)) (cwV 1 hts gX5_boot_X5_unlessTorn rfl rfl rfl (by decide +kernel) ⟨Nat.le_of_ble_eq_true rfl, Nat.le_of_ble_eq_true rfl⟩) hP hK hN hD hS hA [0, 1, 2, 3, 4, 5, 6, 7, 8, 9, 10, 11] [] [] rfl (by decide) rfl (fun _ => rfl) (fun _ => rfl) (fun _ => rfl) rfl (va_recv hK hP (ci := 5) (q0 := 0) rfl rfl) rfl hl.1 rfl (Nat.le_of_ble_eq_true rfl) dX5_boot_58 ⟨Nat.zero_le _, Nat.zero_le _⟩ (fun u_58 H locs hu_58 hP hD hS => ?_)
      obtain ⟨res_58, rn_58⟩ := u_58
      have hP : va_P D vwCl (cW cI ad K v f_50 p_50 a_50 st_50 n_50 k_50 tb tl ob im md rn_58) _ := hP
      have hD : va_D A (cW cI ad K v f_50 p_50 a_50 st_50 n_50 k_50 tb tl ob im md rn_58) := hD
      refine W.eq (g2 := F0 m 61 ls [.int res_58]) rfl ?_
      exact hret 61 ls _ _ (res_58, f_50, p_50, a_50, st_50, n_50, k_50, rn_58) res_58 _ dX5_boot_61 rfl rfl rfl (by simp only [c_boot, c_boot2, ← hu_50, ← hu_58, if_neg c_22, if_pos c_s]) hP hS
    · -- split 38 False
      refine lv_aload_n hx hb dX5_boot_38 rfl (lv_at hl 0 rfl) ?_
      refine lv_aload_n hx hb dX5_boot_39 rfl (lv_at hl 0 rfl) ?_
      refine va_get (D := D) (ci := 5) (v := .int (z_onTrial f)) (C := RX5) (T := TX5) (N := 9) hx hb hts iX5_boot_X5 hown hK hP 0 rfl rfl 8 (by decide) (hts _ qX5_boot_2) (fun _ h9 => h9) rfl dX5_boot_40 ?_
      refine zVR (As := [.int (z_onTrial f)]) (rest := []) ⟨hx, hb, hml, hown, hts⟩ (k_X5_slot l D cI ad K v f 1 a st n k tb tl ob im md (z_onTrial f) (z_onTrial f)) (cwV 1 hts gX5_boot_X5_slot rfl rfl rfl (by decide +kernel) ⟨Nat.le_of_ble_eq_true rfl, Nat.le_of_ble_eq_true rfl⟩) hP hK hN [0, 1, 2, 3, 4, 5, 6, 7, 8, 9, 10, 11] rfl (va_recv hK hP (ci := 5) (q0 := 0) rfl rfl) rfl hl.1 rfl (Nat.le_of_ble_eq_true rfl) dX5_boot_43 ⟨Nat.zero_le _, Nat.zero_le _⟩ ?_
      refine z_topR (v := (ad 7)) (by rw [z_slot, if_neg c_s]) ?_
      refine lv_aload_n hx hb dX5_boot_46 rfl (lv_at hl 0 rfl) ?_
      refine va_get (D := D) (ci := 5) (v := .ref (ad 2)) (C := RX5) (T := TX5) (N := 9) hx hb hts iX5_boot_X5 hown hK hP 0 rfl rfl 2 (by decide) (hts _ qX5_boot_1) (fun _ h9 => h9) rfl dX5_boot_47 ?_
      refine zVW (ws' := fun u => cW cI ad K v u.1 u.2.1 u.2.2.1 u.2.2.2.1 u.2.2.2.2.1 u.2.2.2.2.2 tb tl ob im md (z_onTrial f)) (As := [.ref (ad 2)]) (rest := []) ⟨hx, hb, hml, hown, hts⟩ (k_X3_useTrial l D cI (ad 7) (ad 2) (ad 3) 7 224 416 f 1 a st n k) (cwV 1 hts gX5_boot_X3_useTrial rfl rfl rfl (by decide +kernel) ⟨Nat.le_of_ble_eq_true rfl, Nat.le_of_ble_eq_true rfl⟩) hP hK hN hD hS hA [7, 2, 3] [0, 1, 4, 5, 6, 8, 9, 10, 11] [((ad 0), .inr (5, [.ref (ad 1), .int v, .ref (ad 2), .ref (ad 4), .ref (ad 6), .ref (ad 7), .ref (ad 8), .ref (ad 10), .int (z_onTrial f)])), ((ad 1), .inl (cI, 8, .inl K)), ((ad 4), .inr (4, [.ref (ad 5), .int (nI tl)])), ((ad 5), .inl (cI, 192, .inl tb)), ((ad 6), .inr (3, [.int 0, .int 0, .int 192])), ((ad 8), .inr (1, [.ref (ad 9)])), ((ad 9), .inl (cI, 20, .inl ob)), ((ad 10), .inr (2, [.ref (ad 11), .int (nI md)])), ((ad 11), .inl (cI, 192, .inl im))] rfl (by decide) rfl (fun _ => rfl) (fun _ => rfl) (fun _ => rfl) rfl (va_recv hK hP (ci := 3) (q0 := 7) rfl rfl) rfl hl.1 rfl (Nat.le_of_ble_eq_true rfl) dX5_boot_50 ⟨Nat.zero_le _, Nat.zero_le _⟩ (fun u_50 H locs hu_50 hP hD hS => ?_)
      obtain ⟨f_50, p_50, a_50, st_50, n_50, k_50⟩ := u_50
      have hP : va_P D vwCl (cW cI ad K v f_50 p_50 a_50 st_50 n_50 k_50 tb tl ob im md (z_onTrial f)) _ := hP
      have hD : va_D A (cW cI ad K v f_50 p_50 a_50 st_50 n_50 k_50 tb tl ob im md (z_onTrial f)) := hD
      refine W.eq (g2 := F0 m 53 ls []) rfl ?_
      refine lv_aload_n hx hb dX5_boot_53 rfl (lv_at hl 0 rfl) ?_
      refine lv_aload_n hx hb dX5_boot_54 rfl (lv_at hl 0 rfl) ?_
      refine va_get (D := D) (ci := 5) (v := .int (z_onTrial f)) (C := RX5) (T := TX5) (N := 9) hx hb hts iX5_boot_X5 hown hK hP 0 rfl rfl 8 (by decide) (hts _ qX5_boot_2) (fun _ h9 => h9) rfl dX5_boot_55 ?_
      refine zVW (ws' := fun u => cW cI ad K v f_50 p_50 a_50 st_50 n_50 k_50 tb tl ob im md u.2) (As := [.int (z_onTrial f)]) (rest := []) ⟨hx, hb, hml, hown, hts⟩ (k_X5_unlessTorn l D cI ad K v f_50 p_50 a_50 st_50 n_50 k_50 tb tl ob im md (z_onTrial f) (z_onTrial f)) (cwV 1 hts gX5_boot_X5_unlessTorn rfl rfl rfl (by decide +kernel) ⟨Nat.le_of_ble_eq_true rfl, Nat.le_of_ble_eq_true rfl⟩) hP hK hN hD hS hA [0, 1, 2, 3, 4, 5, 6, 7, 8, 9, 10, 11] [] [] rfl (by decide) rfl (fun _ => rfl) (fun _ => rfl) (fun _ => rfl) rfl (va_recv hK hP (ci := 5) (q0 := 0) rfl rfl) rfl hl.1 rfl (Nat.le_of_ble_eq_true rfl) dX5_boot_58 ⟨Nat.zero_le _, Nat.zero_le _⟩ (fun u_58 H locs hu_58 hP hD hS => ?_)
      obtain ⟨res_58, rn_58⟩ := u_58
      have hP : va_P D vwCl (cW cI ad K v f_50 p_50 a_50 st_50 n_50 k_50 tb tl ob im md rn_58) _ := hP
      have hD : va_D A (cW cI ad K v f_50 p_50 a_50 st_50 n_50 k_50 tb tl ob im md rn_58) := hD
      refine W.eq (g2 := F0 m 61 ls [.int res_58]) rfl ?_
      exact hret 61 ls _ _ (res_58, f_50, p_50, a_50, st_50, n_50, k_50, rn_58) res_58 _ dX5_boot_61 rfl rfl rfl (by simp only [c_boot, c_boot2, ← hu_50, ← hu_58, if_neg c_22, if_neg c_s]) hP hS
  · -- 22 f
    refine lv_aload_n hx hb dX5_boot_25 rfl (lv_at hl 0 rfl) ?_
    refine lv_aload_n hx hb dX5_boot_26 rfl (lv_at hl 0 rfl) ?_
    refine zVR (As := []) (rest := [.ref (ad 0)]) ⟨hx, hb, hml, hown, hts⟩ (k_X5_slotConfirmed l D cI ad K v f 1 a st n k tb tl ob im md (z_onTrial f)) (cwV 0 hts gX5_boot_X5_slotConfirmed rfl rfl rfl (by decide +kernel) ⟨Nat.le_of_ble_eq_true rfl, Nat.le_of_ble_eq_true rfl⟩) hP hK hN [0, 1, 2, 3, 4, 5, 6, 7, 8, 9, 10, 11] rfl (va_recv hK hP (ci := 5) (q0 := 0) rfl rfl) rfl hl.1 rfl (Nat.le_of_ble_eq_true rfl) dX5_boot_27 ⟨Nat.zero_le _, Nat.zero_le _⟩ ?_
    refine va_put (D := D) (ci := 5) (v := .int (z_onConf f)) (ty := .int) (C := RX5) (T := TX5) (N := 9) hx hb hts iX5_boot_X5 tyX5 tyX5_ok nmX5 hown hK hP hD hS 0 rfl rfl 8 (by decide) (hts _ qX5_boot_2) (fun _ h9 => h9) rfl (by decide +kernel) rfl rfl (Nat.le_of_ble_eq_true rfl) dX5_boot_30 (fun H locs hP hD hS => ?_)
    have hP : va_P D vwCl (cW cI ad K v f 1 a st n k tb tl ob im md (z_onConf f)) _ := hP
    have hD : va_D A (cW cI ad K v f 1 a st n k tb tl ob im md (z_onConf f)) := hD
    refine lv_aload_n hx hb dX5_boot_33 rfl (lv_at hl 0 rfl) ?_
    refine va_get (D := D) (ci := 5) (v := .int (z_onConf f)) (C := RX5) (T := TX5) (N := 9) hx hb hts iX5_boot_X5 hown hK hP 0 rfl rfl 8 (by decide) (hts _ qX5_boot_2) (fun _ h9 => h9) rfl dX5_boot_34 ?_
    exact hret 37 ls _ _ (z_onConf f, f, 1, a, st, n, k, z_onConf f) (z_onConf f) _ dX5_boot_37 rfl rfl rfl (by simp only [c_boot, c_boot2, if_pos c_22]) hP hS
abbrev rm_X5_confirm : Room := { frames := 5, cells := 0, slots := 0, locals := 108 }
set_option maxRecDepth 20000 in
theorem qX5_confirm_1 : (Cond.fieldLink RX5 12 "FlashBoot" "flash" "LFlashBoot$Flash;" : Cond) ∈ wsX5_confirm := List.mem_of_getElem? (i := 1) rfl
set_option maxRecDepth 20000 in
theorem iX5_confirm_X5 : ∀ w ∈ wsX50, w ∈ wsX5_confirm := by decide +kernel
set_option maxRecDepth 20000 in
theorem iX5_confirm_X0 : ∀ w ∈ wsX00, w ∈ wsX5_confirm := by decide +kernel
set_option maxRecDepth 20000 in
theorem qX5_confirm_2 : (Cond.fieldLink RX5 49 "FlashBoot" "runs" "I" : Cond) ∈ wsX5_confirm := List.mem_of_getElem? (i := 2) rfl
set_option maxHeartbeats 4000000 in
set_option maxRecDepth 100000 in
theorem k_X5_confirm (l : Launch) (D : va_G) (cI : ClassId) (ad : Nat → Nat) (K : RW) (v : Int32) (f : RW) (p : Int32) (a : Int32) (st : Int32) (n : Int32) (k : Int32) (tb : RW) (tl : Nat) (ob : RW) (im : RW) (md : Nat) (rn : Int32)   : zMW (S := Int32 × RW × Int32 × Int32 × Int32 × Int32 × Int32 × Int32) l D cI yX5_confirm wsX5_confirm rm_X5_confirm [.ref (ad 0)] (cW cI ad K v f p a st n k tb tl ob im md rn) (c_confirm rn (f, p, a, st, n, k)) (fun u => some (.int u.1)) (fun u => cW cI ad K v u.2.1 u.2.2.1 u.2.2.2.1 u.2.2.2.2.1 u.2.2.2.2.2.1 u.2.2.2.2.2.2.1 tb tl ob im md u.2.2.2.2.2.2.2) := by
  refine zEntW (cc := cX5_confirm) (maxL := 2) (ret := (some .int)) (own := RX5) (lvs := [(0, .ref (ad 0))]) (by decide) rfl rfl (Nat.le_of_ble_eq_true rfl) rfl ?_
  intro p0 e s m args below meth c Q ls A hx hb hml hts hown hP hK hN hD hS hA hl hret hretV
  refine lv_aload_n hx hb dX5_confirm_0 rfl (lv_at hl 0 rfl) ?_
  refine va_get (D := D) (ci := 5) (v := .ref (ad 2)) (C := RX5) (T := TX5) (N := 9) hx hb hts iX5_confirm_X5 hown hK hP 0 rfl rfl 2 (by decide) (hts _ qX5_confirm_1) (fun _ h9 => h9) rfl dX5_confirm_1 ?_
  refine va_getN (host := RX5) (D := D) (ci := 0) (v := .int p) (C := RX0) (T := TX0) (N := 6) hx hb hts iX5_confirm_X0 hown hK hP 2 rfl rfl 1 (by decide) (zN_use hN 0 rfl) (fun _ h9 => h9) rfl dX5_confirm_4 ?_
  refine lv_if_ne (tgt := 13) hx hb dX5_confirm_7 (by decide) (fun c_7 => ?_) (fun c_7 => ?_)
  · -- 7 t
    refine lv_aload_n hx hb dX5_confirm_13 rfl (lv_at hl 0 rfl) ?_
    refine va_get (D := D) (ci := 5) (v := .int rn) (C := RX5) (T := TX5) (N := 9) hx hb hts iX5_confirm_X5 hown hK hP 0 rfl rfl 8 (by decide) (hts _ qX5_confirm_2) (fun _ h9 => h9) rfl dX5_confirm_14 ?_
    refine lv_bipush (v := (-7)) hx hb dX5_confirm_17 (by decide) ?_
    refine lv_icmp_ne (tgt := 25) hx hb dX5_confirm_19 (by decide) (fun c_19 => ?_) (fun c_19 => ?_)
    · -- 19 t
      by_cases c_s : rn = 0
      · -- split 25 True
        refine lv_aload_n hx hb dX5_confirm_25 rfl (lv_at hl 0 rfl) ?_
        refine lv_aload_n hx hb dX5_confirm_26 rfl (lv_at hl 0 rfl) ?_
        refine va_get (D := D) (ci := 5) (v := .int rn) (C := RX5) (T := TX5) (N := 9) hx hb hts iX5_confirm_X5 hown hK hP 0 rfl rfl 8 (by decide) (hts _ qX5_confirm_2) (fun _ h9 => h9) rfl dX5_confirm_27 ?_
        refine zVR (As := [.int rn]) (rest := []) ⟨hx, hb, hml, hown, hts⟩ (k_X5_slot l D cI ad K v f p a st n k tb tl ob im md rn rn) (cwV 1 hts gX5_confirm_X5_slot rfl rfl rfl (by decide +kernel) ⟨Nat.le_of_ble_eq_true rfl, Nat.le_of_ble_eq_true rfl⟩) hP hK hN [0, 1, 2, 3, 4, 5, 6, 7, 8, 9, 10, 11] rfl (va_recv hK hP (ci := 5) (q0 := 0) rfl rfl) rfl hl.1 rfl (Nat.le_of_ble_eq_true rfl) dX5_confirm_30 ⟨Nat.zero_le _, Nat.zero_le _⟩ ?_
        refine z_topR (v := (ad 6)) (by rw [z_slot, if_pos c_s]) ?_
        refine lv_astore_n (lv' := [(1, .ref (ad 6)), (0, .ref (ad 0))]) hx hb dX5_confirm_33 rfl hl (by decide) rfl (fun ls hl => ?_)
        refine lv_aload_n hx hb dX5_confirm_34 rfl (lv_at hl 0 rfl) ?_
        refine lv_aload_n hx hb dX5_confirm_35 rfl (lv_at hl 1 rfl) ?_
        refine va_get (D := D) (ci := 5) (v := .ref (ad 2)) (C := RX5) (T := TX5) (N := 9) hx hb hts iX5_confirm_X5 hown hK hP 0 rfl rfl 2 (by decide) (hts _ qX5_confirm_1) (fun _ h9 => h9) rfl dX5_confirm_36 ?_
        refine zVR (As := [.ref (ad 2)]) (rest := []) ⟨hx, hb, hml, hown, hts⟩ (k_X3_isConfirmed l D cI (ad 6) (ad 2) (ad 3) 0 0 192 f p a st n k) (cwV 1 hts gX5_confirm_X3_isConfirmed rfl rfl rfl (by decide +kernel) ⟨Nat.le_of_ble_eq_true rfl, Nat.le_of_ble_eq_true rfl⟩) hP hK hN [6, 2, 3] rfl (va_recv hK hP (ci := 3) (q0 := 6) rfl rfl) rfl hl.1 rfl (Nat.le_of_ble_eq_true rfl) dX5_confirm_39 ⟨Nat.zero_le _, Nat.zero_le _⟩ ?_
        refine lv_if_eq (tgt := 47) hx hb dX5_confirm_42 (by decide) (fun c_42 => ?_) (fun c_42 => ?_)
        · -- 42 t
          refine lv_aload_n hx hb dX5_confirm_47 rfl (lv_at hl 0 rfl) ?_
          refine lv_aload_n hx hb dX5_confirm_48 rfl (lv_at hl 1 rfl) ?_
          refine va_get (D := D) (ci := 5) (v := .ref (ad 2)) (C := RX5) (T := TX5) (N := 9) hx hb hts iX5_confirm_X5 hown hK hP 0 rfl rfl 2 (by decide) (hts _ qX5_confirm_1) (fun _ h9 => h9) rfl dX5_confirm_49 ?_
          refine zVW (ws' := fun u => cW cI ad K v u.1 u.2.1 u.2.2.1 u.2.2.2.1 u.2.2.2.2.1 u.2.2.2.2.2 tb tl ob im md rn) (As := [.ref (ad 2)]) (rest := []) ⟨hx, hb, hml, hown, hts⟩ (k_X3_programConfirmed l D cI (ad 6) (ad 2) (ad 3) 0 0 192 f p a st n k) (cwV 1 hts gX5_confirm_X3_programConfirmed rfl rfl rfl (by decide +kernel) ⟨Nat.le_of_ble_eq_true rfl, Nat.le_of_ble_eq_true rfl⟩) hP hK hN hD hS hA [6, 2, 3] [0, 1, 4, 5, 7, 8, 9, 10, 11] [((ad 0), .inr (5, [.ref (ad 1), .int v, .ref (ad 2), .ref (ad 4), .ref (ad 6), .ref (ad 7), .ref (ad 8), .ref (ad 10), .int rn])), ((ad 1), .inl (cI, 8, .inl K)), ((ad 4), .inr (4, [.ref (ad 5), .int (nI tl)])), ((ad 5), .inl (cI, 192, .inl tb)), ((ad 7), .inr (3, [.int 7, .int 224, .int 416])), ((ad 8), .inr (1, [.ref (ad 9)])), ((ad 9), .inl (cI, 20, .inl ob)), ((ad 10), .inr (2, [.ref (ad 11), .int (nI md)])), ((ad 11), .inl (cI, 192, .inl im))] rfl (by decide) rfl (fun _ => rfl) (fun _ => rfl) (fun _ => rfl) rfl (va_recv hK hP (ci := 3) (q0 := 6) rfl rfl) rfl hl.1 rfl (Nat.le_of_ble_eq_true rfl) dX5_confirm_52 ⟨Nat.zero_le _, Nat.zero_le _⟩ (fun u_52 H locs hu_52 hP hD hS => ?_)
          obtain ⟨f_52, p_52, a_52, st_52, n_52, k_52⟩ := u_52
          have hP : va_P D vwCl (cW cI ad K v f_52 p_52 a_52 st_52 n_52 k_52 tb tl ob im md rn) _ := hP
          have hD : va_D A (cW cI ad K v f_52 p_52 a_52 st_52 n_52 k_52 tb tl ob im md rn) := hD
          refine W.eq (g2 := F0 m 55 ls []) rfl ?_
          refine lv_aload_n hx hb dX5_confirm_55 rfl (lv_at hl 1 rfl) ?_
          refine lv_aload_n hx hb dX5_confirm_56 rfl (lv_at hl 0 rfl) ?_
          refine lv_aload_n hx hb dX5_confirm_57 rfl (lv_at hl 1 rfl) ?_
          refine va_get (D := D) (ci := 5) (v := .ref (ad 2)) (C := RX5) (T := TX5) (N := 9) hx hb hts iX5_confirm_X5 hown hK hP 0 rfl rfl 2 (by decide) (hts _ qX5_confirm_1) (fun _ h9 => h9) rfl dX5_confirm_58 ?_
          refine zVR (As := [.ref (ad 2)]) (rest := [.ref (ad 0)]) ⟨hx, hb, hml, hown, hts⟩ (k_X3_sequence l D cI (ad 6) (ad 2) (ad 3) 0 0 192 f_52 p_52 a_52 st_52 n_52 k_52) (cwV 1 hts gX5_confirm_X3_sequence rfl rfl rfl (by decide +kernel) ⟨Nat.le_of_ble_eq_true rfl, Nat.le_of_ble_eq_true rfl⟩) hP hK hN [6, 2, 3] rfl (va_recv hK hP (ci := 3) (q0 := 6) rfl rfl) rfl hl.1 rfl (Nat.le_of_ble_eq_true rfl) dX5_confirm_61 ⟨Nat.zero_le _, Nat.zero_le _⟩ ?_
          refine zVW (ws' := fun u => cW cI ad K v u.1 u.2.1 u.2.2.1 u.2.2.2.1 u.2.2.2.2.1 u.2.2.2.2.2 tb tl ob im md rn) (As := [.int (z_at f_52 (192 + 1))]) (rest := []) ⟨hx, hb, hml, hown, hts⟩ (k_X5_raiseCounter l D cI ad K v f_52 p_52 a_52 st_52 n_52 k_52 tb tl ob im md rn (z_at f_52 (192 + 1))) (cwV 1 hts gX5_confirm_X5_raiseCounter rfl rfl rfl (by decide +kernel) ⟨Nat.le_of_ble_eq_true rfl, Nat.le_of_ble_eq_true rfl⟩) hP hK hN hD hS hA [0, 1, 2, 3, 4, 5, 6, 7, 8, 9, 10, 11] [] [] rfl (by decide) rfl (fun _ => rfl) (fun _ => rfl) (fun _ => rfl) rfl (va_recv hK hP (ci := 5) (q0 := 0) rfl rfl) rfl hl.1 rfl (Nat.le_of_ble_eq_true rfl) dX5_confirm_64 ⟨Nat.zero_le _, Nat.zero_le _⟩ (fun u_64 H locs hu_64 hP hD hS => ?_)
          obtain ⟨f_64, p_64, a_64, st_64, n_64, k_64⟩ := u_64
          have hP : va_P D vwCl (cW cI ad K v f_64 p_64 a_64 st_64 n_64 k_64 tb tl ob im md rn) _ := hP
          have hD : va_D A (cW cI ad K v f_64 p_64 a_64 st_64 n_64 k_64 tb tl ob im md rn) := hD
          refine W.eq (g2 := F0 m 67 ls []) rfl ?_
          refine lv_aload_n hx hb dX5_confirm_67 rfl (lv_at hl 1 rfl) ?_
          refine lv_iconst (v := 1) hx hb dX5_confirm_68 (by decide) ?_
          refine zVW (ws' := fun u => cW cI ad K v f_64 p_64 a_64 st_64 n_64 k_64 tb tl ob im md u.2) (As := [.int 1]) (rest := []) ⟨hx, hb, hml, hown, hts⟩ (k_X5_unlessTorn l D cI ad K v f_64 p_64 a_64 st_64 n_64 k_64 tb tl ob im md rn 1) (cwV 1 hts gX5_confirm_X5_unlessTorn rfl rfl rfl (by decide +kernel) ⟨Nat.le_of_ble_eq_true rfl, Nat.le_of_ble_eq_true rfl⟩) hP hK hN hD hS hA [0, 1, 2, 3, 4, 5, 6, 7, 8, 9, 10, 11] [] [] rfl (by decide) rfl (fun _ => rfl) (fun _ => rfl) (fun _ => rfl) rfl (va_recv hK hP (ci := 5) (q0 := 0) rfl rfl) rfl hl.1 rfl (Nat.le_of_ble_eq_true rfl) dX5_confirm_69 ⟨Nat.zero_le _, Nat.zero_le _⟩ (fun u_69 H locs hu_69 hP hD hS => ?_)
          obtain ⟨res_69, rn_69⟩ := u_69
          have hP : va_P D vwCl (cW cI ad K v f_64 p_64 a_64 st_64 n_64 k_64 tb tl ob im md rn_69) _ := hP
          have hD : va_D A (cW cI ad K v f_64 p_64 a_64 st_64 n_64 k_64 tb tl ob im md rn_69) := hD
          refine W.eq (g2 := F0 m 72 ls [.int res_69]) rfl ?_
          exact hret 72 ls _ _ (res_69, f_64, p_64, a_64, st_64, n_64, k_64, rn_69) res_69 _ dX5_confirm_72 rfl rfl rfl (by simp only [c_confirm, z_hd, c_conf2, c_conf3, ← hu_52, ← hu_64, ← hu_69, if_neg c_7, if_neg c_19, if_pos c_s, if_pos c_42]) hP hS
        · -- 42 f
          refine lv_iconst (v := 0) hx hb dX5_confirm_45 (by decide) ?_
          exact hret 46 ls _ _ (0, f, p, a, st, n, k, rn) 0 _ dX5_confirm_46 rfl rfl rfl (by simp only [c_confirm, z_hd, c_conf2, c_conf3, if_neg c_7, if_neg c_19, if_pos c_s, if_neg c_42]) hP hS
      · -- split 25 False
        refine lv_aload_n hx hb dX5_confirm_25 rfl (lv_at hl 0 rfl) ?_
        refine lv_aload_n hx hb dX5_confirm_26 rfl (lv_at hl 0 rfl) ?_
        refine va_get (D := D) (ci := 5) (v := .int rn) (C := RX5) (T := TX5) (N := 9) hx hb hts iX5_confirm_X5 hown hK hP 0 rfl rfl 8 (by decide) (hts _ qX5_confirm_2) (fun _ h9 => h9) rfl dX5_confirm_27 ?_
        refine zVR (As := [.int rn]) (rest := []) ⟨hx, hb, hml, hown, hts⟩ (k_X5_slot l D cI ad K v f p a st n k tb tl ob im md rn rn) (cwV 1 hts gX5_confirm_X5_slot rfl rfl rfl (by decide +kernel) ⟨Nat.le_of_ble_eq_true rfl, Nat.le_of_ble_eq_true rfl⟩) hP hK hN [0, 1, 2, 3, 4, 5, 6, 7, 8, 9, 10, 11] rfl (va_recv hK hP (ci := 5) (q0 := 0) rfl rfl) rfl hl.1 rfl (Nat.le_of_ble_eq_true rfl) dX5_confirm_30 ⟨Nat.zero_le _, Nat.zero_le _⟩ ?_
        refine z_topR (v := (ad 7)) (by rw [z_slot, if_neg c_s]) ?_
        refine lv_astore_n (lv' := [(1, .ref (ad 7)), (0, .ref (ad 0))]) hx hb dX5_confirm_33 rfl hl (by decide) rfl (fun ls hl => ?_)
        refine lv_aload_n hx hb dX5_confirm_34 rfl (lv_at hl 0 rfl) ?_
        refine lv_aload_n hx hb dX5_confirm_35 rfl (lv_at hl 1 rfl) ?_
        refine va_get (D := D) (ci := 5) (v := .ref (ad 2)) (C := RX5) (T := TX5) (N := 9) hx hb hts iX5_confirm_X5 hown hK hP 0 rfl rfl 2 (by decide) (hts _ qX5_confirm_1) (fun _ h9 => h9) rfl dX5_confirm_36 ?_
        refine zVR (As := [.ref (ad 2)]) (rest := []) ⟨hx, hb, hml, hown, hts⟩ (k_X3_isConfirmed l D cI (ad 7) (ad 2) (ad 3) 7 224 416 f p a st n k) (cwV 1 hts gX5_confirm_X3_isConfirmed rfl rfl rfl (by decide +kernel) ⟨Nat.le_of_ble_eq_true rfl, Nat.le_of_ble_eq_true rfl⟩) hP hK hN [7, 2, 3] rfl (va_recv hK hP (ci := 3) (q0 := 7) rfl rfl) rfl hl.1 rfl (Nat.le_of_ble_eq_true rfl) dX5_confirm_39 ⟨Nat.zero_le _, Nat.zero_le _⟩ ?_
        refine lv_if_eq (tgt := 47) hx hb dX5_confirm_42 (by decide) (fun c_42 => ?_) (fun c_42 => ?_)
        · -- 42 t
          refine lv_aload_n hx hb dX5_confirm_47 rfl (lv_at hl 0 rfl) ?_
          refine lv_aload_n hx hb dX5_confirm_48 rfl (lv_at hl 1 rfl) ?_
          refine va_get (D := D) (ci := 5) (v := .ref (ad 2)) (C := RX5) (T := TX5) (N := 9) hx hb hts iX5_confirm_X5 hown hK hP 0 rfl rfl 2 (by decide) (hts _ qX5_confirm_1) (fun _ h9 => h9) rfl dX5_confirm_49 ?_
          refine zVW (ws' := fun u => cW cI ad K v u.1 u.2.1 u.2.2.1 u.2.2.2.1 u.2.2.2.2.1 u.2.2.2.2.2 tb tl ob im md rn) (As := [.ref (ad 2)]) (rest := []) ⟨hx, hb, hml, hown, hts⟩ (k_X3_programConfirmed l D cI (ad 7) (ad 2) (ad 3) 7 224 416 f p a st n k) (cwV 1 hts gX5_confirm_X3_programConfirmed rfl rfl rfl (by decide +kernel) ⟨Nat.le_of_ble_eq_true rfl, Nat.le_of_ble_eq_true rfl⟩) hP hK hN hD hS hA [7, 2, 3] [0, 1, 4, 5, 6, 8, 9, 10, 11] [((ad 0), .inr (5, [.ref (ad 1), .int v, .ref (ad 2), .ref (ad 4), .ref (ad 6), .ref (ad 7), .ref (ad 8), .ref (ad 10), .int rn])), ((ad 1), .inl (cI, 8, .inl K)), ((ad 4), .inr (4, [.ref (ad 5), .int (nI tl)])), ((ad 5), .inl (cI, 192, .inl tb)), ((ad 6), .inr (3, [.int 0, .int 0, .int 192])), ((ad 8), .inr (1, [.ref (ad 9)])), ((ad 9), .inl (cI, 20, .inl ob)), ((ad 10), .inr (2, [.ref (ad 11), .int (nI md)])), ((ad 11), .inl (cI, 192, .inl im))] rfl (by decide) rfl (fun _ => rfl) (fun _ => rfl) (fun _ => rfl) rfl (va_recv hK hP (ci := 3) (q0 := 7) rfl rfl) rfl hl.1 rfl (Nat.le_of_ble_eq_true rfl) dX5_confirm_52 ⟨Nat.zero_le _, Nat.zero_le _⟩ (fun u_52 H locs hu_52 hP hD hS => ?_)
          obtain ⟨f_52, p_52, a_52, st_52, n_52, k_52⟩ := u_52
          have hP : va_P D vwCl (cW cI ad K v f_52 p_52 a_52 st_52 n_52 k_52 tb tl ob im md rn) _ := hP
          have hD : va_D A (cW cI ad K v f_52 p_52 a_52 st_52 n_52 k_52 tb tl ob im md rn) := hD
          refine W.eq (g2 := F0 m 55 ls []) rfl ?_
          refine lv_aload_n hx hb dX5_confirm_55 rfl (lv_at hl 1 rfl) ?_
          refine lv_aload_n hx hb dX5_confirm_56 rfl (lv_at hl 0 rfl) ?_
          refine lv_aload_n hx hb dX5_confirm_57 rfl (lv_at hl 1 rfl) ?_
          refine va_get (D := D) (ci := 5) (v := .ref (ad 2)) (C := RX5) (T := TX5) (N := 9) hx hb hts iX5_confirm_X5 hown hK hP 0 rfl rfl 2 (by decide) (hts _ qX5_confirm_1) (fun _ h9 => h9) rfl dX5_confirm_58 ?_
          refine zVR (As := [.ref (ad 2)]) (rest := [.ref (ad 0)]) ⟨hx, hb, hml, hown, hts⟩ (k_X3_sequence l D cI (ad 7) (ad 2) (ad 3) 7 224 416 f_52 p_52 a_52 st_52 n_52 k_52) (cwV 1 hts gX5_confirm_X3_sequence rfl rfl rfl (by decide +kernel) ⟨Nat.le_of_ble_eq_true rfl, Nat.le_of_ble_eq_true rfl⟩) hP hK hN [7, 2, 3] rfl (va_recv hK hP (ci := 3) (q0 := 7) rfl rfl) rfl hl.1 rfl (Nat.le_of_ble_eq_true rfl) dX5_confirm_61 ⟨Nat.zero_le _, Nat.zero_le _⟩ ?_
          refine zVW (ws' := fun u => cW cI ad K v u.1 u.2.1 u.2.2.1 u.2.2.2.1 u.2.2.2.2.1 u.2.2.2.2.2 tb tl ob im md rn) (As := [.int (z_at f_52 (416 + 1))]) (rest := []) ⟨hx, hb, hml, hown, hts⟩ (k_X5_raiseCounter l D cI ad K v f_52 p_52 a_52 st_52 n_52 k_52 tb tl ob im md rn (z_at f_52 (416 + 1))) (cwV 1 hts gX5_confirm_X5_raiseCounter rfl rfl rfl (by decide +kernel) ⟨Nat.le_of_ble_eq_true rfl, Nat.le_of_ble_eq_true rfl⟩) hP hK hN hD hS hA [0, 1, 2, 3, 4, 5, 6, 7, 8, 9, 10, 11] [] [] rfl (by decide) rfl (fun _ => rfl) (fun _ => rfl) (fun _ => rfl) rfl (va_recv hK hP (ci := 5) (q0 := 0) rfl rfl) rfl hl.1 rfl (Nat.le_of_ble_eq_true rfl) dX5_confirm_64 ⟨Nat.zero_le _, Nat.zero_le _⟩ (fun u_64 H locs hu_64 hP hD hS => ?_)
          obtain ⟨f_64, p_64, a_64, st_64, n_64, k_64⟩ := u_64
          have hP : va_P D vwCl (cW cI ad K v f_64 p_64 a_64 st_64 n_64 k_64 tb tl ob im md rn) _ := hP
          have hD : va_D A (cW cI ad K v f_64 p_64 a_64 st_64 n_64 k_64 tb tl ob im md rn) := hD
          refine W.eq (g2 := F0 m 67 ls []) rfl ?_
          refine lv_aload_n hx hb dX5_confirm_67 rfl (lv_at hl 1 rfl) ?_
          refine lv_iconst (v := 1) hx hb dX5_confirm_68 (by decide) ?_
          refine zVW (ws' := fun u => cW cI ad K v f_64 p_64 a_64 st_64 n_64 k_64 tb tl ob im md u.2) (As := [.int 1]) (rest := []) ⟨hx, hb, hml, hown, hts⟩ (k_X5_unlessTorn l D cI ad K v f_64 p_64 a_64 st_64 n_64 k_64 tb tl ob im md rn 1) (cwV 1 hts gX5_confirm_X5_unlessTorn rfl rfl rfl (by decide +kernel) ⟨Nat.le_of_ble_eq_true rfl, Nat.le_of_ble_eq_true rfl⟩) hP hK hN hD hS hA [0, 1, 2, 3, 4, 5, 6, 7, 8, 9, 10, 11] [] [] rfl (by decide) rfl (fun _ => rfl) (fun _ => rfl) (fun _ => rfl) rfl (va_recv hK hP (ci := 5) (q0 := 0) rfl rfl) rfl hl.1 rfl (Nat.le_of_ble_eq_true rfl) dX5_confirm_69 ⟨Nat.zero_le _, Nat.zero_le _⟩ (fun u_69 H locs hu_69 hP hD hS => ?_)
          obtain ⟨res_69, rn_69⟩ := u_69
          have hP : va_P D vwCl (cW cI ad K v f_64 p_64 a_64 st_64 n_64 k_64 tb tl ob im md rn_69) _ := hP
          have hD : va_D A (cW cI ad K v f_64 p_64 a_64 st_64 n_64 k_64 tb tl ob im md rn_69) := hD
          refine W.eq (g2 := F0 m 72 ls [.int res_69]) rfl ?_
          exact hret 72 ls _ _ (res_69, f_64, p_64, a_64, st_64, n_64, k_64, rn_69) res_69 _ dX5_confirm_72 rfl rfl rfl (by simp only [c_confirm, z_hd, c_conf2, c_conf3, ← hu_52, ← hu_64, ← hu_69, if_neg c_7, if_neg c_19, if_neg c_s, if_pos c_42]) hP hS
        · -- 42 f
          refine lv_iconst (v := 0) hx hb dX5_confirm_45 (by decide) ?_
          exact hret 46 ls _ _ (0, f, p, a, st, n, k, rn) 0 _ dX5_confirm_46 rfl rfl rfl (by simp only [c_confirm, z_hd, c_conf2, c_conf3, if_neg c_7, if_neg c_19, if_neg c_s, if_neg c_42]) hP hS
    · -- 19 f
      refine lv_bipush (v := (-7)) hx hb dX5_confirm_22 (by decide) ?_
      exact hret 24 ls _ _ ((-7), f, p, a, st, n, k, rn) (-7) _ dX5_confirm_24 rfl rfl rfl (by simp only [c_confirm, z_hd, c_conf2, c_conf3, if_neg c_7, if_pos c_19]) hP hS
  · -- 7 f
    refine lv_bipush (v := (-2)) hx hb dX5_confirm_10 (by decide) ?_
    exact hret 12 ls _ _ ((-2), f, p, a, st, n, k, rn) (-2) _ dX5_confirm_12 rfl rfl rfl (by simp only [c_confirm, z_hd, c_conf2, c_conf3, if_pos c_7]) hP hS
abbrev rm_X5_crash : Room := { frames := 1, cells := 0, slots := 0, locals := 22 }
set_option maxRecDepth 20000 in
theorem qX5_crash_1 : (Cond.fieldLink RX5 12 "FlashBoot" "flash" "LFlashBoot$Flash;" : Cond) ∈ wsX5_crash := List.mem_of_getElem? (i := 1) rfl
set_option maxRecDepth 20000 in
theorem iX5_crash_X5 : ∀ w ∈ wsX50, w ∈ wsX5_crash := by decide +kernel
set_option maxHeartbeats 4000000 in
set_option maxRecDepth 100000 in
theorem k_X5_crash (l : Launch) (D : va_G) (cI : ClassId) (ad : Nat → Nat) (K : RW) (v : Int32) (f : RW) (p : Int32) (a : Int32) (st : Int32) (n : Int32) (k : Int32) (tb : RW) (tl : Nat) (ob : RW) (im : RW) (md : Nat) (rn : Int32) (x : Int32) (y : Int32)  : zMW (S := Int32 × RW × Int32 × Int32 × Int32 × Int32 × Int32) l D cI yX5_crash wsX5_crash rm_X5_crash [.ref (ad 0), .int x, .int y] (cW cI ad K v f p a st n k tb tl ob im md rn) (c_crash x y (f, p, a, st, n, k)) (fun u => some (.int u.1)) (fun u => cW cI ad K v u.2.1 u.2.2.1 u.2.2.2.1 u.2.2.2.2.1 u.2.2.2.2.2.1 u.2.2.2.2.2.2 tb tl ob im md rn) := by
  refine zEntW (cc := cX5_crash) (maxL := 3) (ret := (some .int)) (own := RX5) (lvs := [(0, .ref (ad 0)), (1, .int x), (2, .int y)]) (by decide) rfl rfl (Nat.le_of_ble_eq_true rfl) rfl ?_
  intro p0 e s m args below meth c Q ls A hx hb hml hts hown hP hK hN hD hS hA hl hret hretV
  refine lv_iload_n hx hb dX5_crash_0 rfl (lv_at hl 2 rfl) ?_
  refine lv_if_lt (tgt := 11) hx hb dX5_crash_1 (by decide) (fun c_1 => ?_) (fun c_1 => ?_)
  · -- 1 t
    refine lv_iconst (v := (-1)) hx hb dX5_crash_11 (by decide) ?_
    exact hret 12 ls _ _ ((-1), f, p, a, st, n, k) (-1) _ dX5_crash_12 rfl rfl rfl (by simp only [c_crash, c_crash2, if_pos c_1]) hP hS
  · -- 1 f
    refine lv_iload_n hx hb dX5_crash_4 rfl (lv_at hl 2 rfl) ?_
    refine lv_sipush (v := 255) hx hb dX5_crash_5 (by decide) ?_
    refine lv_icmp_le (tgt := 13) hx hb dX5_crash_8 (by decide) (fun c_8 => ?_) (fun c_8 => ?_)
    · -- 8 t
      refine lv_aload_n hx hb dX5_crash_13 rfl (lv_at hl 0 rfl) ?_
      refine va_get (D := D) (ci := 5) (v := .ref (ad 2)) (C := RX5) (T := TX5) (N := 9) hx hb hts iX5_crash_X5 hown hK hP 0 rfl rfl 2 (by decide) (hts _ qX5_crash_1) (fun _ h9 => h9) rfl dX5_crash_14 ?_
      refine lv_iload_n hx hb dX5_crash_17 rfl (lv_at hl 1 rfl) ?_
      refine lv_iload_n hx hb dX5_crash_18 rfl (lv_at hl 2 rfl) ?_
      refine zVW (ws' := fun u => cW cI ad K v u.1 u.2.1 u.2.2.1 u.2.2.2.1 u.2.2.2.2.1 u.2.2.2.2.2 tb tl ob im md rn) (As := [.int x, .int y]) (rest := []) ⟨hx, hb, hml, hown, hts⟩ (k_X0_setCrash l D cI (ad 2) (ad 3) f p a st n k x y) (cwV 2 hts gX5_crash_X0_setCrash rfl rfl rfl (by decide +kernel) ⟨Nat.le_of_ble_eq_true rfl, Nat.le_of_ble_eq_true rfl⟩) hP hK hN hD hS hA [2, 3] [0, 1, 4, 5, 6, 7, 8, 9, 10, 11] [((ad 0), .inr (5, [.ref (ad 1), .int v, .ref (ad 2), .ref (ad 4), .ref (ad 6), .ref (ad 7), .ref (ad 8), .ref (ad 10), .int rn])), ((ad 1), .inl (cI, 8, .inl K)), ((ad 4), .inr (4, [.ref (ad 5), .int (nI tl)])), ((ad 5), .inl (cI, 192, .inl tb)), ((ad 6), .inr (3, [.int 0, .int 0, .int 192])), ((ad 7), .inr (3, [.int 7, .int 224, .int 416])), ((ad 8), .inr (1, [.ref (ad 9)])), ((ad 9), .inl (cI, 20, .inl ob)), ((ad 10), .inr (2, [.ref (ad 11), .int (nI md)])), ((ad 11), .inl (cI, 192, .inl im))] rfl (by decide) rfl (fun _ => rfl) (fun _ => rfl) (fun _ => rfl) rfl (va_recv hK hP (ci := 0) (q0 := 2) rfl rfl) rfl hl.1 rfl (Nat.le_of_ble_eq_true rfl) dX5_crash_19 ⟨Nat.zero_le _, Nat.zero_le _⟩ (fun u_19 H locs hu_19 hP hD hS => ?_)
      obtain ⟨f_19, p_19, a_19, st_19, n_19, k_19⟩ := u_19
      have hP : va_P D vwCl (cW cI ad K v f_19 p_19 a_19 st_19 n_19 k_19 tb tl ob im md rn) _ := hP
      have hD : va_D A (cW cI ad K v f_19 p_19 a_19 st_19 n_19 k_19 tb tl ob im md rn) := hD
      refine W.eq (g2 := F0 m 22 ls []) rfl ?_
      refine lv_iconst (v := 1) hx hb dX5_crash_22 (by decide) ?_
      exact hret 23 ls _ _ (1, f_19, p_19, a_19, st_19, n_19, k_19) 1 _ dX5_crash_23 rfl rfl rfl (by simp only [c_crash, c_crash2, ← hu_19, if_neg c_1, if_pos c_8]) hP hS
    · -- 8 f
      refine lv_iconst (v := (-1)) hx hb dX5_crash_11 (by decide) ?_
      exact hret 12 ls _ _ ((-1), f, p, a, st, n, k) (-1) _ dX5_crash_12 rfl rfl rfl (by simp only [c_crash, c_crash2, if_neg c_1, if_neg c_8]) hP hS
abbrev rm_X5_good : Room := { frames := 5, cells := 0, slots := 0, locals := 108 }
set_option maxHeartbeats 4000000 in
set_option maxRecDepth 100000 in
theorem k_X5_good (l : Launch) (D : va_G) (cI : ClassId) (ad : Nat → Nat) (K : RW) (v : Int32) (f : RW) (p : Int32) (a : Int32) (st : Int32) (n : Int32) (k : Int32) (tb : RW) (tl : Nat) (ob : RW) (im : RW) (md : Nat) (rn : Int32) (x : Int32)  : zMR l D cI yX5_good wsX5_good rm_X5_good [.ref (ad 0), .int x] (cW cI ad K v f p a st n k tb tl ob im md rn) (.int (c_good f x)) := by
  refine zEntR (cc := cX5_good) (maxL := 2) (ret := (some .int)) (own := RX5) (lvs := [(0, .ref (ad 0)), (1, .int x)]) (by decide) rfl rfl rfl rfl (Nat.le_of_ble_eq_true rfl) rfl ?_
  intro p0 e s m args below meth c Q ls hx hb hml hts hown hP hK hN hl hret hretA
  refine lv_iload_n hx hb dX5_good_0 rfl (lv_at hl 1 rfl) ?_
  refine lv_if_eq (tgt := 11) hx hb dX5_good_1 (by decide) (fun c_1 => ?_) (fun c_1 => ?_)
  · -- 1 t
    by_cases c_s : x = 0
    · -- split 11 True
      refine lv_aload_n hx hb dX5_good_11 rfl (lv_at hl 0 rfl) ?_
      refine lv_aload_n hx hb dX5_good_12 rfl (lv_at hl 0 rfl) ?_
      refine lv_iload_n hx hb dX5_good_13 rfl (lv_at hl 1 rfl) ?_
      refine zVR (As := [.int x]) (rest := [.ref (ad 0)]) ⟨hx, hb, hml, hown, hts⟩ (k_X5_slot l D cI ad K v f p a st n k tb tl ob im md rn x) (cwV 1 hts gX5_good_X5_slot rfl rfl rfl (by decide +kernel) ⟨Nat.le_of_ble_eq_true rfl, Nat.le_of_ble_eq_true rfl⟩) hP hK hN [0, 1, 2, 3, 4, 5, 6, 7, 8, 9, 10, 11] rfl (va_recv hK hP (ci := 5) (q0 := 0) rfl rfl) rfl hl.1 rfl (Nat.le_of_ble_eq_true rfl) dX5_good_14 ⟨Nat.zero_le _, Nat.zero_le _⟩ ?_
      refine z_topR (v := (ad 6)) (by rw [z_slot, if_pos c_s]) ?_
      refine zVR (As := [.ref (ad 6)]) (rest := []) ⟨hx, hb, hml, hown, hts⟩ (k_X5_isGood_6 l D cI ad K v f p a st n k tb tl ob im md rn) (cwV 1 hts gX5_good_X5_isGood rfl rfl rfl (by decide +kernel) ⟨Nat.le_of_ble_eq_true rfl, Nat.le_of_ble_eq_true rfl⟩) hP hK hN [0, 1, 2, 3, 4, 5, 6, 7, 8, 9, 10, 11] rfl (va_recv hK hP (ci := 5) (q0 := 0) rfl rfl) rfl hl.1 rfl (Nat.le_of_ble_eq_true rfl) dX5_good_17 ⟨Nat.zero_le _, Nat.zero_le _⟩ ?_
      refine lv_if_eq (tgt := 27) hx hb dX5_good_20 (by decide) (fun c_20 => ?_) (fun c_20 => ?_)
      · -- 20 t
        refine lv_iconst (v := 0) hx hb dX5_good_27 (by decide) ?_
        exact hret 28 ls 0 _ dX5_good_28 rfl rfl (congrArg Value.int (by simp only [c_good, c_good2, if_pos c_1, if_pos c_s, if_pos c_20]))
      · -- 20 f
        refine lv_iconst (v := 1) hx hb dX5_good_23 (by decide) ?_
        refine lv_goto (tgt := 28) hx hb dX5_good_24 (by decide) ?_
        exact hret 28 ls 1 _ dX5_good_28 rfl rfl (congrArg Value.int (by simp only [c_good, c_good2, if_pos c_1, if_pos c_s, if_neg c_20]))
    · -- split 11 False
      refine lv_aload_n hx hb dX5_good_11 rfl (lv_at hl 0 rfl) ?_
      refine lv_aload_n hx hb dX5_good_12 rfl (lv_at hl 0 rfl) ?_
      refine lv_iload_n hx hb dX5_good_13 rfl (lv_at hl 1 rfl) ?_
      refine zVR (As := [.int x]) (rest := [.ref (ad 0)]) ⟨hx, hb, hml, hown, hts⟩ (k_X5_slot l D cI ad K v f p a st n k tb tl ob im md rn x) (cwV 1 hts gX5_good_X5_slot rfl rfl rfl (by decide +kernel) ⟨Nat.le_of_ble_eq_true rfl, Nat.le_of_ble_eq_true rfl⟩) hP hK hN [0, 1, 2, 3, 4, 5, 6, 7, 8, 9, 10, 11] rfl (va_recv hK hP (ci := 5) (q0 := 0) rfl rfl) rfl hl.1 rfl (Nat.le_of_ble_eq_true rfl) dX5_good_14 ⟨Nat.zero_le _, Nat.zero_le _⟩ ?_
      refine z_topR (v := (ad 7)) (by rw [z_slot, if_neg c_s]) ?_
      refine zVR (As := [.ref (ad 7)]) (rest := []) ⟨hx, hb, hml, hown, hts⟩ (k_X5_isGood_7 l D cI ad K v f p a st n k tb tl ob im md rn) (cwV 1 hts gX5_good_X5_isGood rfl rfl rfl (by decide +kernel) ⟨Nat.le_of_ble_eq_true rfl, Nat.le_of_ble_eq_true rfl⟩) hP hK hN [0, 1, 2, 3, 4, 5, 6, 7, 8, 9, 10, 11] rfl (va_recv hK hP (ci := 5) (q0 := 0) rfl rfl) rfl hl.1 rfl (Nat.le_of_ble_eq_true rfl) dX5_good_17 ⟨Nat.zero_le _, Nat.zero_le _⟩ ?_
      refine lv_if_eq (tgt := 27) hx hb dX5_good_20 (by decide) (fun c_20 => ?_) (fun c_20 => ?_)
      · -- 20 t
        refine lv_iconst (v := 0) hx hb dX5_good_27 (by decide) ?_
        exact hret 28 ls 0 _ dX5_good_28 rfl rfl (congrArg Value.int (absurd c_1 c_s))
      · -- 20 f
        refine lv_iconst (v := 1) hx hb dX5_good_23 (by decide) ?_
        refine lv_goto (tgt := 28) hx hb dX5_good_24 (by decide) ?_
        exact hret 28 ls 1 _ dX5_good_28 rfl rfl (congrArg Value.int (absurd c_1 c_s))
  · -- 1 f
    refine lv_iload_n hx hb dX5_good_4 rfl (lv_at hl 1 rfl) ?_
    refine lv_iconst (v := 1) hx hb dX5_good_5 (by decide) ?_
    refine lv_icmp_eq (tgt := 11) hx hb dX5_good_6 (by decide) (fun c_6 => ?_) (fun c_6 => ?_)
    · -- 6 t
      by_cases c_s : x = 0
      · -- split 11 True
        refine lv_aload_n hx hb dX5_good_11 rfl (lv_at hl 0 rfl) ?_
        refine lv_aload_n hx hb dX5_good_12 rfl (lv_at hl 0 rfl) ?_
        refine lv_iload_n hx hb dX5_good_13 rfl (lv_at hl 1 rfl) ?_
        refine zVR (As := [.int x]) (rest := [.ref (ad 0)]) ⟨hx, hb, hml, hown, hts⟩ (k_X5_slot l D cI ad K v f p a st n k tb tl ob im md rn x) (cwV 1 hts gX5_good_X5_slot rfl rfl rfl (by decide +kernel) ⟨Nat.le_of_ble_eq_true rfl, Nat.le_of_ble_eq_true rfl⟩) hP hK hN [0, 1, 2, 3, 4, 5, 6, 7, 8, 9, 10, 11] rfl (va_recv hK hP (ci := 5) (q0 := 0) rfl rfl) rfl hl.1 rfl (Nat.le_of_ble_eq_true rfl) dX5_good_14 ⟨Nat.zero_le _, Nat.zero_le _⟩ ?_
        refine z_topR (v := (ad 6)) (by rw [z_slot, if_pos c_s]) ?_
        refine zVR (As := [.ref (ad 6)]) (rest := []) ⟨hx, hb, hml, hown, hts⟩ (k_X5_isGood_6 l D cI ad K v f p a st n k tb tl ob im md rn) (cwV 1 hts gX5_good_X5_isGood rfl rfl rfl (by decide +kernel) ⟨Nat.le_of_ble_eq_true rfl, Nat.le_of_ble_eq_true rfl⟩) hP hK hN [0, 1, 2, 3, 4, 5, 6, 7, 8, 9, 10, 11] rfl (va_recv hK hP (ci := 5) (q0 := 0) rfl rfl) rfl hl.1 rfl (Nat.le_of_ble_eq_true rfl) dX5_good_17 ⟨Nat.zero_le _, Nat.zero_le _⟩ ?_
        refine lv_if_eq (tgt := 27) hx hb dX5_good_20 (by decide) (fun c_20 => ?_) (fun c_20 => ?_)
        · -- 20 t
          refine lv_iconst (v := 0) hx hb dX5_good_27 (by decide) ?_
          exact hret 28 ls 0 _ dX5_good_28 rfl rfl (congrArg Value.int (absurd c_s c_1))
        · -- 20 f
          refine lv_iconst (v := 1) hx hb dX5_good_23 (by decide) ?_
          refine lv_goto (tgt := 28) hx hb dX5_good_24 (by decide) ?_
          exact hret 28 ls 1 _ dX5_good_28 rfl rfl (congrArg Value.int (absurd c_s c_1))
      · -- split 11 False
        refine lv_aload_n hx hb dX5_good_11 rfl (lv_at hl 0 rfl) ?_
        refine lv_aload_n hx hb dX5_good_12 rfl (lv_at hl 0 rfl) ?_
        refine lv_iload_n hx hb dX5_good_13 rfl (lv_at hl 1 rfl) ?_
        refine zVR (As := [.int x]) (rest := [.ref (ad 0)]) ⟨hx, hb, hml, hown, hts⟩ (k_X5_slot l D cI ad K v f p a st n k tb tl ob im md rn x) (cwV 1 hts gX5_good_X5_slot rfl rfl rfl (by decide +kernel) ⟨Nat.le_of_ble_eq_true rfl, Nat.le_of_ble_eq_true rfl⟩) hP hK hN [0, 1, 2, 3, 4, 5, 6, 7, 8, 9, 10, 11] rfl (va_recv hK hP (ci := 5) (q0 := 0) rfl rfl) rfl hl.1 rfl (Nat.le_of_ble_eq_true rfl) dX5_good_14 ⟨Nat.zero_le _, Nat.zero_le _⟩ ?_
        refine z_topR (v := (ad 7)) (by rw [z_slot, if_neg c_s]) ?_
        refine zVR (As := [.ref (ad 7)]) (rest := []) ⟨hx, hb, hml, hown, hts⟩ (k_X5_isGood_7 l D cI ad K v f p a st n k tb tl ob im md rn) (cwV 1 hts gX5_good_X5_isGood rfl rfl rfl (by decide +kernel) ⟨Nat.le_of_ble_eq_true rfl, Nat.le_of_ble_eq_true rfl⟩) hP hK hN [0, 1, 2, 3, 4, 5, 6, 7, 8, 9, 10, 11] rfl (va_recv hK hP (ci := 5) (q0 := 0) rfl rfl) rfl hl.1 rfl (Nat.le_of_ble_eq_true rfl) dX5_good_17 ⟨Nat.zero_le _, Nat.zero_le _⟩ ?_
        refine lv_if_eq (tgt := 27) hx hb dX5_good_20 (by decide) (fun c_20 => ?_) (fun c_20 => ?_)
        · -- 20 t
          refine lv_iconst (v := 0) hx hb dX5_good_27 (by decide) ?_
          exact hret 28 ls 0 _ dX5_good_28 rfl rfl (congrArg Value.int (by simp only [c_good, c_good2, if_neg c_1, if_pos c_6, if_neg c_s, if_pos c_20]))
        · -- 20 f
          refine lv_iconst (v := 1) hx hb dX5_good_23 (by decide) ?_
          refine lv_goto (tgt := 28) hx hb dX5_good_24 (by decide) ?_
          exact hret 28 ls 1 _ dX5_good_28 rfl rfl (congrArg Value.int (by simp only [c_good, c_good2, if_neg c_1, if_pos c_6, if_neg c_s, if_neg c_20]))
    · -- 6 f
      refine lv_iconst (v := (-1)) hx hb dX5_good_9 (by decide) ?_
      exact hret 10 ls (-1) _ dX5_good_10 rfl rfl (congrArg Value.int (by simp only [c_good, c_good2, if_neg c_1, if_neg c_6]))
