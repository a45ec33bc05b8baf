set_option maxHeartbeats 4000000 in
set_option maxRecDepth 100000 in
theorem law_c0 {p0 : Program} {l : Launch} {e : Env} {s : State} {m : MethodId} {below : List Frame} {meth : Method} {c : Code} {b L : Nat} {xs : Nat → Int32} {D : va_G} {cI : ClassId} {ad am : Nat → Nat} {K : RW} {v : Int32} (C0 : lw_At p0 s m meth c b L xs) (hL : L ≤ 2051) (hK : va_K D vwCl [(cI, .int)] s) (hN : zN s) {f : RW} {p a st n k : Int32} {tb : RW} {tl : Nat} {ob im : RW} {md : Nat} {rn : Int32} {mim : RW} {mmd i : Nat} {H : Heap} {locs : List Loc} {ls : Array Slot} (hI : br_I f p st n tl rn) (hmd : mmd < 1000000) (hi : i + 3 < L) (hP : va_P D vwCl (lW cI ad am K v f p a st n k tb tl ob im md rn K v f tb tl p rn (br_lf st n) k a mim mmd) H) (hD : va_D (fun q : Nat => s.heap.size ≤ q) (lW cI ad am K v f p a st n k tb tl ob im md rn K v f tb tl p rn (br_lf st n) k a mim mmd)) (hS : va_S (fun q : Nat => s.heap.size ≤ q) s.heap H locs) (hl : lv_has ls 4 [(0, .ref b), (1, .ref (ad 0)), (2, .ref (am 0)), (3, .int (nI i))]) (kk : ∀ (f : RW) (p a st n k : Int32) (tb : RW) (tl : Nat) (ob im : RW) (md : Nat) (rn : Int32) (mim : RW) (mmd : Nat) (H : Heap) (locs : List Loc), br_I f p st n tl rn → mmd < 1000000 → va_P D vwCl (lW cI ad am K v f p a st n k tb tl ob im md rn K v f tb tl p rn (br_lf st n) k a mim mmd) H → va_D (fun q : Nat => s.heap.size ≤ q) (lW cI ad am K v f p a st n k tb tl ob im md rn K v f tb tl p rn (br_lf st n) k a mim mmd) → va_S (fun q : Nat => s.heap.size ≤ q) s.heap H locs → W p0 l e room_1 s m #[Value.ref b] below meth c H locs 600000 7302250 (lw_Z below #[Value.ref b] s) (F0 m 407 ls [])) : W p0 l e room_1 s m #[Value.ref b] below meth c H locs 600000 7302250 (lw_Z below #[Value.ref b] s) (F0 m 128 ls []) := by
  obtain ⟨hx, hb, hr, hml, hown0, hts0, hX, hbl, hlocks, hgv⟩ := C0
  have hb : c.code = cL_law := hb
  have hown : s.vm.findClass RL = some m.cls := hown0
  have hts : ∀ w ∈ wsL_law, w.before #[Value.ref b] s = true := fun w h => hts0 w (wsL_law_in w h)
  have hA : ∀ q : Nat, s.heap.size ≤ q → (fun q : Nat => s.heap.size ≤ q) q := fun _ h => h
  have hbA : ¬ (fun q : Nat => s.heap.size ≤ q) b := Nat.not_le.mpr hbl
  refine lv_aload_n hx hb dL_law_128 rfl (lv_at hl 1 rfl) ?_
  refine lv_aload_n hx hb dL_law_129 rfl (lv_at hl 0 rfl) ?_
  refine lv_iload_n hx hb dL_law_130 rfl (lv_at hl 3 rfl) ?_
  refine lv_iconst (v := 1) hx hb dL_law_131 (by decide) ?_
  refine lv_iadd hx hb dL_law_132 ?_
  refine z_top (v := nI (i + 1)) (nI_add i 1) ?_
  refine z_sld hx hb hX hbl hbA hS (i + 1) rfl (by omega) (by omega) dL_law_133 ?_
  refine lv_i2l (v := Int32.toInt64 (xs (i + 1))) hx hb dL_law_134 rfl ?_
  refine lv_bipush (v := 32) hx hb dL_law_135 (by decide) ?_
  refine lv_lshl (v := zlshl (Int32.toInt64 (xs (i + 1))) 32) hx hb dL_law_137 rfl ?_
  refine lv_aload_n hx hb dL_law_138 rfl (lv_at hl 0 rfl) ?_
  refine lv_iload_n hx hb dL_law_139 rfl (lv_at hl 3 rfl) ?_
  refine lv_iconst (v := 2) hx hb dL_law_140 (by decide) ?_
  refine lv_iadd hx hb dL_law_141 ?_
  refine z_top (v := nI (i + 2)) (nI_add i 2) ?_
  refine z_sld hx hb hX hbl hbA hS (i + 2) rfl (by omega) (by omega) dL_law_142 ?_
  refine lv_i2l (v := Int32.toInt64 (xs (i + 2))) hx hb dL_law_143 rfl ?_
  refine lv_ldc2 (v := 4294967295) hx hb hown (hts _ qL_6) dL_law_144 ?_
  refine lv_land hx hb dL_law_147 ?_
  refine lv_lor hx hb dL_law_148 ?_
  refine lv_aload_n hx hb dL_law_149 rfl (lv_at hl 0 rfl) ?_
  refine lv_iload_n hx hb dL_law_150 rfl (lv_at hl 3 rfl) ?_
  refine lv_iconst (v := 3) hx hb dL_law_151 (by decide) ?_
  refine lv_iadd hx hb dL_law_152 ?_
  refine z_top (v := nI (i + 3)) (nI_add i 3) ?_
  refine z_sld hx hb hX hbl hbA hS (i + 3) rfl (by omega) (by omega) dL_law_153 ?_
  refine zVW (ws' := fun u => lW cI ad am K v f p a st n k u.2.1 u.2.2 ob im md rn K v f tb tl p rn (br_lf st n) k a mim mmd) (As := [.long ((zlshl (Int32.toInt64 (xs (i + 1))) 32) ||| ((Int32.toInt64 (xs (i + 2))) &&& 4294967295)), .int (xs (i + 3))]) (rest := []) ⟨hx, hb, hml, hown, hts⟩ (k_X5_type l D cI ad K v f p a st n k tb tl ob im md rn ((zlshl (Int32.toInt64 (xs (i + 1))) 32) ||| ((Int32.toInt64 (xs (i + 2))) &&& 4294967295)) (xs (i + 3)) hI.2.2.2.2) (cwV 2 hts gL_law_X5_type rfl rfl rfl (by decide +kernel) ⟨Nat.le_of_ble_eq_true rfl, Nat.le_of_ble_eq_true rfl⟩) hP hK hN hD hS hA [0, 1, 2, 3, 4, 5, 6, 7, 8, 9, 10, 11] [12, 13, 14, 15, 16] (mW cI am K v f tb tl p rn (br_lf st n) k a mim mmd) rfl (by decide) rfl (fun _ => rfl) (fun _ => rfl) (fun _ => rfl) rfl (va_recv hK hP (ci := 5) (q0 := 0) rfl rfl) rfl hl.1 rfl (Nat.le_of_ble_eq_true rfl) dL_law_154 ⟨Nat.le_of_ble_eq_true rfl, Nat.le_of_ble_eq_true rfl⟩ (fun u_d H locs hu_d hP hD hS => ?_)
  obtain ⟨zd, tb_d, tl_d⟩ := u_d
  have hP : va_P D vwCl (lW cI ad am K v f p a st n k tb_d tl_d ob im md rn K v f tb tl p rn (br_lf st n) k a mim mmd) _ := hP
  have hD : va_D (fun q : Nat => s.heap.size ≤ q) (lW cI ad am K v f p a st n k tb_d tl_d ob im md rn K v f tb tl p rn (br_lf st n) k a mim mmd) := hD
  refine W.eq (g2 := F0 m 157 ls [.int zd]) rfl ?_
  refine lv_aload_n hx hb dL_law_157 rfl (lv_at hl 2 rfl) ?_
  refine lv_aload_n hx hb dL_law_158 rfl (lv_at hl 0 rfl) ?_
  refine lv_iload_n hx hb dL_law_159 rfl (lv_at hl 3 rfl) ?_
  refine lv_iconst (v := 1) hx hb dL_law_160 (by decide) ?_
  refine lv_iadd hx hb dL_law_161 ?_
  refine z_top (v := nI (i + 1)) (nI_add i 1) ?_
  refine z_sld hx hb hX hbl hbA hS (i + 1) rfl (by omega) (by omega) dL_law_162 ?_
  refine lv_i2l (v := Int32.toInt64 (xs (i + 1))) hx hb dL_law_163 rfl ?_
  refine lv_bipush (v := 32) hx hb dL_law_164 (by decide) ?_
  refine lv_lshl (v := zlshl (Int32.toInt64 (xs (i + 1))) 32) hx hb dL_law_166 rfl ?_
  refine lv_aload_n hx hb dL_law_167 rfl (lv_at hl 0 rfl) ?_
  refine lv_iload_n hx hb dL_law_168 rfl (lv_at hl 3 rfl) ?_
  refine lv_iconst (v := 2) hx hb dL_law_169 (by decide) ?_
  refine lv_iadd hx hb dL_law_170 ?_
  refine z_top (v := nI (i + 2)) (nI_add i 2) ?_
  refine z_sld hx hb hX hbl hbA hS (i + 2) rfl (by omega) (by omega) dL_law_171 ?_
  refine lv_i2l (v := Int32.toInt64 (xs (i + 2))) hx hb dL_law_172 rfl ?_
  refine lv_ldc2 (v := 4294967295) hx hb hown (hts _ qL_6) dL_law_173 ?_
  refine lv_land hx hb dL_law_176 ?_
  refine lv_lor hx hb dL_law_177 ?_
  refine lv_aload_n hx hb dL_law_178 rfl (lv_at hl 0 rfl) ?_
  refine lv_iload_n hx hb dL_law_179 rfl (lv_at hl 3 rfl) ?_
  refine lv_iconst (v := 3) hx hb dL_law_180 (by decide) ?_
  refine lv_iadd hx hb dL_law_181 ?_
  refine z_top (v := nI (i + 3)) (nI_add i 3) ?_
  refine z_sld hx hb hX hbl hbA hS (i + 3) rfl (by omega) (by omega) dL_law_182 ?_
  refine zVW (ws' := fun u => lW cI ad am K v f p a st n k tb_d tl_d ob im md rn K v f u.2.1 u.2.2 p rn (br_lf st n) k a mim mmd) (As := [.long ((zlshl (Int32.toInt64 (xs (i + 1))) 32) ||| ((Int32.toInt64 (xs (i + 2))) &&& 4294967295)), .int (xs (i + 3))]) (rest := [.int zd]) ⟨hx, hb, hml, hown, hts⟩ (k_X6_type l D cI am K v f tb tl p rn (br_lf st n) k a mim mmd ((zlshl (Int32.toInt64 (xs (i + 1))) 32) ||| ((Int32.toInt64 (xs (i + 2))) &&& 4294967295)) (xs (i + 3)) hI.2.2.2.2) (cwV 2 hts gL_law_X6_type rfl rfl rfl (by decide +kernel) ⟨Nat.le_of_ble_eq_true rfl, Nat.le_of_ble_eq_true rfl⟩) hP hK hN hD hS hA [12, 13, 14, 15, 16] [0, 1, 2, 3, 4, 5, 6, 7, 8, 9, 10, 11] (cW cI ad K v f p a st n k tb_d tl_d ob im md rn) rfl (by decide) rfl (fun _ => rfl) (fun _ => rfl) (fun _ => rfl) rfl (va_recv hK hP (ci := 6) (q0 := 12) rfl rfl) rfl hl.1 rfl (Nat.le_of_ble_eq_true rfl) dL_law_183 ⟨Nat.le_of_ble_eq_true rfl, Nat.le_of_ble_eq_true rfl⟩ (fun u_m H locs hu_m hP hD hS => ?_)
  obtain ⟨zm, tb_m, tl_m⟩ := u_m
  have hP : va_P D vwCl (lW cI ad am K v f p a st n k tb_d tl_d ob im md rn K v f tb_m tl_m p rn (br_lf st n) k a mim mmd) _ := hP
  have hD : va_D (fun q : Nat => s.heap.size ≤ q) (lW cI ad am K v f p a st n k tb_d tl_d ob im md rn K v f tb_m tl_m p rn (br_lf st n) k a mim mmd) := hD
  refine W.eq (g2 := F0 m 186 ls [.int zm, .int zd]) rfl ?_
  obtain ⟨e9, hI9⟩ := f_type hI hu_d hu_m
  cases e9
  refine lv_icmp_eq (tgt := 407) hx hb dL_law_186 (by decide) (fun c9 => ?_) (fun c9 => absurd rfl c9)
  exact kk _ _ _ _ _ _ _ _ _ _ _ _ _ _ _ _ hI9 hmd hP hD hS
set_option maxHeartbeats 4000000 in
set_option maxRecDepth 100000 in
theorem law_c1 {p0 : Program} {l : Launch} {e : Env} {s : State} {m : MethodId} {below : List Frame} {meth : Method} {c : Code} {b L : Nat} {xs : Nat → Int32} {D : va_G} {cI : ClassId} {ad am : Nat → Nat} {K : RW} {v : Int32} (C0 : lw_At p0 s m meth c b L xs) (hL : L ≤ 2051) (hK : va_K D vwCl [(cI, .int)] s) (hN : zN s) {f : RW} {p a st n k : Int32} {tb : RW} {tl : Nat} {ob im : RW} {md : Nat} {rn : Int32} {mim : RW} {mmd i : Nat} {H : Heap} {locs : List Loc} {ls : Array Slot} (hI : br_I f p st n tl rn) (hmd : mmd < 1000000) (hi : i + 3 < L) (hP : va_P D vwCl (lW cI ad am K v f p a st n k tb tl ob im md rn K v f tb tl p rn (br_lf st n) k a mim mmd) H) (hD : va_D (fun q : Nat => s.heap.size ≤ q) (lW cI ad am K v f p a st n k tb tl ob im md rn K v f tb tl p rn (br_lf st n) k a mim mmd)) (hS : va_S (fun q : Nat => s.heap.size ≤ q) s.heap H locs) (hl : lv_has ls 4 [(0, .ref b), (1, .ref (ad 0)), (2, .ref (am 0)), (3, .int (nI i))]) (kk : ∀ (f : RW) (p a st n k : Int32) (tb : RW) (tl : Nat) (ob im : RW) (md : Nat) (rn : Int32) (mim : RW) (mmd : Nat) (H : Heap) (locs : List Loc), br_I f p st n tl rn → mmd < 1000000 → va_P D vwCl (lW cI ad am K v f p a st n k tb tl ob im md rn K v f tb tl p rn (br_lf st n) k a mim mmd) H → va_D (fun q : Nat => s.heap.size ≤ q) (lW cI ad am K v f p a st n k tb tl ob im md rn K v f tb tl p rn (br_lf st n) k a mim mmd) → va_S (fun q : Nat => s.heap.size ≤ q) s.heap H locs → W p0 l e room_1 s m #[Value.ref b] below meth c H locs 600000 7302250 (lw_Z below #[Value.ref b] s) (F0 m 407 ls [])) : W p0 l e room_1 s m #[Value.ref b] below meth c H locs 600000 7302250 (lw_Z below #[Value.ref b] s) (F0 m 191 ls []) := by
  obtain ⟨hx, hb, hr, hml, hown0, hts0, hX, hbl, hlocks, hgv⟩ := C0
  have hb : c.code = cL_law := hb
  have hown : s.vm.findClass RL = some m.cls := hown0
  have hts : ∀ w ∈ wsL_law, w.before #[Value.ref b] s = true := fun w h => hts0 w (wsL_law_in w h)
  have hA : ∀ q : Nat, s.heap.size ≤ q → (fun q : Nat => s.heap.size ≤ q) q := fun _ h => h
  have hbA : ¬ (fun q : Nat => s.heap.size ≤ q) b := Nat.not_le.mpr hbl
  refine lv_aload_n hx hb dL_law_191 rfl (lv_at hl 1 rfl) ?_
  refine lv_aload_n hx hb dL_law_192 rfl (lv_at hl 0 rfl) ?_
  refine lv_iload_n hx hb dL_law_193 rfl (lv_at hl 3 rfl) ?_
  refine lv_iconst (v := 1) hx hb dL_law_194 (by decide) ?_
  refine lv_iadd hx hb dL_law_195 ?_
  refine z_top (v := nI (i + 1)) (nI_add i 1) ?_
  refine z_sld hx hb hX hbl hbA hS (i + 1) rfl (by omega) (by omega) dL_law_196 ?_
  refine zVW (ws' := fun u => lW cI ad am K v u.2.1 u.2.2.1 u.2.2.2.1 u.2.2.2.2.1 u.2.2.2.2.2.1 u.2.2.2.2.2.2.1 tb u.2.2.2.2.2.2.2.1 ob im md u.2.2.2.2.2.2.2.2 K v f tb tl p rn (br_lf st n) k a mim mmd) (As := [.int (xs (i + 1))]) (rest := []) ⟨hx, hb, hml, hown, hts⟩ (k_X5_factory l D cI ad K v f p a st n k tb tl ob im md rn (xs (i + 1)) hI.2.2.2.2) (cwV 1 hts gL_law_X5_factory rfl rfl rfl (by decide +kernel) ⟨Nat.le_of_ble_eq_true rfl, Nat.le_of_ble_eq_true rfl⟩) hP hK hN hD hS hA [0, 1, 2, 3, 4, 5, 6, 7, 8, 9, 10, 11] [12, 13, 14, 15, 16] (mW cI am K v f tb tl p rn (br_lf st n) k a mim mmd) rfl (by decide) rfl (fun _ => rfl) (fun _ => rfl) (fun _ => rfl) rfl (va_recv hK hP (ci := 5) (q0 := 0) rfl rfl) rfl hl.1 rfl (Nat.le_of_ble_eq_true rfl) dL_law_197 ⟨Nat.le_of_ble_eq_true rfl, Nat.le_of_ble_eq_true rfl⟩ (fun u_d H locs hu_d hP hD hS => ?_)
  obtain ⟨zd, f_d, p_d, a_d, st_d, n_d, k_d, tl_d, rn_d⟩ := u_d
  have hP : va_P D vwCl (lW cI ad am K v f_d p_d a_d st_d n_d k_d tb tl_d ob im md rn_d K v f tb tl p rn (br_lf st n) k a mim mmd) _ := hP
  have hD : va_D (fun q : Nat => s.heap.size ≤ q) (lW cI ad am K v f_d p_d a_d st_d n_d k_d tb tl_d ob im md rn_d K v f tb tl p rn (br_lf st n) k a mim mmd) := hD
  refine W.eq (g2 := F0 m 200 ls [.int zd]) rfl ?_
  refine lv_aload_n hx hb dL_law_200 rfl (lv_at hl 2 rfl) ?_
  refine lv_aload_n hx hb dL_law_201 rfl (lv_at hl 0 rfl) ?_
  refine lv_iload_n hx hb dL_law_202 rfl (lv_at hl 3 rfl) ?_
  refine lv_iconst (v := 1) hx hb dL_law_203 (by decide) ?_
  refine lv_iadd hx hb dL_law_204 ?_
  refine z_top (v := nI (i + 1)) (nI_add i 1) ?_
  refine z_sld hx hb hX hbl hbA hS (i + 1) rfl (by omega) (by omega) dL_law_205 ?_
  refine zVW (ws' := fun u => lW cI ad am K v f_d p_d a_d st_d n_d k_d tb tl_d ob im md rn_d K v u.2.1 tb u.2.2.2.2.2.2 u.2.2.1 u.2.2.2.1 u.2.2.2.2.1 k u.2.2.2.2.2.1 mim mmd) (As := [.int (xs (i + 1))]) (rest := [.int zd]) ⟨hx, hb, hml, hown, hts⟩ (k_X6_factory l D cI am K v f tb tl p rn (br_lf st n) k a mim mmd (xs (i + 1)) hI.2.2.2.2) (cwV 1 hts gL_law_X6_factory rfl rfl rfl (by decide +kernel) ⟨Nat.le_of_ble_eq_true rfl, Nat.le_of_ble_eq_true rfl⟩) hP hK hN hD hS hA [12, 13, 14, 15, 16] [0, 1, 2, 3, 4, 5, 6, 7, 8, 9, 10, 11] (cW cI ad K v f_d p_d a_d st_d n_d k_d tb tl_d ob im md rn_d) rfl (by decide) rfl (fun _ => rfl) (fun _ => rfl) (fun _ => rfl) rfl (va_recv hK hP (ci := 6) (q0 := 12) rfl rfl) rfl hl.1 rfl (Nat.le_of_ble_eq_true rfl) dL_law_206 ⟨Nat.le_of_ble_eq_true rfl, Nat.le_of_ble_eq_true rfl⟩ (fun u_m H locs hu_m hP hD hS => ?_)
  obtain ⟨zm, f_m, p_m, r_m, lf_m, a_m, tl_m⟩ := u_m
  have hP : va_P D vwCl (lW cI ad am K v f_d p_d a_d st_d n_d k_d tb tl_d ob im md rn_d K v f_m tb tl_m p_m r_m lf_m k a_m mim mmd) _ := hP
  have hD : va_D (fun q : Nat => s.heap.size ≤ q) (lW cI ad am K v f_d p_d a_d st_d n_d k_d tb tl_d ob im md rn_d K v f_m tb tl_m p_m r_m lf_m k a_m mim mmd) := hD
  refine W.eq (g2 := F0 m 209 ls [.int zm, .int zd]) rfl ?_
  obtain ⟨e9, hI9⟩ := f_factory hI hu_d hu_m
  cases e9
  refine lv_icmp_eq (tgt := 407) hx hb dL_law_209 (by decide) (fun c9 => ?_) (fun c9 => absurd rfl c9)
  exact kk _ _ _ _ _ _ _ _ _ _ _ _ _ _ _ _ hI9 hmd hP hD hS
set_option maxHeartbeats 4000000 in
set_option maxRecDepth 100000 in
theorem law_c2 {p0 : Program} {l : Launch} {e : Env} {s : State} {m : MethodId} {below : List Frame} {meth : Method} {c : Code} {b L : Nat} {xs : Nat → Int32} {D : va_G} {cI : ClassId} {ad am : Nat → Nat} {K : RW} {v : Int32} (C0 : lw_At p0 s m meth c b L xs) (hL : L ≤ 2051) (hK : va_K D vwCl [(cI, .int)] s) (hN : zN s) {f : RW} {p a st n k : Int32} {tb : RW} {tl : Nat} {ob im : RW} {md : Nat} {rn : Int32} {mim : RW} {mmd i : Nat} {H : Heap} {locs : List Loc} {ls : Array Slot} (hI : br_I f p st n tl rn) (hmd : mmd < 1000000) (hi : i + 3 < L) (hP : va_P D vwCl (lW cI ad am K v f p a st n k tb tl ob im md rn K v f tb tl p rn (br_lf st n) k a mim mmd) H) (hD : va_D (fun q : Nat => s.heap.size ≤ q) (lW cI ad am K v f p a st n k tb tl ob im md rn K v f tb tl p rn (br_lf st n) k a mim mmd)) (hS : va_S (fun q : Nat => s.heap.size ≤ q) s.heap H locs) (hl : lv_has ls 4 [(0, .ref b), (1, .ref (ad 0)), (2, .ref (am 0)), (3, .int (nI i))]) (kk : ∀ (f : RW) (p a st n k : Int32) (tb : RW) (tl : Nat) (ob im : RW) (md : Nat) (rn : Int32) (mim : RW) (mmd : Nat) (H : Heap) (locs : List Loc), br_I f p st n tl rn → mmd < 1000000 → va_P D vwCl (lW cI ad am K v f p a st n k tb tl ob im md rn K v f tb tl p rn (br_lf st n) k a mim mmd) H → va_D (fun q : Nat => s.heap.size ≤ q) (lW cI ad am K v f p a st n k tb tl ob im md rn K v f tb tl p rn (br_lf st n) k a mim mmd) → va_S (fun q : Nat => s.heap.size ≤ q) s.heap H locs → W p0 l e room_1 s m #[Value.ref b] below meth c H locs 600000 7302250 (lw_Z below #[Value.ref b] s) (F0 m 407 ls [])) : W p0 l e room_1 s m #[Value.ref b] below meth c H locs 600000 7302250 (lw_Z below #[Value.ref b] s) (F0 m 214 ls []) := by
  obtain ⟨hx, hb, hr, hml, hown0, hts0, hX, hbl, hlocks, hgv⟩ := C0
  have hb : c.code = cL_law := hb
  have hown : s.vm.findClass RL = some m.cls := hown0
  have hts : ∀ w ∈ wsL_law, w.before #[Value.ref b] s = true := fun w h => hts0 w (wsL_law_in w h)
  have hA : ∀ q : Nat, s.heap.size ≤ q → (fun q : Nat => s.heap.size ≤ q) q := fun _ h => h
  have hbA : ¬ (fun q : Nat => s.heap.size ≤ q) b := Nat.not_le.mpr hbl
  refine lv_aload_n hx hb dL_law_214 rfl (lv_at hl 1 rfl) ?_
  refine zVW (ws' := fun u => lW cI ad am K v u.2.2.1 u.2.2.2.1 u.2.2.2.2.1 u.2.2.2.2.2.1 u.2.2.2.2.2.2.1 u.2.2.2.2.2.2.2.1 tb u.2.2.2.2.2.2.2.2.1 u.2.1 im md u.2.2.2.2.2.2.2.2.2 K v f tb tl p rn (br_lf st n) k a mim mmd) (As := []) (rest := []) ⟨hx, hb, hml, hown, hts⟩ (k_X5_manifest l D cI ad K v f p a st n k tb tl ob im md rn hI.2.2.2.2) (cwV 0 hts gL_law_X5_manifest rfl rfl rfl (by decide +kernel) ⟨Nat.le_of_ble_eq_true rfl, Nat.le_of_ble_eq_true rfl⟩) hP hK hN hD hS hA [0, 1, 2, 3, 4, 5, 6, 7, 8, 9, 10, 11] [12, 13, 14, 15, 16] (mW cI am K v f tb tl p rn (br_lf st n) k a mim mmd) rfl (by decide) rfl (fun _ => rfl) (fun _ => rfl) (fun _ => rfl) rfl (va_recv hK hP (ci := 5) (q0 := 0) rfl rfl) rfl hl.1 rfl (Nat.le_of_ble_eq_true rfl) dL_law_215 ⟨Nat.le_of_ble_eq_true rfl, Nat.le_of_ble_eq_true rfl⟩ (fun u_d H locs hu_d hP hD hS => ?_)
  obtain ⟨zd, ob_d, f_d, p_d, a_d, st_d, n_d, k_d, tl_d, rn_d⟩ := u_d
  have hP : va_P D vwCl (lW cI ad am K v f_d p_d a_d st_d n_d k_d tb tl_d ob_d im md rn_d K v f tb tl p rn (br_lf st n) k a mim mmd) _ := hP
  have hD : va_D (fun q : Nat => s.heap.size ≤ q) (lW cI ad am K v f_d p_d a_d st_d n_d k_d tb tl_d ob_d im md rn_d K v f tb tl p rn (br_lf st n) k a mim mmd) := hD
  refine W.eq (g2 := F0 m 218 ls [.int zd]) rfl ?_
  refine lv_aload_n hx hb dL_law_218 rfl (lv_at hl 2 rfl) ?_
  refine zVW (ws' := fun u => lW cI ad am K v f_d p_d a_d st_d n_d k_d tb tl_d ob_d im md rn_d K v u.2.1 tb u.2.2.2.2.2.2 u.2.2.1 u.2.2.2.1 u.2.2.2.2.1 k u.2.2.2.2.2.1 mim mmd) (As := []) (rest := [.int zd]) ⟨hx, hb, hml, hown, hts⟩ (k_X6_manifest l D cI am K v f tb tl p rn (br_lf st n) k a mim mmd hI.2.2.2.2 hI.2.2.2.1) (cwV 0 hts gL_law_X6_manifest rfl rfl rfl (by decide +kernel) ⟨Nat.le_of_ble_eq_true rfl, Nat.le_of_ble_eq_true rfl⟩) hP hK hN hD hS hA [12, 13, 14, 15, 16] [0, 1, 2, 3, 4, 5, 6, 7, 8, 9, 10, 11] (cW cI ad K v f_d p_d a_d st_d n_d k_d tb tl_d ob_d im md rn_d) rfl (by decide) rfl (fun _ => rfl) (fun _ => rfl) (fun _ => rfl) rfl (va_recv hK hP (ci := 6) (q0 := 12) rfl rfl) rfl hl.1 rfl (Nat.le_of_ble_eq_true rfl) dL_law_219 ⟨Nat.le_of_ble_eq_true rfl, Nat.le_of_ble_eq_true rfl⟩ (fun u_m H locs hu_m hP hD hS => ?_)
  obtain ⟨zm, f_m, p_m, r_m, lf_m, a_m, tl_m⟩ := u_m
  have hP : va_P D vwCl (lW cI ad am K v f_d p_d a_d st_d n_d k_d tb tl_d ob_d im md rn_d K v f_m tb tl_m p_m r_m lf_m k a_m mim mmd) _ := hP
  have hD : va_D (fun q : Nat => s.heap.size ≤ q) (lW cI ad am K v f_d p_d a_d st_d n_d k_d tb tl_d ob_d im md rn_d K v f_m tb tl_m p_m r_m lf_m k a_m mim mmd) := hD
  refine W.eq (g2 := F0 m 222 ls [.int zm, .int zd]) rfl ?_
  obtain ⟨e9, hI9⟩ := f_manifest (fun _ _ => rfl) hI hu_d hu_m
  cases e9
  refine lv_icmp_eq (tgt := 407) hx hb dL_law_222 (by decide) (fun c9 => ?_) (fun c9 => absurd rfl c9)
  exact kk _ _ _ _ _ _ _ _ _ _ _ _ _ _ _ _ hI9 hmd hP hD hS
set_option maxHeartbeats 4000000 in
set_option maxRecDepth 100000 in
theorem law_c3 {p0 : Program} {l : Launch} {e : Env} {s : State} {m : MethodId} {below : List Frame} {meth : Method} {c : Code} {b L : Nat} {xs : Nat → Int32} {D : va_G} {cI : ClassId} {ad am : Nat → Nat} {K : RW} {v : Int32} (C0 : lw_At p0 s m meth c b L xs) (hL : L ≤ 2051) (hK : va_K D vwCl [(cI, .int)] s) (hN : zN s) {f : RW} {p a st n k : Int32} {tb : RW} {tl : Nat} {ob im : RW} {md : Nat} {rn : Int32} {mim : RW} {mmd i : Nat} {H : Heap} {locs : List Loc} {ls : Array Slot} (hI : br_I f p st n tl rn) (hmd : mmd < 1000000) (hi : i + 3 < L) (hP : va_P D vwCl (lW cI ad am K v f p a st n k tb tl ob im md rn K v f tb tl p rn (br_lf st n) k a mim mmd) H) (hD : va_D (fun q : Nat => s.heap.size ≤ q) (lW cI ad am K v f p a st n k tb tl ob im md rn K v f tb tl p rn (br_lf st n) k a mim mmd)) (hS : va_S (fun q : Nat => s.heap.size ≤ q) s.heap H locs) (hl : lv_has ls 4 [(0, .ref b), (1, .ref (ad 0)), (2, .ref (am 0)), (3, .int (nI i))]) (kk : ∀ (f : RW) (p a st n k : Int32) (tb : RW) (tl : Nat) (ob im : RW) (md : Nat) (rn : Int32) (mim : RW) (mmd : Nat) (H : Heap) (locs : List Loc), br_I f p st n tl rn → mmd < 1000000 → va_P D vwCl (lW cI ad am K v f p a st n k tb tl ob im md rn K v f tb tl p rn (br_lf st n) k a mim mmd) H → va_D (fun q : Nat => s.heap.size ≤ q) (lW cI ad am K v f p a st n k tb tl ob im md rn K v f tb tl p rn (br_lf st n) k a mim mmd) → va_S (fun q : Nat => s.heap.size ≤ q) s.heap H locs → W p0 l e room_1 s m #[Value.ref b] below meth c H locs 600000 7302250 (lw_Z below #[Value.ref b] s) (F0 m 407 ls [])) : W p0 l e room_1 s m #[Value.ref b] below meth c H locs 600000 7302250 (lw_Z below #[Value.ref b] s) (F0 m 227 ls []) := by
  obtain ⟨hx, hb, hr, hml, hown0, hts0, hX, hbl, hlocks, hgv⟩ := C0
  have hb : c.code = cL_law := hb
  have hown : s.vm.findClass RL = some m.cls := hown0
  have hts : ∀ w ∈ wsL_law, w.before #[Value.ref b] s = true := fun w h => hts0 w (wsL_law_in w h)
  have hA : ∀ q : Nat, s.heap.size ≤ q → (fun q : Nat => s.heap.size ≤ q) q := fun _ h => h
  have hbA : ¬ (fun q : Nat => s.heap.size ≤ q) b := Nat.not_le.mpr hbl
  refine lv_aload_n hx hb dL_law_227 rfl (lv_at hl 1 rfl) ?_
  refine lv_aload_n hx hb dL_law_228 rfl (lv_at hl 0 rfl) ?_
  refine lv_iload_n hx hb dL_law_229 rfl (lv_at hl 3 rfl) ?_
  refine lv_iconst (v := 1) hx hb dL_law_230 (by decide) ?_
  refine lv_iadd hx hb dL_law_231 ?_
  refine z_top (v := nI (i + 1)) (nI_add i 1) ?_
  refine z_sld hx hb hX hbl hbA hS (i + 1) rfl (by omega) (by omega) dL_law_232 ?_
  refine zVW (ws' := fun u => lW cI ad am K v u.2.2.1 u.2.2.2.1 u.2.2.2.2.1 u.2.2.2.2.2.1 u.2.2.2.2.2.2.1 u.2.2.2.2.2.2.2.1 tb u.2.2.2.2.2.2.2.2.1 u.2.1 im md u.2.2.2.2.2.2.2.2.2 K v f tb tl p rn (br_lf st n) k a mim mmd) (As := [.int (xs (i + 1))]) (rest := []) ⟨hx, hb, hml, hown, hts⟩ (k_X5_block l D cI ad K v f p a st n k tb tl ob im md rn (xs (i + 1)) hI.2.2.2.2) (cwV 1 hts gL_law_X5_block rfl rfl rfl (by decide +kernel) ⟨Nat.le_of_ble_eq_true rfl, Nat.le_of_ble_eq_true rfl⟩) hP hK hN hD hS hA [0, 1, 2, 3, 4, 5, 6, 7, 8, 9, 10, 11] [12, 13, 14, 15, 16] (mW cI am K v f tb tl p rn (br_lf st n) k a mim mmd) rfl (by decide) rfl (fun _ => rfl) (fun _ => rfl) (fun _ => rfl) rfl (va_recv hK hP (ci := 5) (q0 := 0) rfl rfl) rfl hl.1 rfl (Nat.le_of_ble_eq_true rfl) dL_law_233 ⟨Nat.le_of_ble_eq_true rfl, Nat.le_of_ble_eq_true rfl⟩ (fun u_d H locs hu_d hP hD hS => ?_)
  obtain ⟨zd, ob_d, f_d, p_d, a_d, st_d, n_d, k_d, tl_d, rn_d⟩ := u_d
  have hP : va_P D vwCl (lW cI ad am K v f_d p_d a_d st_d n_d k_d tb tl_d ob_d im md rn_d K v f tb tl p rn (br_lf st n) k a mim mmd) _ := hP
  have hD : va_D (fun q : Nat => s.heap.size ≤ q) (lW cI ad am K v f_d p_d a_d st_d n_d k_d tb tl_d ob_d im md rn_d K v f tb tl p rn (br_lf st n) k a mim mmd) := hD
  refine W.eq (g2 := F0 m 236 ls [.int zd]) rfl ?_
  refine lv_aload_n hx hb dL_law_236 rfl (lv_at hl 2 rfl) ?_
  refine lv_aload_n hx hb dL_law_237 rfl (lv_at hl 0 rfl) ?_
  refine lv_iload_n hx hb dL_law_238 rfl (lv_at hl 3 rfl) ?_
  refine lv_iconst (v := 1) hx hb dL_law_239 (by decide) ?_
  refine lv_iadd hx hb dL_law_240 ?_
  refine z_top (v := nI (i + 1)) (nI_add i 1) ?_
  refine z_sld hx hb hX hbl hbA hS (i + 1) rfl (by omega) (by omega) dL_law_241 ?_
  refine zVW (ws' := fun u => lW cI ad am K v f_d p_d a_d st_d n_d k_d tb tl_d ob_d im md rn_d K v u.2.1 tb u.2.2.2.2.2.2 u.2.2.1 u.2.2.2.1 u.2.2.2.2.1 k u.2.2.2.2.2.1 mim mmd) (As := [.int (xs (i + 1))]) (rest := [.int zd]) ⟨hx, hb, hml, hown, hts⟩ (k_X6_block l D cI am K v f tb tl p rn (br_lf st n) k a mim mmd (xs (i + 1)) hI.2.2.2.2) (cwV 1 hts gL_law_X6_block rfl rfl rfl (by decide +kernel) ⟨Nat.le_of_ble_eq_true rfl, Nat.le_of_ble_eq_true rfl⟩) hP hK hN hD hS hA [12, 13, 14, 15, 16] [0, 1, 2, 3, 4, 5, 6, 7, 8, 9, 10, 11] (cW cI ad K v f_d p_d a_d st_d n_d k_d tb tl_d ob_d im md rn_d) rfl (by decide) rfl (fun _ => rfl) (fun _ => rfl) (fun _ => rfl) rfl (va_recv hK hP (ci := 6) (q0 := 12) rfl rfl) rfl hl.1 rfl (Nat.le_of_ble_eq_true rfl) dL_law_242 ⟨Nat.le_of_ble_eq_true rfl, Nat.le_of_ble_eq_true rfl⟩ (fun u_m H locs hu_m hP hD hS => ?_)
  obtain ⟨zm, f_m, p_m, r_m, lf_m, a_m, tl_m⟩ := u_m
  have hP : va_P D vwCl (lW cI ad am K v f_d p_d a_d st_d n_d k_d tb tl_d ob_d im md rn_d K v f_m tb tl_m p_m r_m lf_m k a_m mim mmd) _ := hP
  have hD : va_D (fun q : Nat => s.heap.size ≤ q) (lW cI ad am K v f_d p_d a_d st_d n_d k_d tb tl_d ob_d im md rn_d K v f_m tb tl_m p_m r_m lf_m k a_m mim mmd) := hD
  refine W.eq (g2 := F0 m 245 ls [.int zm, .int zd]) rfl ?_
  obtain ⟨e9, hI9⟩ := f_block (fun _ _ => rfl) hI hu_d hu_m
  cases e9
  refine lv_icmp_eq (tgt := 407) hx hb dL_law_245 (by decide) (fun c9 => ?_) (fun c9 => absurd rfl c9)
  exact kk _ _ _ _ _ _ _ _ _ _ _ _ _ _ _ _ hI9 hmd hP hD hS
