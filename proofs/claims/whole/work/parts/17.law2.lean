set_option maxHeartbeats 4000000 in
set_option maxRecDepth 100000 in
theorem law_c4 {p0 : Program} {l : Launch} {e : Env} {s : State} {m : MethodId} {below : List Frame} {meth : Method} {c : Code} {b L : Nat} {xs : Nat → Int32} {D : va_G} {cI : ClassId} {ad am : Nat → Nat} {K : RW} {v : Int32} (C0 : lw_At p0 s m meth c b L xs) (hL : L ≤ 2051) (hK : va_K D vwCl [(cI, .int)] s) (hN : zN s) {f : RW} {p a st n k : Int32} {tb : RW} {tl : Nat} {ob im : RW} {md : Nat} {rn : Int32} {mim : RW} {mmd i : Nat} {H : Heap} {locs : List Loc} {ls : Array Slot} (hI : br_I f p st n tl rn) (hmd : mmd < 1000000) (hi : i + 3 < L) (hP : va_P D vwCl (lW cI ad am K v f p a st n k tb tl ob im md rn K v f tb tl p rn (br_lf st n) k a mim mmd) H) (hD : va_D (fun q : Nat => s.heap.size ≤ q) (lW cI ad am K v f p a st n k tb tl ob im md rn K v f tb tl p rn (br_lf st n) k a mim mmd)) (hS : va_S (fun q : Nat => s.heap.size ≤ q) s.heap H locs) (hl : lv_has ls 4 [(0, .ref b), (1, .ref (ad 0)), (2, .ref (am 0)), (3, .int (nI i))]) (kk : ∀ (f : RW) (p a st n k : Int32) (tb : RW) (tl : Nat) (ob im : RW) (md : Nat) (rn : Int32) (mim : RW) (mmd : Nat) (H : Heap) (locs : List Loc), br_I f p st n tl rn → mmd < 1000000 → va_P D vwCl (lW cI ad am K v f p a st n k tb tl ob im md rn K v f tb tl p rn (br_lf st n) k a mim mmd) H → va_D (fun q : Nat => s.heap.size ≤ q) (lW cI ad am K v f p a st n k tb tl ob im md rn K v f tb tl p rn (br_lf st n) k a mim mmd) → va_S (fun q : Nat => s.heap.size ≤ q) s.heap H locs → W p0 l e room_1 s m #[Value.ref b] below meth c H locs 600000 7302250 (lw_Z below #[Value.ref b] s) (F0 m 407 ls [])) : W p0 l e room_1 s m #[Value.ref b] below meth c H locs 600000 7302250 (lw_Z below #[Value.ref b] s) (F0 m 250 ls []) := by
  obtain ⟨hx, hb, hr, hml, hown0, hts0, hX, hbl, hlocks, hgv⟩ := C0
  have hb : c.code = cL_law := hb
  have hown : s.vm.findClass RL = some m.cls := hown0
  have hts : ∀ w ∈ wsL_law, w.before #[Value.ref b] s = true := fun w h => hts0 w (wsL_law_in w h)
  have hA : ∀ q : Nat, s.heap.size ≤ q → (fun q : Nat => s.heap.size ≤ q) q := fun _ h => h
  have hbA : ¬ (fun q : Nat => s.heap.size ≤ q) b := Nat.not_le.mpr hbl
  refine lv_aload_n hx hb dL_law_250 rfl (lv_at hl 1 rfl) ?_
  refine zVW (ws' := fun u => lW cI ad am K v u.2.2.1 u.2.2.2.1 u.2.2.2.2.1 u.2.2.2.2.2.1 u.2.2.2.2.2.2.1 u.2.2.2.2.2.2.2.1 tb tl u.2.1 u.2.2.2.2.2.2.2.2.1 u.2.2.2.2.2.2.2.2.2.1 u.2.2.2.2.2.2.2.2.2.2 K v f tb tl p rn (br_lf st n) k a mim mmd) (As := []) (rest := []) ⟨hx, hb, hml, hown, hts⟩ (k_X5_install l D cI ad K v f p a st n k tb tl ob im md rn hI.1) (cwV 0 hts gL_law_X5_install rfl rfl rfl (by decide +kernel) ⟨Nat.le_of_ble_eq_true rfl, Nat.le_of_ble_eq_true rfl⟩) hP hK hN hD hS hA [0, 1, 2, 3, 4, 5, 6, 7, 8, 9, 10, 11] [12, 13, 14, 15, 16] (mW cI am K v f tb tl p rn (br_lf st n) k a mim mmd) rfl (by decide) rfl (fun _ => rfl) (fun _ => rfl) (fun _ => rfl) rfl (va_recv hK hP (ci := 5) (q0 := 0) rfl rfl) rfl hl.1 rfl (Nat.le_of_ble_eq_true rfl) dL_law_251 ⟨Nat.le_of_ble_eq_true rfl, Nat.le_of_ble_eq_true rfl⟩ (fun u_d H locs hu_d hP hD hS => ?_)
  obtain ⟨zd, ob_d, f_d, p_d, a_d, st_d, n_d, k_d, im_d, md_d, rn_d⟩ := u_d
  have hP : va_P D vwCl (lW cI ad am K v f_d p_d a_d st_d n_d k_d tb tl ob_d im_d md_d rn_d K v f tb tl p rn (br_lf st n) k a mim mmd) _ := hP
  have hD : va_D (fun q : Nat => s.heap.size ≤ q) (lW cI ad am K v f_d p_d a_d st_d n_d k_d tb tl ob_d im_d md_d rn_d K v f tb tl p rn (br_lf st n) k a mim mmd) := hD
  refine W.eq (g2 := F0 m 254 ls [.int zd]) rfl ?_
  refine lv_aload_n hx hb dL_law_254 rfl (lv_at hl 2 rfl) ?_
  refine zVW (ws' := fun u => lW cI ad am K v f_d p_d a_d st_d n_d k_d tb tl ob_d im_d md_d rn_d K v u.2.1 tb tl u.2.2.1 u.2.2.2.1 u.2.2.2.2.1 k u.2.2.2.2.2.1 u.2.2.2.2.2.2.1 u.2.2.2.2.2.2.2) (As := []) (rest := [.int zd]) ⟨hx, hb, hml, hown, hts⟩ (k_X6_install l D cI am K v f tb tl p rn (br_lf st n) k a mim mmd hI.1 hI.2.2.2.1 hmd) (cwV 0 hts gL_law_X6_install rfl rfl rfl (by decide +kernel) ⟨Nat.le_of_ble_eq_true rfl, Nat.le_of_ble_eq_true rfl⟩) hP hK hN hD hS hA [12, 13, 14, 15, 16] [0, 1, 2, 3, 4, 5, 6, 7, 8, 9, 10, 11] (cW cI ad K v f_d p_d a_d st_d n_d k_d tb tl ob_d im_d md_d rn_d) rfl (by decide) rfl (fun _ => rfl) (fun _ => rfl) (fun _ => rfl) rfl (va_recv hK hP (ci := 6) (q0 := 12) rfl rfl) rfl hl.1 rfl (Nat.le_of_ble_eq_true rfl) dL_law_255 ⟨Nat.le_of_ble_eq_true rfl, Nat.le_of_ble_eq_true rfl⟩ (fun u_m H locs hu_m hP hD hS => ?_)
  obtain ⟨zm, f_m, p_m, r_m, lf_m, a_m, im_m, md_m⟩ := u_m
  have hP : va_P D vwCl (lW cI ad am K v f_d p_d a_d st_d n_d k_d tb tl ob_d im_d md_d rn_d K v f_m tb tl p_m r_m lf_m k a_m im_m md_m) _ := hP
  have hD : va_D (fun q : Nat => s.heap.size ≤ q) (lW cI ad am K v f_d p_d a_d st_d n_d k_d tb tl ob_d im_d md_d rn_d K v f_m tb tl p_m r_m lf_m k a_m im_m md_m) := hD
  refine W.eq (g2 := F0 m 258 ls [.int zm, .int zd]) rfl ?_
  obtain ⟨e9, hI9, hM9⟩ := f_install (fun _ _ => rfl) hI hmd hu_d hu_m
  cases e9
  refine lv_icmp_eq (tgt := 407) hx hb dL_law_258 (by decide) (fun c9 => ?_) (fun c9 => absurd rfl c9)
  exact kk _ _ _ _ _ _ _ _ _ _ _ _ _ _ _ _ hI9 hM9 hP hD hS
set_option maxHeartbeats 4000000 in
set_option maxRecDepth 100000 in
theorem law_c5 {p0 : Program} {l : Launch} {e : Env} {s : State} {m : MethodId} {below : List Frame} {meth : Method} {c : Code} {b L : Nat} {xs : Nat → Int32} {D : va_G} {cI : ClassId} {ad am : Nat → Nat} {K : RW} {v : Int32} (C0 : lw_At p0 s m meth c b L xs) (hL : L ≤ 2051) (hK : va_K D vwCl [(cI, .int)] s) (hN : zN s) {f : RW} {p a st n k : Int32} {tb : RW} {tl : Nat} {ob im : RW} {md : Nat} {rn : Int32} {mim : RW} {mmd i : Nat} {H : Heap} {locs : List Loc} {ls : Array Slot} (hI : br_I f p st n tl rn) (hmd : mmd < 1000000) (hi : i + 3 < L) (hP : va_P D vwCl (lW cI ad am K v f p a st n k tb tl ob im md rn K v f tb tl p rn (br_lf st n) k a mim mmd) H) (hD : va_D (fun q : Nat => s.heap.size ≤ q) (lW cI ad am K v f p a st n k tb tl ob im md rn K v f tb tl p rn (br_lf st n) k a mim mmd)) (hS : va_S (fun q : Nat => s.heap.size ≤ q) s.heap H locs) (hl : lv_has ls 4 [(0, .ref b), (1, .ref (ad 0)), (2, .ref (am 0)), (3, .int (nI i))]) (kk : ∀ (f : RW) (p a st n k : Int32) (tb : RW) (tl : Nat) (ob im : RW) (md : Nat) (rn : Int32) (mim : RW) (mmd : Nat) (H : Heap) (locs : List Loc), br_I f p st n tl rn → mmd < 1000000 → va_P D vwCl (lW cI ad am K v f p a st n k tb tl ob im md rn K v f tb tl p rn (br_lf st n) k a mim mmd) H → va_D (fun q : Nat => s.heap.size ≤ q) (lW cI ad am K v f p a st n k tb tl ob im md rn K v f tb tl p rn (br_lf st n) k a mim mmd) → va_S (fun q : Nat => s.heap.size ≤ q) s.heap H locs → W p0 l e room_1 s m #[Value.ref b] below meth c H locs 600000 7302250 (lw_Z below #[Value.ref b] s) (F0 m 407 ls [])) : W p0 l e room_1 s m #[Value.ref b] below meth c H locs 600000 7302250 (lw_Z below #[Value.ref b] s) (F0 m 263 ls []) := by
  obtain ⟨hx, hb, hr, hml, hown0, hts0, hX, hbl, hlocks, hgv⟩ := C0
  have hb : c.code = cL_law := hb
  have hown : s.vm.findClass RL = some m.cls := hown0
  have hts : ∀ w ∈ wsL_law, w.before #[Value.ref b] s = true := fun w h => hts0 w (wsL_law_in w h)
  have hA : ∀ q : Nat, s.heap.size ≤ q → (fun q : Nat => s.heap.size ≤ q) q := fun _ h => h
  have hbA : ¬ (fun q : Nat => s.heap.size ≤ q) b := Nat.not_le.mpr hbl
  refine lv_aload_n hx hb dL_law_263 rfl (lv_at hl 1 rfl) ?_
  refine zVW (ws' := fun u => lW cI ad am K v u.2.1 u.2.2.1 u.2.2.2.1 u.2.2.2.2.1 u.2.2.2.2.2.1 u.2.2.2.2.2.2.1 tb tl ob im md u.2.2.2.2.2.2.2 K v f tb tl p rn (br_lf st n) k a mim mmd) (As := []) (rest := []) ⟨hx, hb, hml, hown, hts⟩ (k_X5_boot l D cI ad K v f p a st n k tb tl ob im md rn) (cwV 0 hts gL_law_X5_boot rfl rfl rfl (by decide +kernel) ⟨Nat.le_of_ble_eq_true rfl, Nat.le_of_ble_eq_true rfl⟩) hP hK hN hD hS hA [0, 1, 2, 3, 4, 5, 6, 7, 8, 9, 10, 11] [12, 13, 14, 15, 16] (mW cI am K v f tb tl p rn (br_lf st n) k a mim mmd) rfl (by decide) rfl (fun _ => rfl) (fun _ => rfl) (fun _ => rfl) rfl (va_recv hK hP (ci := 5) (q0 := 0) rfl rfl) rfl hl.1 rfl (Nat.le_of_ble_eq_true rfl) dL_law_264 ⟨Nat.le_of_ble_eq_true rfl, Nat.le_of_ble_eq_true rfl⟩ (fun u_d H locs hu_d hP hD hS => ?_)
  obtain ⟨zd, f_d, p_d, a_d, st_d, n_d, k_d, rn_d⟩ := u_d
  have hP : va_P D vwCl (lW cI ad am K v f_d p_d a_d st_d n_d k_d tb tl ob im md rn_d K v f tb tl p rn (br_lf st n) k a mim mmd) _ := hP
  have hD : va_D (fun q : Nat => s.heap.size ≤ q) (lW cI ad am K v f_d p_d a_d st_d n_d k_d tb tl ob im md rn_d K v f tb tl p rn (br_lf st n) k a mim mmd) := hD
  refine W.eq (g2 := F0 m 267 ls [.int zd]) rfl ?_
  refine lv_aload_n hx hb dL_law_267 rfl (lv_at hl 2 rfl) ?_
  refine zVW (ws' := fun u => lW cI ad am K v f_d p_d a_d st_d n_d k_d tb tl ob im md rn_d K v u.2.1 tb tl u.2.2.1 u.2.2.2.1 u.2.2.2.2.1 k u.2.2.2.2.2 mim mmd) (As := []) (rest := [.int zd]) ⟨hx, hb, hml, hown, hts⟩ (k_X6_boot l D cI am K v f tb tl p rn (br_lf st n) k a mim mmd) (cwV 0 hts gL_law_X6_boot rfl rfl rfl (by decide +kernel) ⟨Nat.le_of_ble_eq_true rfl, Nat.le_of_ble_eq_true rfl⟩) hP hK hN hD hS hA [12, 13, 14, 15, 16] [0, 1, 2, 3, 4, 5, 6, 7, 8, 9, 10, 11] (cW cI ad K v f_d p_d a_d st_d n_d k_d tb tl ob im md rn_d) rfl (by decide) rfl (fun _ => rfl) (fun _ => rfl) (fun _ => rfl) rfl (va_recv hK hP (ci := 6) (q0 := 12) rfl rfl) rfl hl.1 rfl (Nat.le_of_ble_eq_true rfl) dL_law_268 ⟨Nat.le_of_ble_eq_true rfl, Nat.le_of_ble_eq_true rfl⟩ (fun u_m H locs hu_m hP hD hS => ?_)
  obtain ⟨zm, f_m, p_m, r_m, lf_m, a_m⟩ := u_m
  have hP : va_P D vwCl (lW cI ad am K v f_d p_d a_d st_d n_d k_d tb tl ob im md rn_d K v f_m tb tl p_m r_m lf_m k a_m mim mmd) _ := hP
  have hD : va_D (fun q : Nat => s.heap.size ≤ q) (lW cI ad am K v f_d p_d a_d st_d n_d k_d tb tl ob im md rn_d K v f_m tb tl p_m r_m lf_m k a_m mim mmd) := hD
  refine W.eq (g2 := F0 m 271 ls [.int zm, .int zd]) rfl ?_
  obtain ⟨e9, hI9⟩ := f_boot hI hu_d hu_m
  cases e9
  refine lv_icmp_eq (tgt := 407) hx hb dL_law_271 (by decide) (fun c9 => ?_) (fun c9 => absurd rfl c9)
  exact kk _ _ _ _ _ _ _ _ _ _ _ _ _ _ _ _ hI9 hmd hP hD hS
set_option maxHeartbeats 4000000 in
set_option maxRecDepth 100000 in
theorem law_c6 {p0 : Program} {l : Launch} {e : Env} {s : State} {m : MethodId} {below : List Frame} {meth : Method} {c : Code} {b L : Nat} {xs : Nat → Int32} {D : va_G} {cI : ClassId} {ad am : Nat → Nat} {K : RW} {v : Int32} (C0 : lw_At p0 s m meth c b L xs) (hL : L ≤ 2051) (hK : va_K D vwCl [(cI, .int)] s) (hN : zN s) {f : RW} {p a st n k : Int32} {tb : RW} {tl : Nat} {ob im : RW} {md : Nat} {rn : Int32} {mim : RW} {mmd i : Nat} {H : Heap} {locs : List Loc} {ls : Array Slot} (hI : br_I f p st n tl rn) (hmd : mmd < 1000000) (hi : i + 3 < L) (hP : va_P D vwCl (lW cI ad am K v f p a st n k tb tl ob im md rn K v f tb tl p rn (br_lf st n) k a mim mmd) H) (hD : va_D (fun q : Nat => s.heap.size ≤ q) (lW cI ad am K v f p a st n k tb tl ob im md rn K v f tb tl p rn (br_lf st n) k a mim mmd)) (hS : va_S (fun q : Nat => s.heap.size ≤ q) s.heap H locs) (hl : lv_has ls 4 [(0, .ref b), (1, .ref (ad 0)), (2, .ref (am 0)), (3, .int (nI i))]) (kk : ∀ (f : RW) (p a st n k : Int32) (tb : RW) (tl : Nat) (ob im : RW) (md : Nat) (rn : Int32) (mim : RW) (mmd : Nat) (H : Heap) (locs : List Loc), br_I f p st n tl rn → mmd < 1000000 → va_P D vwCl (lW cI ad am K v f p a st n k tb tl ob im md rn K v f tb tl p rn (br_lf st n) k a mim mmd) H → va_D (fun q : Nat => s.heap.size ≤ q) (lW cI ad am K v f p a st n k tb tl ob im md rn K v f tb tl p rn (br_lf st n) k a mim mmd) → va_S (fun q : Nat => s.heap.size ≤ q) s.heap H locs → W p0 l e room_1 s m #[Value.ref b] below meth c H locs 600000 7302250 (lw_Z below #[Value.ref b] s) (F0 m 407 ls [])) : W p0 l e room_1 s m #[Value.ref b] below meth c H locs 600000 7302250 (lw_Z below #[Value.ref b] s) (F0 m 276 ls []) := by
  obtain ⟨hx, hb, hr, hml, hown0, hts0, hX, hbl, hlocks, hgv⟩ := C0
  have hb : c.code = cL_law := hb
  have hown : s.vm.findClass RL = some m.cls := hown0
  have hts : ∀ w ∈ wsL_law, w.before #[Value.ref b] s = true := fun w h => hts0 w (wsL_law_in w h)
  have hA : ∀ q : Nat, s.heap.size ≤ q → (fun q : Nat => s.heap.size ≤ q) q := fun _ h => h
  have hbA : ¬ (fun q : Nat => s.heap.size ≤ q) b := Nat.not_le.mpr hbl
  refine lv_aload_n hx hb dL_law_276 rfl (lv_at hl 1 rfl) ?_
  refine zVW (ws' := fun u => lW cI ad am K v u.2.1 u.2.2.1 u.2.2.2.1 u.2.2.2.2.1 u.2.2.2.2.2.1 u.2.2.2.2.2.2.1 tb tl ob im md u.2.2.2.2.2.2.2 K v f tb tl p rn (br_lf st n) k a mim mmd) (As := []) (rest := []) ⟨hx, hb, hml, hown, hts⟩ (k_X5_confirm l D cI ad K v f p a st n k tb tl ob im md rn) (cwV 0 hts gL_law_X5_confirm rfl rfl rfl (by decide +kernel) ⟨Nat.le_of_ble_eq_true rfl, Nat.le_of_ble_eq_true rfl⟩) hP hK hN hD hS hA [0, 1, 2, 3, 4, 5, 6, 7, 8, 9, 10, 11] [12, 13, 14, 15, 16] (mW cI am K v f tb tl p rn (br_lf st n) k a mim mmd) rfl (by decide) rfl (fun _ => rfl) (fun _ => rfl) (fun _ => rfl) rfl (va_recv hK hP (ci := 5) (q0 := 0) rfl rfl) rfl hl.1 rfl (Nat.le_of_ble_eq_true rfl) dL_law_277 ⟨Nat.le_of_ble_eq_true rfl, Nat.le_of_ble_eq_true rfl⟩ (fun u_d H locs hu_d hP hD hS => ?_)
  obtain ⟨zd, f_d, p_d, a_d, st_d, n_d, k_d, rn_d⟩ := u_d
  have hP : va_P D vwCl (lW cI ad am K v f_d p_d a_d st_d n_d k_d tb tl ob im md rn_d K v f tb tl p rn (br_lf st n) k a mim mmd) _ := hP
  have hD : va_D (fun q : Nat => s.heap.size ≤ q) (lW cI ad am K v f_d p_d a_d st_d n_d k_d tb tl ob im md rn_d K v f tb tl p rn (br_lf st n) k a mim mmd) := hD
  refine W.eq (g2 := F0 m 280 ls [.int zd]) rfl ?_
  refine lv_aload_n hx hb dL_law_280 rfl (lv_at hl 2 rfl) ?_
  refine zVW (ws' := fun u => lW cI ad am K v f_d p_d a_d st_d n_d k_d tb tl ob im md rn_d K v u.2.1 tb tl u.2.2.1 u.2.2.2.1 u.2.2.2.2.1 k u.2.2.2.2.2 mim mmd) (As := []) (rest := [.int zd]) ⟨hx, hb, hml, hown, hts⟩ (k_X6_confirm l D cI am K v f tb tl p rn (br_lf st n) k a mim mmd hI.2.2.2.1 hI.1) (cwV 0 hts gL_law_X6_confirm rfl rfl rfl (by decide +kernel) ⟨Nat.le_of_ble_eq_true rfl, Nat.le_of_ble_eq_true rfl⟩) hP hK hN hD hS hA [12, 13, 14, 15, 16] [0, 1, 2, 3, 4, 5, 6, 7, 8, 9, 10, 11] (cW cI ad K v f_d p_d a_d st_d n_d k_d tb tl ob im md rn_d) rfl (by decide) rfl (fun _ => rfl) (fun _ => rfl) (fun _ => rfl) rfl (va_recv hK hP (ci := 6) (q0 := 12) rfl rfl) rfl hl.1 rfl (Nat.le_of_ble_eq_true rfl) dL_law_281 ⟨Nat.le_of_ble_eq_true rfl, Nat.le_of_ble_eq_true rfl⟩ (fun u_m H locs hu_m hP hD hS => ?_)
  obtain ⟨zm, f_m, p_m, r_m, lf_m, a_m⟩ := u_m
  have hP : va_P D vwCl (lW cI ad am K v f_d p_d a_d st_d n_d k_d tb tl ob im md rn_d K v f_m tb tl p_m r_m lf_m k a_m mim mmd) _ := hP
  have hD : va_D (fun q : Nat => s.heap.size ≤ q) (lW cI ad am K v f_d p_d a_d st_d n_d k_d tb tl ob im md rn_d K v f_m tb tl p_m r_m lf_m k a_m mim mmd) := hD
  refine W.eq (g2 := F0 m 284 ls [.int zm, .int zd]) rfl ?_
  obtain ⟨e9, hI9⟩ := f_confirm hI hu_d hu_m
  cases e9
  refine lv_icmp_eq (tgt := 407) hx hb dL_law_284 (by decide) (fun c9 => ?_) (fun c9 => absurd rfl c9)
  exact kk _ _ _ _ _ _ _ _ _ _ _ _ _ _ _ _ hI9 hmd hP hD hS
set_option maxHeartbeats 4000000 in
set_option maxRecDepth 100000 in
theorem law_c7 {p0 : Program} {l : Launch} {e : Env} {s : State} {m : MethodId} {below : List Frame} {meth : Method} {c : Code} {b L : Nat} {xs : Nat → Int32} {D : va_G} {cI : ClassId} {ad am : Nat → Nat} {K : RW} {v : Int32} (C0 : lw_At p0 s m meth c b L xs) (hL : L ≤ 2051) (hK : va_K D vwCl [(cI, .int)] s) (hN : zN s) {f : RW} {p a st n k : Int32} {tb : RW} {tl : Nat} {ob im : RW} {md : Nat} {rn : Int32} {mim : RW} {mmd i : Nat} {H : Heap} {locs : List Loc} {ls : Array Slot} (hI : br_I f p st n tl rn) (hmd : mmd < 1000000) (hi : i + 3 < L) (hP : va_P D vwCl (lW cI ad am K v f p a st n k tb tl ob im md rn K v f tb tl p rn (br_lf st n) k a mim mmd) H) (hD : va_D (fun q : Nat => s.heap.size ≤ q) (lW cI ad am K v f p a st n k tb tl ob im md rn K v f tb tl p rn (br_lf st n) k a mim mmd)) (hS : va_S (fun q : Nat => s.heap.size ≤ q) s.heap H locs) (hl : lv_has ls 4 [(0, .ref b), (1, .ref (ad 0)), (2, .ref (am 0)), (3, .int (nI i))]) (kk : ∀ (f : RW) (p a st n k : Int32) (tb : RW) (tl : Nat) (ob im : RW) (md : Nat) (rn : Int32) (mim : RW) (mmd : Nat) (H : Heap) (locs : List Loc), br_I f p st n tl rn → mmd < 1000000 → va_P D vwCl (lW cI ad am K v f p a st n k tb tl ob im md rn K v f tb tl p rn (br_lf st n) k a mim mmd) H → va_D (fun q : Nat => s.heap.size ≤ q) (lW cI ad am K v f p a st n k tb tl ob im md rn K v f tb tl p rn (br_lf st n) k a mim mmd) → va_S (fun q : Nat => s.heap.size ≤ q) s.heap H locs → W p0 l e room_1 s m #[Value.ref b] below meth c H locs 600000 7302250 (lw_Z below #[Value.ref b] s) (F0 m 407 ls [])) : W p0 l e room_1 s m #[Value.ref b] below meth c H locs 600000 7302250 (lw_Z below #[Value.ref b] s) (F0 m 289 ls []) := by
  obtain ⟨hx, hb, hr, hml, hown0, hts0, hX, hbl, hlocks, hgv⟩ := C0
  have hb : c.code = cL_law := hb
  have hown : s.vm.findClass RL = some m.cls := hown0
  have hts : ∀ w ∈ wsL_law, w.before #[Value.ref b] s = true := fun w h => hts0 w (wsL_law_in w h)
  have hA : ∀ q : Nat, s.heap.size ≤ q → (fun q : Nat => s.heap.size ≤ q) q := fun _ h => h
  have hbA : ¬ (fun q : Nat => s.heap.size ≤ q) b := Nat.not_le.mpr hbl
  refine lv_aload_n hx hb dL_law_289 rfl (lv_at hl 1 rfl) ?_
  refine lv_aload_n hx hb dL_law_290 rfl (lv_at hl 0 rfl) ?_
  refine lv_iload_n hx hb dL_law_291 rfl (lv_at hl 3 rfl) ?_
  refine lv_iconst (v := 1) hx hb dL_law_292 (by decide) ?_
  refine lv_iadd hx hb dL_law_293 ?_
  refine z_top (v := nI (i + 1)) (nI_add i 1) ?_
  refine z_sld hx hb hX hbl hbA hS (i + 1) rfl (by omega) (by omega) dL_law_294 ?_
  refine lv_aload_n hx hb dL_law_295 rfl (lv_at hl 0 rfl) ?_
  refine lv_iload_n hx hb dL_law_296 rfl (lv_at hl 3 rfl) ?_
  refine lv_iconst (v := 2) hx hb dL_law_297 (by decide) ?_
  refine lv_iadd hx hb dL_law_298 ?_
  refine z_top (v := nI (i + 2)) (nI_add i 2) ?_
  refine z_sld hx hb hX hbl hbA hS (i + 2) rfl (by omega) (by omega) dL_law_299 ?_
  refine zVW (ws' := fun u => lW cI ad am K v u.2.1 u.2.2.1 u.2.2.2.1 u.2.2.2.2.1 u.2.2.2.2.2.1 u.2.2.2.2.2.2 tb tl ob im md rn K v f tb tl p rn (br_lf st n) k a mim mmd) (As := [.int (xs (i + 1)), .int (xs (i + 2))]) (rest := []) ⟨hx, hb, hml, hown, hts⟩ (k_X5_crash l D cI ad K v f p a st n k tb tl ob im md rn (xs (i + 1)) (xs (i + 2))) (cwV 2 hts gL_law_X5_crash rfl rfl rfl (by decide +kernel) ⟨Nat.le_of_ble_eq_true rfl, Nat.le_of_ble_eq_true rfl⟩) hP hK hN hD hS hA [0, 1, 2, 3, 4, 5, 6, 7, 8, 9, 10, 11] [12, 13, 14, 15, 16] (mW cI am K v f tb tl p rn (br_lf st n) k a mim mmd) rfl (by decide) rfl (fun _ => rfl) (fun _ => rfl) (fun _ => rfl) rfl (va_recv hK hP (ci := 5) (q0 := 0) rfl rfl) rfl hl.1 rfl (Nat.le_of_ble_eq_true rfl) dL_law_300 ⟨Nat.le_of_ble_eq_true rfl, Nat.le_of_ble_eq_true rfl⟩ (fun u_d H locs hu_d hP hD hS => ?_)
  obtain ⟨zd, f_d, p_d, a_d, st_d, n_d, k_d⟩ := u_d
  have hP : va_P D vwCl (lW cI ad am K v f_d p_d a_d st_d n_d k_d tb tl ob im md rn K v f tb tl p rn (br_lf st n) k a mim mmd) _ := hP
  have hD : va_D (fun q : Nat => s.heap.size ≤ q) (lW cI ad am K v f_d p_d a_d st_d n_d k_d tb tl ob im md rn K v f tb tl p rn (br_lf st n) k a mim mmd) := hD
  refine W.eq (g2 := F0 m 303 ls [.int zd]) rfl ?_
  refine lv_aload_n hx hb dL_law_303 rfl (lv_at hl 2 rfl) ?_
  refine lv_aload_n hx hb dL_law_304 rfl (lv_at hl 0 rfl) ?_
  refine lv_iload_n hx hb dL_law_305 rfl (lv_at hl 3 rfl) ?_
  refine lv_iconst (v := 1) hx hb dL_law_306 (by decide) ?_
  refine lv_iadd hx hb dL_law_307 ?_
  refine z_top (v := nI (i + 1)) (nI_add i 1) ?_
  refine z_sld hx hb hX hbl hbA hS (i + 1) rfl (by omega) (by omega) dL_law_308 ?_
  refine lv_aload_n hx hb dL_law_309 rfl (lv_at hl 0 rfl) ?_
  refine lv_iload_n hx hb dL_law_310 rfl (lv_at hl 3 rfl) ?_
  refine lv_iconst (v := 2) hx hb dL_law_311 (by decide) ?_
  refine lv_iadd hx hb dL_law_312 ?_
  refine z_top (v := nI (i + 2)) (nI_add i 2) ?_
  refine z_sld hx hb hX hbl hbA hS (i + 2) rfl (by omega) (by omega) dL_law_313 ?_
  refine zVW (ws' := fun u => lW cI ad am K v f_d p_d a_d st_d n_d k_d tb tl ob im md rn K v f tb tl p rn u.2.1 u.2.2 a mim mmd) (As := [.int (xs (i + 1)), .int (xs (i + 2))]) (rest := [.int zd]) ⟨hx, hb, hml, hown, hts⟩ (k_X6_crash l D cI am K v f tb tl p rn (br_lf st n) k a mim mmd (xs (i + 1)) (xs (i + 2))) (cwV 2 hts gL_law_X6_crash rfl rfl rfl (by decide +kernel) ⟨Nat.le_of_ble_eq_true rfl, Nat.le_of_ble_eq_true rfl⟩) hP hK hN hD hS hA [12, 13, 14, 15, 16] [0, 1, 2, 3, 4, 5, 6, 7, 8, 9, 10, 11] (cW cI ad K v f_d p_d a_d st_d n_d k_d tb tl ob im md rn) rfl (by decide) rfl (fun _ => rfl) (fun _ => rfl) (fun _ => rfl) rfl (va_recv hK hP (ci := 6) (q0 := 12) rfl rfl) rfl hl.1 rfl (Nat.le_of_ble_eq_true rfl) dL_law_314 ⟨Nat.le_of_ble_eq_true rfl, Nat.le_of_ble_eq_true rfl⟩ (fun u_m H locs hu_m hP hD hS => ?_)
  obtain ⟨zm, lf_m, k_m⟩ := u_m
  have hP : va_P D vwCl (lW cI ad am K v f_d p_d a_d st_d n_d k_d tb tl ob im md rn K v f tb tl p rn lf_m k_m a mim mmd) _ := hP
  have hD : va_D (fun q : Nat => s.heap.size ≤ q) (lW cI ad am K v f_d p_d a_d st_d n_d k_d tb tl ob im md rn K v f tb tl p rn lf_m k_m a mim mmd) := hD
  refine W.eq (g2 := F0 m 317 ls [.int zm, .int zd]) rfl ?_
  obtain ⟨e9, hI9⟩ := f_crash hI hu_d hu_m
  cases e9
  refine lv_icmp_eq (tgt := 407) hx hb dL_law_317 (by decide) (fun c9 => ?_) (fun c9 => absurd rfl c9)
  exact kk _ _ _ _ _ _ _ _ _ _ _ _ _ _ _ _ hI9 hmd hP hD hS
