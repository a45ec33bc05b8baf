set_option maxHeartbeats 4000000 in
set_option maxRecDepth 100000 in
theorem law_c8 {p0 : Program} {l : Launch} {e : Env} {s : State} {m : MethodId} {below : List Frame} {meth : Method} {c : Code} {b L : Nat} {xs : Nat → Int32} {D : va_G} {cI : ClassId} {ad am : Nat → Nat} {K : RW} {v : Int32} (C0 : lw_At p0 s m meth c b L xs) (hL : L ≤ 2051) (hK : va_K D vwCl [(cI, .int)] s) (hN : zN s) {f : RW} {p a st n k : Int32} {tb : RW} {tl : Nat} {ob im : RW} {md : Nat} {rn : Int32} {mim : RW} {mmd i : Nat} {H : Heap} {locs : List Loc} {ls : Array Slot} (hI : br_I f p st n tl rn) (hmd : mmd < 1000000) (hi : i + 3 < L) (hP : va_P D vwCl (lW cI ad am K v f p a st n k tb tl ob im md rn K v f tb tl p rn (br_lf st n) k a mim mmd) H) (hD : va_D (fun q : Nat => s.heap.size ≤ q) (lW cI ad am K v f p a st n k tb tl ob im md rn K v f tb tl p rn (br_lf st n) k a mim mmd)) (hS : va_S (fun q : Nat => s.heap.size ≤ q) s.heap H locs) (hl : lv_has ls 4 [(0, .ref b), (1, .ref (ad 0)), (2, .ref (am 0)), (3, .int (nI i))]) (kk : ∀ (f : RW) (p a st n k : Int32) (tb : RW) (tl : Nat) (ob im : RW) (md : Nat) (rn : Int32) (mim : RW) (mmd : Nat) (H : Heap) (locs : List Loc), br_I f p st n tl rn → mmd < 1000000 → va_P D vwCl (lW cI ad am K v f p a st n k tb tl ob im md rn K v f tb tl p rn (br_lf st n) k a mim mmd) H → va_D (fun q : Nat => s.heap.size ≤ q) (lW cI ad am K v f p a st n k tb tl ob im md rn K v f tb tl p rn (br_lf st n) k a mim mmd) → va_S (fun q : Nat => s.heap.size ≤ q) s.heap H locs → W p0 l e room_1 s m #[Value.ref b] below meth c H locs 600000 7302250 (lw_Z below #[Value.ref b] s) (F0 m 407 ls [])) : W p0 l e room_1 s m #[Value.ref b] below meth c H locs 600000 7302250 (lw_Z below #[Value.ref b] s) (F0 m 322 ls []) := by
  obtain ⟨hx, hb, hr, hml, hown0, hts0, hX, hbl, hlocks, hgv⟩ := C0
  have hb : c.code = cL_law := hb
  have hown : s.vm.findClass RL = some m.cls := hown0
  have hts : ∀ w ∈ wsL_law, w.before #[Value.ref b] s = true := fun w h => hts0 w (wsL_law_in w h)
  have hA : ∀ q : Nat, s.heap.size ≤ q → (fun q : Nat => s.heap.size ≤ q) q := fun _ h => h
  have hbA : ¬ (fun q : Nat => s.heap.size ≤ q) b := Nat.not_le.mpr hbl
  refine lv_aload_n hx hb dL_law_322 rfl (lv_at hl 1 rfl) ?_
  refine zVR (As := []) (rest := []) ⟨hx, hb, hml, hown, hts⟩ (k_X5_running l D cI ad K v f p a st n k tb tl ob im md rn) (cwV 0 hts gL_law_X5_running rfl rfl rfl (by decide +kernel) ⟨Nat.le_of_ble_eq_true rfl, Nat.le_of_ble_eq_true rfl⟩) hP hK hN [0, 1, 2, 3, 4, 5, 6, 7, 8, 9, 10, 11] rfl (va_recv hK hP (ci := 5) (q0 := 0) rfl rfl) rfl hl.1 rfl (Nat.le_of_ble_eq_true rfl) dL_law_323 ⟨Nat.le_of_ble_eq_true rfl, Nat.le_of_ble_eq_true rfl⟩ ?_
  refine lv_aload_n hx hb dL_law_326 rfl (lv_at hl 2 rfl) ?_
  refine zVW (ws' := fun u => lW cI ad am K v f p a st n k tb tl ob im md rn K v f tb tl p rn (br_lf st n) k a mim mmd) (As := []) (rest := [.int rn]) ⟨hx, hb, hml, hown, hts⟩ (k_X6_running l D cI am K v f tb tl p rn (br_lf st n) k a mim mmd) (cwV 0 hts gL_law_X6_running rfl rfl rfl (by decide +kernel) ⟨Nat.le_of_ble_eq_true rfl, Nat.le_of_ble_eq_true rfl⟩) hP hK hN hD hS hA [12, 13, 14, 15, 16] [0, 1, 2, 3, 4, 5, 6, 7, 8, 9, 10, 11] (cW cI ad K v f p a st n k tb tl ob im md rn) rfl (by decide) rfl (fun _ => rfl) (fun _ => rfl) (fun _ => rfl) rfl (va_recv hK hP (ci := 6) (q0 := 12) rfl rfl) rfl hl.1 rfl (Nat.le_of_ble_eq_true rfl) dL_law_327 ⟨Nat.le_of_ble_eq_true rfl, Nat.le_of_ble_eq_true rfl⟩ (fun u_m H locs hu_m hP hD hS => ?_)
  obtain ⟨zm, rfl⟩ : ∃ z, z = u_m := ⟨_, rfl⟩
  have hP : va_P D vwCl (lW cI ad am K v f p a st n k tb tl ob im md rn K v f tb tl p rn (br_lf st n) k a mim mmd) _ := hP
  have hD : va_D (fun q : Nat => s.heap.size ≤ q) (lW cI ad am K v f p a st n k tb tl ob im md rn K v f tb tl p rn (br_lf st n) k a mim mmd) := hD
  refine W.eq (g2 := F0 m 330 ls [.int zm, .int rn]) rfl ?_
  subst hu_m
  refine lv_icmp_eq (tgt := 407) hx hb dL_law_330 (by decide) (fun c9 => ?_) (fun c9 => absurd rfl c9)
  exact kk _ _ _ _ _ _ _ _ _ _ _ _ _ _ _ _ hI hmd hP hD hS
set_option maxHeartbeats 4000000 in
set_option maxRecDepth 100000 in
theorem law_c9 {p0 : Program} {l : Launch} {e : Env} {s : State} {m : MethodId} {below : List Frame} {meth : Method} {c : Code} {b L : Nat} {xs : Nat → Int32} {D : va_G} {cI : ClassId} {ad am : Nat → Nat} {K : RW} {v : Int32} (C0 : lw_At p0 s m meth c b L xs) (hL : L ≤ 2051) (hK : va_K D vwCl [(cI, .int)] s) (hN : zN s) {f : RW} {p a st n k : Int32} {tb : RW} {tl : Nat} {ob im : RW} {md : Nat} {rn : Int32} {mim : RW} {mmd i : Nat} {H : Heap} {locs : List Loc} {ls : Array Slot} (hI : br_I f p st n tl rn) (hmd : mmd < 1000000) (hi : i + 3 < L) (hP : va_P D vwCl (lW cI ad am K v f p a st n k tb tl ob im md rn K v f tb tl p rn (br_lf st n) k a mim mmd) H) (hD : va_D (fun q : Nat => s.heap.size ≤ q) (lW cI ad am K v f p a st n k tb tl ob im md rn K v f tb tl p rn (br_lf st n) k a mim mmd)) (hS : va_S (fun q : Nat => s.heap.size ≤ q) s.heap H locs) (hl : lv_has ls 4 [(0, .ref b), (1, .ref (ad 0)), (2, .ref (am 0)), (3, .int (nI i))]) (kk : ∀ (f : RW) (p a st n k : Int32) (tb : RW) (tl : Nat) (ob im : RW) (md : Nat) (rn : Int32) (mim : RW) (mmd : Nat) (H : Heap) (locs : List Loc), br_I f p st n tl rn → mmd < 1000000 → va_P D vwCl (lW cI ad am K v f p a st n k tb tl ob im md rn K v f tb tl p rn (br_lf st n) k a mim mmd) H → va_D (fun q : Nat => s.heap.size ≤ q) (lW cI ad am K v f p a st n k tb tl ob im md rn K v f tb tl p rn (br_lf st n) k a mim mmd) → va_S (fun q : Nat => s.heap.size ≤ q) s.heap H locs → W p0 l e room_1 s m #[Value.ref b] below meth c H locs 600000 7302250 (lw_Z below #[Value.ref b] s) (F0 m 407 ls [])) : W p0 l e room_1 s m #[Value.ref b] below meth c H locs 600000 7302250 (lw_Z below #[Value.ref b] s) (F0 m 335 ls []) := by
  obtain ⟨hx, hb, hr, hml, hown0, hts0, hX, hbl, hlocks, hgv⟩ := C0
  have hb : c.code = cL_law := hb
  have hown : s.vm.findClass RL = some m.cls := hown0
  have hts : ∀ w ∈ wsL_law, w.before #[Value.ref b] s = true := fun w h => hts0 w (wsL_law_in w h)
  have hA : ∀ q : Nat, s.heap.size ≤ q → (fun q : Nat => s.heap.size ≤ q) q := fun _ h => h
  have hbA : ¬ (fun q : Nat => s.heap.size ≤ q) b := Nat.not_le.mpr hbl
  refine lv_aload_n hx hb dL_law_335 rfl (lv_at hl 1 rfl) ?_
  refine zVR (As := []) (rest := []) ⟨hx, hb, hml, hown, hts⟩ (k_X5_counter l D cI ad K v f p a st n k tb tl ob im md rn) (cwV 0 hts gL_law_X5_counter rfl rfl rfl (by decide +kernel) ⟨Nat.le_of_ble_eq_true rfl, Nat.le_of_ble_eq_true rfl⟩) hP hK hN [0, 1, 2, 3, 4, 5, 6, 7, 8, 9, 10, 11] rfl (va_recv hK hP (ci := 5) (q0 := 0) rfl rfl) rfl hl.1 rfl (Nat.le_of_ble_eq_true rfl) dL_law_336 ⟨Nat.le_of_ble_eq_true rfl, Nat.le_of_ble_eq_true rfl⟩ ?_
  refine lv_aload_n hx hb dL_law_339 rfl (lv_at hl 2 rfl) ?_
  refine zVW (ws' := fun u => lW cI ad am K v f p a st n k tb tl ob im md rn K v f tb tl p rn (br_lf st n) k a mim mmd) (As := []) (rest := [.int (z_cntr f)]) ⟨hx, hb, hml, hown, hts⟩ (k_X6_counter l D cI am K v f tb tl p rn (br_lf st n) k a mim mmd) (cwV 0 hts gL_law_X6_counter rfl rfl rfl (by decide +kernel) ⟨Nat.le_of_ble_eq_true rfl, Nat.le_of_ble_eq_true rfl⟩) hP hK hN hD hS hA [12, 13, 14, 15, 16] [0, 1, 2, 3, 4, 5, 6, 7, 8, 9, 10, 11] (cW cI ad K v f p a st n k tb tl ob im md rn) rfl (by decide) rfl (fun _ => rfl) (fun _ => rfl) (fun _ => rfl) rfl (va_recv hK hP (ci := 6) (q0 := 12) rfl rfl) rfl hl.1 rfl (Nat.le_of_ble_eq_true rfl) dL_law_340 ⟨Nat.le_of_ble_eq_true rfl, Nat.le_of_ble_eq_true rfl⟩ (fun u_m H locs hu_m hP hD hS => ?_)
  obtain ⟨zm, rfl⟩ : ∃ z, z = u_m := ⟨_, rfl⟩
  have hP : va_P D vwCl (lW cI ad am K v f p a st n k tb tl ob im md rn K v f tb tl p rn (br_lf st n) k a mim mmd) _ := hP
  have hD : va_D (fun q : Nat => s.heap.size ≤ q) (lW cI ad am K v f p a st n k tb tl ob im md rn K v f tb tl p rn (br_lf st n) k a mim mmd) := hD
  refine W.eq (g2 := F0 m 343 ls [.int zm, .int (z_cntr f)]) rfl ?_
  have e9 : zm = z_cntr f := hu_m.trans (br_cve hI.1).symm
  subst e9
  refine lv_icmp_eq (tgt := 407) hx hb dL_law_343 (by decide) (fun c9 => ?_) (fun c9 => absurd rfl c9)
  exact kk _ _ _ _ _ _ _ _ _ _ _ _ _ _ _ _ hI hmd hP hD hS
set_option maxHeartbeats 4000000 in
set_option maxRecDepth 100000 in
theorem law_c10 {p0 : Program} {l : Launch} {e : Env} {s : State} {m : MethodId} {below : List Frame} {meth : Method} {c : Code} {b L : Nat} {xs : Nat → Int32} {D : va_G} {cI : ClassId} {ad am : Nat → Nat} {K : RW} {v : Int32} (C0 : lw_At p0 s m meth c b L xs) (hL : L ≤ 2051) (hK : va_K D vwCl [(cI, .int)] s) (hN : zN s) {f : RW} {p a st n k : Int32} {tb : RW} {tl : Nat} {ob im : RW} {md : Nat} {rn : Int32} {mim : RW} {mmd i : Nat} {H : Heap} {locs : List Loc} {ls : Array Slot} (hI : br_I f p st n tl rn) (hmd : mmd < 1000000) (hi : i + 3 < L) (hP : va_P D vwCl (lW cI ad am K v f p a st n k tb tl ob im md rn K v f tb tl p rn (br_lf st n) k a mim mmd) H) (hD : va_D (fun q : Nat => s.heap.size ≤ q) (lW cI ad am K v f p a st n k tb tl ob im md rn K v f tb tl p rn (br_lf st n) k a mim mmd)) (hS : va_S (fun q : Nat => s.heap.size ≤ q) s.heap H locs) (hl : lv_has ls 4 [(0, .ref b), (1, .ref (ad 0)), (2, .ref (am 0)), (3, .int (nI i))]) (kk : ∀ (f : RW) (p a st n k : Int32) (tb : RW) (tl : Nat) (ob im : RW) (md : Nat) (rn : Int32) (mim : RW) (mmd : Nat) (H : Heap) (locs : List Loc), br_I f p st n tl rn → mmd < 1000000 → va_P D vwCl (lW cI ad am K v f p a st n k tb tl ob im md rn K v f tb tl p rn (br_lf st n) k a mim mmd) H → va_D (fun q : Nat => s.heap.size ≤ q) (lW cI ad am K v f p a st n k tb tl ob im md rn K v f tb tl p rn (br_lf st n) k a mim mmd) → va_S (fun q : Nat => s.heap.size ≤ q) s.heap H locs → W p0 l e room_1 s m #[Value.ref b] below meth c H locs 600000 7302250 (lw_Z below #[Value.ref b] s) (F0 m 407 ls [])) : W p0 l e room_1 s m #[Value.ref b] below meth c H locs 600000 7302250 (lw_Z below #[Value.ref b] s) (F0 m 348 ls []) := by
  obtain ⟨hx, hb, hr, hml, hown0, hts0, hX, hbl, hlocks, hgv⟩ := C0
  have hb : c.code = cL_law := hb
  have hown : s.vm.findClass RL = some m.cls := hown0
  have hts : ∀ w ∈ wsL_law, w.before #[Value.ref b] s = true := fun w h => hts0 w (wsL_law_in w h)
  have hA : ∀ q : Nat, s.heap.size ≤ q → (fun q : Nat => s.heap.size ≤ q) q := fun _ h => h
  have hbA : ¬ (fun q : Nat => s.heap.size ≤ q) b := Nat.not_le.mpr hbl
  refine lv_aload_n hx hb dL_law_348 rfl (lv_at hl 1 rfl) ?_
  refine zVR (As := []) (rest := []) ⟨hx, hb, hml, hown, hts⟩ (k_X5_acts l D cI ad K v f p a st n k tb tl ob im md rn) (cwV 0 hts gL_law_X5_acts rfl rfl rfl (by decide +kernel) ⟨Nat.le_of_ble_eq_true rfl, Nat.le_of_ble_eq_true rfl⟩) hP hK hN [0, 1, 2, 3, 4, 5, 6, 7, 8, 9, 10, 11] rfl (va_recv hK hP (ci := 5) (q0 := 0) rfl rfl) rfl hl.1 rfl (Nat.le_of_ble_eq_true rfl) dL_law_349 ⟨Nat.le_of_ble_eq_true rfl, Nat.le_of_ble_eq_true rfl⟩ ?_
  refine lv_aload_n hx hb dL_law_352 rfl (lv_at hl 2 rfl) ?_
  refine zVW (ws' := fun u => lW cI ad am K v f p a st n k tb tl ob im md rn K v f tb tl p rn (br_lf st n) k a mim mmd) (As := []) (rest := [.int a]) ⟨hx, hb, hml, hown, hts⟩ (k_X6_acts l D cI am K v f tb tl p rn (br_lf st n) k a mim mmd) (cwV 0 hts gL_law_X6_acts rfl rfl rfl (by decide +kernel) ⟨Nat.le_of_ble_eq_true rfl, Nat.le_of_ble_eq_true rfl⟩) hP hK hN hD hS hA [12, 13, 14, 15, 16] [0, 1, 2, 3, 4, 5, 6, 7, 8, 9, 10, 11] (cW cI ad K v f p a st n k tb tl ob im md rn) rfl (by decide) rfl (fun _ => rfl) (fun _ => rfl) (fun _ => rfl) rfl (va_recv hK hP (ci := 6) (q0 := 12) rfl rfl) rfl hl.1 rfl (Nat.le_of_ble_eq_true rfl) dL_law_353 ⟨Nat.le_of_ble_eq_true rfl, Nat.le_of_ble_eq_true rfl⟩ (fun u_m H locs hu_m hP hD hS => ?_)
  obtain ⟨zm, rfl⟩ : ∃ z, z = u_m := ⟨_, rfl⟩
  have hP : va_P D vwCl (lW cI ad am K v f p a st n k tb tl ob im md rn K v f tb tl p rn (br_lf st n) k a mim mmd) _ := hP
  have hD : va_D (fun q : Nat => s.heap.size ≤ q) (lW cI ad am K v f p a st n k tb tl ob im md rn K v f tb tl p rn (br_lf st n) k a mim mmd) := hD
  refine W.eq (g2 := F0 m 356 ls [.int zm, .int a]) rfl ?_
  subst hu_m
  refine lv_icmp_eq (tgt := 407) hx hb dL_law_356 (by decide) (fun c9 => ?_) (fun c9 => absurd rfl c9)
  exact kk _ _ _ _ _ _ _ _ _ _ _ _ _ _ _ _ hI hmd hP hD hS
set_option maxHeartbeats 4000000 in
set_option maxRecDepth 100000 in
theorem law_c11 {p0 : Program} {l : Launch} {e : Env} {s : State} {m : MethodId} {below : List Frame} {meth : Method} {c : Code} {b L : Nat} {xs : Nat → Int32} {D : va_G} {cI : ClassId} {ad am : Nat → Nat} {K : RW} {v : Int32} (C0 : lw_At p0 s m meth c b L xs) (hL : L ≤ 2051) (hK : va_K D vwCl [(cI, .int)] s) (hN : zN s) {f : RW} {p a st n k : Int32} {tb : RW} {tl : Nat} {ob im : RW} {md : Nat} {rn : Int32} {mim : RW} {mmd i : Nat} {H : Heap} {locs : List Loc} {ls : Array Slot} (hI : br_I f p st n tl rn) (hmd : mmd < 1000000) (hi : i + 3 < L) (hP : va_P D vwCl (lW cI ad am K v f p a st n k tb tl ob im md rn K v f tb tl p rn (br_lf st n) k a mim mmd) H) (hD : va_D (fun q : Nat => s.heap.size ≤ q) (lW cI ad am K v f p a st n k tb tl ob im md rn K v f tb tl p rn (br_lf st n) k a mim mmd)) (hS : va_S (fun q : Nat => s.heap.size ≤ q) s.heap H locs) (hl : lv_has ls 4 [(0, .ref b), (1, .ref (ad 0)), (2, .ref (am 0)), (3, .int (nI i))]) (kk : ∀ (f : RW) (p a st n k : Int32) (tb : RW) (tl : Nat) (ob im : RW) (md : Nat) (rn : Int32) (mim : RW) (mmd : Nat) (H : Heap) (locs : List Loc), br_I f p st n tl rn → mmd < 1000000 → va_P D vwCl (lW cI ad am K v f p a st n k tb tl ob im md rn K v f tb tl p rn (br_lf st n) k a mim mmd) H → va_D (fun q : Nat => s.heap.size ≤ q) (lW cI ad am K v f p a st n k tb tl ob im md rn K v f tb tl p rn (br_lf st n) k a mim mmd) → va_S (fun q : Nat => s.heap.size ≤ q) s.heap H locs → W p0 l e room_1 s m #[Value.ref b] below meth c H locs 600000 7302250 (lw_Z below #[Value.ref b] s) (F0 m 407 ls [])) : W p0 l e room_1 s m #[Value.ref b] below meth c H locs 600000 7302250 (lw_Z below #[Value.ref b] s) (F0 m 361 ls []) := by
  obtain ⟨hx, hb, hr, hml, hown0, hts0, hX, hbl, hlocks, hgv⟩ := C0
  have hb : c.code = cL_law := hb
  have hown : s.vm.findClass RL = some m.cls := hown0
  have hts : ∀ w ∈ wsL_law, w.before #[Value.ref b] s = true := fun w h => hts0 w (wsL_law_in w h)
  have hA : ∀ q : Nat, s.heap.size ≤ q → (fun q : Nat => s.heap.size ≤ q) q := fun _ h => h
  have hbA : ¬ (fun q : Nat => s.heap.size ≤ q) b := Nat.not_le.mpr hbl
  refine lv_aload_n hx hb dL_law_361 rfl (lv_at hl 1 rfl) ?_
  refine lv_aload_n hx hb dL_law_362 rfl (lv_at hl 0 rfl) ?_
  refine lv_iload_n hx hb dL_law_363 rfl (lv_at hl 3 rfl) ?_
  refine lv_iconst (v := 1) hx hb dL_law_364 (by decide) ?_
  refine lv_iadd hx hb dL_law_365 ?_
  refine z_top (v := nI (i + 1)) (nI_add i 1) ?_
  refine z_sld hx hb hX hbl hbA hS (i + 1) rfl (by omega) (by omega) dL_law_366 ?_
  refine zVR (As := [.int (xs (i + 1))]) (rest := []) ⟨hx, hb, hml, hown, hts⟩ (k_X5_byteOf l D cI ad K v f p a st n k tb tl ob im md rn (xs (i + 1))) (cwV 1 hts gL_law_X5_byteOf rfl rfl rfl (by decide +kernel) ⟨Nat.le_of_ble_eq_true rfl, Nat.le_of_ble_eq_true rfl⟩) hP hK hN [0, 1, 2, 3, 4, 5, 6, 7, 8, 9, 10, 11] rfl (va_recv hK hP (ci := 5) (q0 := 0) rfl rfl) rfl hl.1 rfl (Nat.le_of_ble_eq_true rfl) dL_law_367 ⟨Nat.le_of_ble_eq_true rfl, Nat.le_of_ble_eq_true rfl⟩ ?_
  refine lv_aload_n hx hb dL_law_370 rfl (lv_at hl 2 rfl) ?_
  refine lv_aload_n hx hb dL_law_371 rfl (lv_at hl 0 rfl) ?_
  refine lv_iload_n hx hb dL_law_372 rfl (lv_at hl 3 rfl) ?_
  refine lv_iconst (v := 1) hx hb dL_law_373 (by decide) ?_
  refine lv_iadd hx hb dL_law_374 ?_
  refine z_top (v := nI (i + 1)) (nI_add i 1) ?_
  refine z_sld hx hb hX hbl hbA hS (i + 1) rfl (by omega) (by omega) dL_law_375 ?_
  refine zVW (ws' := fun u => lW cI ad am K v f p a st n k tb tl ob im md rn K v f tb tl p rn (br_lf st n) k a mim mmd) (As := [.int (xs (i + 1))]) (rest := [.int (z_at f (xs (i + 1)))]) ⟨hx, hb, hml, hown, hts⟩ (k_X6_byteOf l D cI am K v f tb tl p rn (br_lf st n) k a mim mmd (xs (i + 1))) (cwV 1 hts gL_law_X6_byteOf rfl rfl rfl (by decide +kernel) ⟨Nat.le_of_ble_eq_true rfl, Nat.le_of_ble_eq_true rfl⟩) hP hK hN hD hS hA [12, 13, 14, 15, 16] [0, 1, 2, 3, 4, 5, 6, 7, 8, 9, 10, 11] (cW cI ad K v f p a st n k tb tl ob im md rn) rfl (by decide) rfl (fun _ => rfl) (fun _ => rfl) (fun _ => rfl) rfl (va_recv hK hP (ci := 6) (q0 := 12) rfl rfl) rfl hl.1 rfl (Nat.le_of_ble_eq_true rfl) dL_law_376 ⟨Nat.le_of_ble_eq_true rfl, Nat.le_of_ble_eq_true rfl⟩ (fun u_m H locs hu_m hP hD hS => ?_)
  obtain ⟨zm, rfl⟩ : ∃ z, z = u_m := ⟨_, rfl⟩
  have hP : va_P D vwCl (lW cI ad am K v f p a st n k tb tl ob im md rn K v f tb tl p rn (br_lf st n) k a mim mmd) _ := hP
  have hD : va_D (fun q : Nat => s.heap.size ≤ q) (lW cI ad am K v f p a st n k tb tl ob im md rn K v f tb tl p rn (br_lf st n) k a mim mmd) := hD
  refine W.eq (g2 := F0 m 379 ls [.int zm, .int (z_at f (xs (i + 1)))]) rfl ?_
  have e9 := hu_m.trans f_byte.symm
  subst e9
  refine lv_icmp_eq (tgt := 407) hx hb dL_law_379 (by decide) (fun c9 => ?_) (fun c9 => absurd rfl c9)
  exact kk _ _ _ _ _ _ _ _ _ _ _ _ _ _ _ _ hI hmd hP hD hS
set_option maxHeartbeats 4000000 in
set_option maxRecDepth 100000 in
theorem law_c12 {p0 : Program} {l : Launch} {e : Env} {s : State} {m : MethodId} {below : List Frame} {meth : Method} {c : Code} {b L : Nat} {xs : Nat → Int32} {D : va_G} {cI : ClassId} {ad am : Nat → Nat} {K : RW} {v : Int32} (C0 : lw_At p0 s m meth c b L xs) (hL : L ≤ 2051) (hK : va_K D vwCl [(cI, .int)] s) (hN : zN s) {f : RW} {p a st n k : Int32} {tb : RW} {tl : Nat} {ob im : RW} {md : Nat} {rn : Int32} {mim : RW} {mmd i : Nat} {H : Heap} {locs : List Loc} {ls : Array Slot} (hI : br_I f p st n tl rn) (hmd : mmd < 1000000) (hi : i + 3 < L) (hP : va_P D vwCl (lW cI ad am K v f p a st n k tb tl ob im md rn K v f tb tl p rn (br_lf st n) k a mim mmd) H) (hD : va_D (fun q : Nat => s.heap.size ≤ q) (lW cI ad am K v f p a st n k tb tl ob im md rn K v f tb tl p rn (br_lf st n) k a mim mmd)) (hS : va_S (fun q : Nat => s.heap.size ≤ q) s.heap H locs) (hl : lv_has ls 4 [(0, .ref b), (1, .ref (ad 0)), (2, .ref (am 0)), (3, .int (nI i))]) (kk : ∀ (f : RW) (p a st n k : Int32) (tb : RW) (tl : Nat) (ob im : RW) (md : Nat) (rn : Int32) (mim : RW) (mmd : Nat) (H : Heap) (locs : List Loc), br_I f p st n tl rn → mmd < 1000000 → va_P D vwCl (lW cI ad am K v f p a st n k tb tl ob im md rn K v f tb tl p rn (br_lf st n) k a mim mmd) H → va_D (fun q : Nat => s.heap.size ≤ q) (lW cI ad am K v f p a st n k tb tl ob im md rn K v f tb tl p rn (br_lf st n) k a mim mmd) → va_S (fun q : Nat => s.heap.size ≤ q) s.heap H locs → W p0 l e room_1 s m #[Value.ref b] below meth c H locs 600000 7302250 (lw_Z below #[Value.ref b] s) (F0 m 407 ls [])) : W p0 l e room_1 s m #[Value.ref b] below meth c H locs 600000 7302250 (lw_Z below #[Value.ref b] s) (F0 m 384 ls []) := by
  obtain ⟨hx, hb, hr, hml, hown0, hts0, hX, hbl, hlocks, hgv⟩ := C0
  have hb : c.code = cL_law := hb
  have hown : s.vm.findClass RL = some m.cls := hown0
  have hts : ∀ w ∈ wsL_law, w.before #[Value.ref b] s = true := fun w h => hts0 w (wsL_law_in w h)
  have hA : ∀ q : Nat, s.heap.size ≤ q → (fun q : Nat => s.heap.size ≤ q) q := fun _ h => h
  have hbA : ¬ (fun q : Nat => s.heap.size ≤ q) b := Nat.not_le.mpr hbl
  refine lv_aload_n hx hb dL_law_384 rfl (lv_at hl 1 rfl) ?_
  refine lv_aload_n hx hb dL_law_385 rfl (lv_at hl 0 rfl) ?_
  refine lv_iload_n hx hb dL_law_386 rfl (lv_at hl 3 rfl) ?_
  refine lv_iconst (v := 1) hx hb dL_law_387 (by decide) ?_
  refine lv_iadd hx hb dL_law_388 ?_
  refine z_top (v := nI (i + 1)) (nI_add i 1) ?_
  refine z_sld hx hb hX hbl hbA hS (i + 1) rfl (by omega) (by omega) dL_law_389 ?_
  refine zVR (As := [.int (xs (i + 1))]) (rest := []) ⟨hx, hb, hml, hown, hts⟩ (k_X5_good l D cI ad K v f p a st n k tb tl ob im md rn (xs (i + 1))) (cwV 1 hts gL_law_X5_good rfl rfl rfl (by decide +kernel) ⟨Nat.le_of_ble_eq_true rfl, Nat.le_of_ble_eq_true rfl⟩) hP hK hN [0, 1, 2, 3, 4, 5, 6, 7, 8, 9, 10, 11] rfl (va_recv hK hP (ci := 5) (q0 := 0) rfl rfl) rfl hl.1 rfl (Nat.le_of_ble_eq_true rfl) dL_law_390 ⟨Nat.le_of_ble_eq_true rfl, Nat.le_of_ble_eq_true rfl⟩ ?_
  refine lv_aload_n hx hb dL_law_393 rfl (lv_at hl 2 rfl) ?_
  refine lv_aload_n hx hb dL_law_394 rfl (lv_at hl 0 rfl) ?_
  refine lv_iload_n hx hb dL_law_395 rfl (lv_at hl 3 rfl) ?_
  refine lv_iconst (v := 1) hx hb dL_law_396 (by decide) ?_
  refine lv_iadd hx hb dL_law_397 ?_
  refine z_top (v := nI (i + 1)) (nI_add i 1) ?_
  refine z_sld hx hb hX hbl hbA hS (i + 1) rfl (by omega) (by omega) dL_law_398 ?_
  refine zVW (ws' := fun u => lW cI ad am K v f p a st n k tb tl ob im md rn K v f tb tl p rn (br_lf st n) k a mim mmd) (As := [.int (xs (i + 1))]) (rest := [.int (c_good f (xs (i + 1)))]) ⟨hx, hb, hml, hown, hts⟩ (k_X6_good l D cI am K v f tb tl p rn (br_lf st n) k a mim mmd (xs (i + 1))) (cwV 1 hts gL_law_X6_good rfl rfl rfl (by decide +kernel) ⟨Nat.le_of_ble_eq_true rfl, Nat.le_of_ble_eq_true rfl⟩) hP hK hN hD hS hA [12, 13, 14, 15, 16] [0, 1, 2, 3, 4, 5, 6, 7, 8, 9, 10, 11] (cW cI ad K v f p a st n k tb tl ob im md rn) rfl (by decide) rfl (fun _ => rfl) (fun _ => rfl) (fun _ => rfl) rfl (va_recv hK hP (ci := 6) (q0 := 12) rfl rfl) rfl hl.1 rfl (Nat.le_of_ble_eq_true rfl) dL_law_399 ⟨Nat.le_of_ble_eq_true rfl, Nat.le_of_ble_eq_true rfl⟩ (fun u_m H locs hu_m hP hD hS => ?_)
  obtain ⟨zm, rfl⟩ : ∃ z, z = u_m := ⟨_, rfl⟩
  have hP : va_P D vwCl (lW cI ad am K v f p a st n k tb tl ob im md rn K v f tb tl p rn (br_lf st n) k a mim mmd) _ := hP
  have hD : va_D (fun q : Nat => s.heap.size ≤ q) (lW cI ad am K v f p a st n k tb tl ob im md rn K v f tb tl p rn (br_lf st n) k a mim mmd) := hD
  refine W.eq (g2 := F0 m 402 ls [.int zm, .int (c_good f (xs (i + 1)))]) rfl ?_
  have e9 := hu_m.trans (f_good hI.1).symm
  subst e9
  refine lv_icmp_eq (tgt := 407) hx hb dL_law_402 (by decide) (fun c9 => ?_) (fun c9 => absurd rfl c9)
  exact kk _ _ _ _ _ _ _ _ _ _ _ _ _ _ _ _ hI hmd hP hD hS
