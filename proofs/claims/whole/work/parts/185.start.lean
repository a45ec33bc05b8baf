set_option maxHeartbeats 4000000 in
set_option maxRecDepth 100000 in
theorem whole_start {p : Program} {e : Env} {s : State} {m : MethodId} {below : List Frame} {meth : Method} {c : Code} (l : Launch) (hflags : l.flags = flags0) {b L : Nat} {xs : Nat → Int32} (hL : L ≤ 2051) (C0 : lw_At p s m meth c b L xs) : W p l e room_1 s m #[Value.ref b] below meth c s.heap [] 0 0 (lw_Z below #[Value.ref b] s) (entryFrame m ([Value.ref b] : List Value).toArray 4) := by
  obtain ⟨hx, hb0, hr, hml, hown0, hts0, hX, hbl, hlocks, hgv⟩ := id C0
  have hb : c.code = cL_law := hb0
  have hown : s.vm.findClass RL = some m.cls := hown0
  have hts : ∀ w ∈ wsL_law, w.before #[Value.ref b] s = true := fun w h => hts0 w (wsL_law_in w h)
  have hA : ∀ q : Nat, s.heap.size ≤ q → (fun q : Nat => s.heap.size ≤ q) q := fun _ h => h
  have hbA : ¬ (fun q : Nat => s.heap.size ≤ q) b := Nat.not_le.mpr hbl
  obtain ⟨c0, i0, hKn0⟩ := u_known (C := RX0) (T := TX0) (N := 6) (n := 6) hts0 inX0 (hts _ qL_18)
  obtain ⟨c1, i1, hKn1⟩ := u_known (C := RX1) (T := TX1) (N := 1) (n := 1) hts0 inX1 (hts _ qL_31)
  obtain ⟨c2, i2, hKn2⟩ := u_known (C := RX2) (T := TX2) (N := 2) (n := 2) hts0 inX2 (hts _ qL_35)
  obtain ⟨c3, i3, hKn3⟩ := u_known (C := RX3) (T := TX3) (N := 3) (n := 3) hts0 inX3 (hts _ qL_26)
  obtain ⟨c4, i4, hKn4⟩ := u_known (C := RX4) (T := TX4) (N := 2) (n := 2) hts0 inX4 (hts _ qL_22)
  obtain ⟨c5, i5, hKn5⟩ := u_known (C := RX5) (T := TX5) (N := 9) (n := 9) hts0 inX5 (hts _ qL_1)
  obtain ⟨c6, i6, hKn6⟩ := u_known (C := RX6) (T := TX6) (N := 13) (n := 13) hts0 inX6 (hts _ qL_4)
  obtain ⟨dC, dI, hKc⟩ : ∃ (dC : Nat → ClassId) (dI : Nat → Nat → Nat), ∀ (k : Nat) (q : vw_C), vwCl[k]? = some q → u_Kn s q.1 q.2.1 q.2.2 (dC k) (dI k) := by
    refine ⟨fun k => match k with | 0 => c0 | 1 => c1 | 2 => c2 | 3 => c3 | 4 => c4 | 5 => c5 | _ => c6, fun k => match k with | 0 => i0 | 1 => i1 | 2 => i2 | 3 => i3 | 4 => i4 | 5 => i5 | _ => i6, ?_⟩
    intro k q hq
    match k, hq with
    | 0, hq => cases hq; exact hKn0
    | 1, hq => cases hq; exact hKn1
    | 2, hq => cases hq; exact hKn2
    | 3, hq => cases hq; exact hKn3
    | 4, hq => cases hq; exact hKn4
    | 5, hq => cases hq; exact hKn5
    | 6, hq => cases hq; exact hKn6
    | k + 7, hq => simp [vwCl] at hq
  obtain ⟨cI, hA1, hA2⟩ := z_arr (hts _ qL_45)
  have hK : va_K (dC, dI) vwCl [(cI, .int)] s := ⟨hKc, fun k q hq => by
    match k, hq with
    | 0, hq => cases hq; exact ⟨hA1, hA2⟩
    | k + 1, hq => simp at hq⟩
  have hN : zN s := zN_law hts0 z_nest_in
  have hS : va_S (fun q : Nat => s.heap.size ≤ q) s.heap s.heap [] := va_S.rf
  have hP : va_P (dC, dI) vwCl [] s.heap := fun k q h => by simp at h
  have hD : va_D (fun q : Nat => s.heap.size ≤ q) [] := ⟨fun i j p q h => by simp at h, fun k q h => by simp at h⟩
  have hl := lv_entry ([.ref b]) (n := 4) (Nat.le_of_ble_eq_true rfl)
  rw [lg_entry_eq]
  generalize (lg_sl ([.ref b]) ++ List.replicate (4 - (lg_sl ([.ref b])).length) Slot.unset).toArray = ls at hl ⊢
  have hl : lv_has ls 4 [(0, .ref b)] := hl
  refine va_new (ci := 5) (fs := [.null, .int 0, .null, .null, .null, .null, .null, .null, .int 0]) (C := RX5) (T := TX5) (N := 9) hx hb hts inlX5 tyX5 tyX5_ok hown (hts _ qL_0) (hts _ qL_1) (hts _ qL_2) hK hP hD hS hA rfl (fun j hj => by rcases (show j = 0 ∨ j = 1 ∨ j = 2 ∨ j = 3 ∨ j = 4 ∨ j = 5 ∨ j = 6 ∨ j = 7 ∨ j = 8 by omega) with rfl | rfl | rfl | rfl | rfl | rfl | rfl | rfl | rfl <;> rfl) (Nat.le_of_ble_eq_true rfl) (Nat.le_of_ble_eq_true rfl) dL_law_0 (fun qa H hP hD hS => ?_)
  have hP : va_P (dC, dI) vwCl ([(qa, .inr (5, [.null, .int 0, .null, .null, .null, .null, .null, .null, .int 0]))]) _ := hP
  have hD : va_D (fun q : Nat => s.heap.size ≤ q) ([(qa, .inr (5, [.null, .int 0, .null, .null, .null, .null, .null, .null, .int 0]))]) := hD
  refine W.widen (k := 1) (n := 9) (by omega) (by omega) ?_
  refine lv_dup hx hb dL_law_3 rfl ?_
  refine lv_aload_n hx hb dL_law_4 rfl (lv_at hl 0 rfl) ?_
  refine lv_iconst (v := 0) hx hb dL_law_5 (by decide) ?_
  refine z_cell hx hb hml hown hts hX hbl hL hbA hS 0 (by omega) hl.1 (Nat.le_of_ble_eq_true rfl) dL_law_6 ⟨(Nat.le_of_ble_eq_true rfl), (Nat.le_of_ble_eq_true rfl)⟩ ?_
  refine lv_aload_n hx hb dL_law_9 rfl (lv_at hl 0 rfl) ?_
  refine lv_iconst (v := 1) hx hb dL_law_10 (by decide) ?_
  refine z_cell hx hb hml hown hts hX hbl hL hbA hS 1 (by omega) hl.1 (Nat.le_of_ble_eq_true rfl) dL_law_11 ⟨(Nat.le_of_ble_eq_true rfl), (Nat.le_of_ble_eq_true rfl)⟩ ?_
  refine lv_aload_n hx hb dL_law_14 rfl (lv_at hl 0 rfl) ?_
  refine lv_iconst (v := 2) hx hb dL_law_15 (by decide) ?_
  refine z_cell hx hb hml hown hts hX hbl hL hbA hS 2 (by omega) hl.1 (Nat.le_of_ble_eq_true rfl) dL_law_16 ⟨(Nat.le_of_ble_eq_true rfl), (Nat.le_of_ble_eq_true rfl)⟩ ?_
  refine zCI (As := [.int (l_cell xs L 0), .int (l_cell xs L 1), .int (l_cell xs L 2)]) (rest := [.ref qa]) (wr := []) ⟨hx, hb, hml, hown, hts⟩ (k_X5_init l (dC, dI) cI qa (l_cell xs L 0) (l_cell xs L 1) (l_cell xs L 2)) (cwI 3 hts gL_law_X5_init rfl rfl rfl (hts _ qL_2) (hts _ qL_11) (hts _ qL_12) rfl (by decide +kernel) ⟨(Nat.le_of_ble_eq_true rfl), (Nat.le_of_ble_eq_true rfl)⟩) hP hK hN hD hS hA [0] [] rfl rfl rfl (by decide) (by decide) (by decide) rfl hl.1 rfl (Nat.le_of_ble_eq_true rfl) dL_law_19 ⟨(Nat.le_of_ble_eq_true rfl), (Nat.le_of_ble_eq_true rfl)⟩ (fun ad H locs had hP2 hD2 hS => ?_)
  have had : ad 0 = qa := had
  subst had
  have hP : va_P (dC, dI) vwCl (cW cI ad (z_rowK (l_cell xs L 0) (l_cell xs L 1) 4) ((l_cell xs L 2) &&& 255) (z_fl 768) 1 0 0 0 0 (fun _ => 0) 0 (fun _ => 0) (fun _ => 0) 0 (-7)) _ := hP2
  have hD : va_D (fun q : Nat => s.heap.size ≤ q) (cW cI ad (z_rowK (l_cell xs L 0) (l_cell xs L 1) 4) ((l_cell xs L 2) &&& 255) (z_fl 768) 1 0 0 0 0 (fun _ => 0) 0 (fun _ => 0) (fun _ => 0) 0 (-7)) := hD2
  refine W.widen (k := 12) (n := 1206) (by omega) (by omega) ?_
  refine lv_astore_n (lv' := [(1, .ref (ad 0)), (0, .ref b)]) hx hb dL_law_22 rfl hl (by decide) rfl (fun ls hl => ?_)
  refine va_new (ci := 6) (fs := [.int 0, .null, .null, .int 0, .null, .int 0, .int 0, .int 0, .int 0, .int 0, .int 0, .null, .int 0]) (C := RX6) (T := TX6) (N := 13) hx hb hts inlX6 tyX6 tyX6_ok hown (hts _ qL_3) (hts _ qL_4) (hts _ qL_5) hK hP hD hS hA rfl (fun j hj => by rcases (show j = 0 ∨ j = 1 ∨ j = 2 ∨ j = 3 ∨ j = 4 ∨ j = 5 ∨ j = 6 ∨ j = 7 ∨ j = 8 ∨ j = 9 ∨ j = 10 ∨ j = 11 ∨ j = 12 by omega) with rfl | rfl | rfl | rfl | rfl | rfl | rfl | rfl | rfl | rfl | rfl | rfl | rfl <;> rfl) (Nat.le_of_ble_eq_true rfl) (Nat.le_of_ble_eq_true rfl) dL_law_23 (fun qb H hP hD hS => ?_)
  have hP : va_P (dC, dI) vwCl (cW cI ad (z_rowK (l_cell xs L 0) (l_cell xs L 1) 4) ((l_cell xs L 2) &&& 255) (z_fl 768) 1 0 0 0 0 (fun _ => 0) 0 (fun _ => 0) (fun _ => 0) 0 (-7) ++ [(qb, .inr (6, [.int 0, .null, .null, .int 0, .null, .int 0, .int 0, .int 0, .int 0, .int 0, .int 0, .null, .int 0]))]) _ := hP
  have hD : va_D (fun q : Nat => s.heap.size ≤ q) (cW cI ad (z_rowK (l_cell xs L 0) (l_cell xs L 1) 4) ((l_cell xs L 2) &&& 255) (z_fl 768) 1 0 0 0 0 (fun _ => 0) 0 (fun _ => 0) (fun _ => 0) 0 (-7) ++ [(qb, .inr (6, [.int 0, .null, .null, .int 0, .null, .int 0, .int 0, .int 0, .int 0, .int 0, .int 0, .null, .int 0]))]) := hD
  refine W.widen (k := 13) (n := 1219) (by omega) (by omega) ?_
  refine lv_dup hx hb dL_law_26 rfl ?_
  refine lv_aload_n hx hb dL_law_27 rfl (lv_at hl 1 rfl) ?_
  refine lv_iconst (v := 0) hx hb dL_law_28 (by decide) ?_
  refine z_cell hx hb hml hown hts hX hbl hL hbA hS 0 (by omega) hl.1 (Nat.le_of_ble_eq_true rfl) dL_law_29 ⟨(Nat.le_of_ble_eq_true rfl), (Nat.le_of_ble_eq_true rfl)⟩ ?_
  refine lv_aload_n hx hb dL_law_32 rfl (lv_at hl 1 rfl) ?_
  refine lv_iconst (v := 1) hx hb dL_law_33 (by decide) ?_
  refine z_cell hx hb hml hown hts hX hbl hL hbA hS 1 (by omega) hl.1 (Nat.le_of_ble_eq_true rfl) dL_law_34 ⟨(Nat.le_of_ble_eq_true rfl), (Nat.le_of_ble_eq_true rfl)⟩ ?_
  refine lv_aload_n hx hb dL_law_37 rfl (lv_at hl 1 rfl) ?_
  refine lv_iconst (v := 2) hx hb dL_law_38 (by decide) ?_
  refine z_cell hx hb hml hown hts hX hbl hL hbA hS 2 (by omega) hl.1 (Nat.le_of_ble_eq_true rfl) dL_law_39 ⟨(Nat.le_of_ble_eq_true rfl), (Nat.le_of_ble_eq_true rfl)⟩ ?_
  refine zCI (As := [.int (l_cell xs L 0), .int (l_cell xs L 1), .int (l_cell xs L 2)]) (rest := [.ref qb]) (wr := cW cI ad (z_rowK (l_cell xs L 0) (l_cell xs L 1) 4) ((l_cell xs L 2) &&& 255) (z_fl 768) 1 0 0 0 0 (fun _ => 0) 0 (fun _ => 0) (fun _ => 0) 0 (-7)) ⟨hx, hb, hml, hown, hts⟩ (k_X6_init l (dC, dI) cI qb (l_cell xs L 0) (l_cell xs L 1) (l_cell xs L 2)) (cwI 3 hts gL_law_X6_init rfl rfl rfl (hts _ qL_5) (hts _ qL_79) (hts _ qL_80) rfl (by decide +kernel) ⟨(Nat.le_of_ble_eq_true rfl), (Nat.le_of_ble_eq_true rfl)⟩) hP hK hN hD hS hA [12] [0, 1, 2, 3, 4, 5, 6, 7, 8, 9, 10, 11] rfl rfl rfl (by decide) (by decide) (by decide) rfl hl.1 rfl (Nat.le_of_ble_eq_true rfl) dL_law_42 ⟨(Nat.le_of_ble_eq_true rfl), (Nat.le_of_ble_eq_true rfl)⟩ (fun am H locs ham hP2 hD2 hS => ?_)
  have ham : am 0 = qb := ham
  subst ham
  have hP : va_P (dC, dI) vwCl (cW cI ad (z_rowK (l_cell xs L 0) (l_cell xs L 1) 4) ((l_cell xs L 2) &&& 255) (z_fl 768) 1 0 0 0 0 (fun _ => 0) 0 (fun _ => 0) (fun _ => 0) 0 (-7) ++ mW cI am (y_rowK (l_cell xs L 0) (l_cell xs L 1) 4) ((l_cell xs L 2) &&& 255) (z_fl 768) (fun _ => 0) 0 1 (-7) (-1) 0 0 (fun _ => 0) 0) _ := hP2
  have hD : va_D (fun q : Nat => s.heap.size ≤ q) (cW cI ad (z_rowK (l_cell xs L 0) (l_cell xs L 1) 4) ((l_cell xs L 2) &&& 255) (z_fl 768) 1 0 0 0 0 (fun _ => 0) 0 (fun _ => 0) (fun _ => 0) 0 (-7) ++ mW cI am (y_rowK (l_cell xs L 0) (l_cell xs L 1) 4) ((l_cell xs L 2) &&& 255) (z_fl 768) (fun _ => 0) 0 1 (-7) (-1) 0 0 (fun _ => 0) 0) := hD2
  rw [z_krow _ _ 4 (by omega)] at hP hD
  have hP : va_P (dC, dI) vwCl (lW cI ad am (z_rowK (l_cell xs L 0) (l_cell xs L 1) 4) ((l_cell xs L 2) &&& 255) (z_fl 768) 1 0 0 0 0 (fun _ => 0) 0 (fun _ => 0) (fun _ => 0) 0 (-7) (z_rowK (l_cell xs L 0) (l_cell xs L 1) 4) ((l_cell xs L 2) &&& 255) (z_fl 768) (fun _ => 0) 0 1 (-7) (br_lf 0 0) 0 0 (fun _ => 0) 0) H := hP
  have hD : va_D (fun q : Nat => s.heap.size ≤ q) (lW cI ad am (z_rowK (l_cell xs L 0) (l_cell xs L 1) 4) ((l_cell xs L 2) &&& 255) (z_fl 768) 1 0 0 0 0 (fun _ => 0) 0 (fun _ => 0) (fun _ => 0) 0 (-7) (z_rowK (l_cell xs L 0) (l_cell xs L 1) 4) ((l_cell xs L 2) &&& 255) (z_fl 768) (fun _ => 0) 0 1 (-7) (br_lf 0 0) 0 0 (fun _ => 0) 0) := hD
  refine lv_astore_n (lv' := [(2, .ref (am 0)), (1, .ref (ad 0)), (0, .ref b)]) hx hb dL_law_45 rfl hl (by decide) rfl (fun ls hl => ?_)
  refine lv_iconst (v := 3) hx hb dL_law_46 (by decide) ?_
  refine lv_istore_n (lv' := [(3, .int 3), (2, .ref (am 0)), (1, .ref (ad 0)), (0, .ref b)]) hx hb dL_law_47 rfl hl (by decide) rfl (fun ls hl => ?_)
  refine W.widen (k := 600000) (n := 7302250) (Nat.le_of_ble_eq_true rfl) (Nat.le_of_ble_eq_true rfl) ?_
  have hI : br_I (z_fl 768) 1 0 0 0 (-7) := ⟨z_flOk, fun h => absurd rfl h, fun h => absurd h (by decide), Or.inl rfl, by omega⟩
  exact law_loop C0 hL hK hN (L + 2) 3 _ _ _ _ _ _ _ _ _ _ _ _ _ _ _ _ _ (by omega) (by omega) hI (by omega) hP hD hS (lv_sub hl [3, 2, 1, 0] rfl)
