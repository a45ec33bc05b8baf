set_option maxRecDepth 20000 in
theorem qL_0 : (Cond.classLink RL 7 RX5 : Cond) ∈ wsL_law := List.mem_of_getElem? (i := 0) rfl
set_option maxRecDepth 20000 in
theorem qL_1 : (Cond.instantiable RX5 9 : Cond) ∈ wsL_law := List.mem_of_getElem? (i := 1) rfl
set_option maxRecDepth 20000 in
theorem qL_2 : (Cond.initialized RX5 : Cond) ∈ wsL_law := List.mem_of_getElem? (i := 2) rfl
set_option maxRecDepth 20000 in
theorem qL_3 : (Cond.classLink RL 18 RX6 : Cond) ∈ wsL_law := List.mem_of_getElem? (i := 3) rfl
set_option maxRecDepth 20000 in
theorem qL_4 : (Cond.instantiable RX6 13 : Cond) ∈ wsL_law := List.mem_of_getElem? (i := 4) rfl
set_option maxRecDepth 20000 in
theorem qL_5 : (Cond.initialized RX6 : Cond) ∈ wsL_law := List.mem_of_getElem? (i := 5) rfl
set_option maxRecDepth 20000 in
theorem qL_11 : (Cond.methodLink RL 15 yX5_init : Cond) ∈ wsL_law := List.mem_of_getElem? (i := 11) rfl
set_option maxRecDepth 20000 in
theorem qL_12 : (Cond.instanceMethod yX5_init : Cond) ∈ wsL_law := List.mem_of_getElem? (i := 12) rfl
set_option maxRecDepth 20000 in
theorem qL_79 : (Cond.methodLink RL 20 yX6_init : Cond) ∈ wsL_law := List.mem_of_getElem? (i := 79) rfl
set_option maxRecDepth 20000 in
theorem qL_80 : (Cond.instanceMethod yX6_init : Cond) ∈ wsL_law := List.mem_of_getElem? (i := 80) rfl
set_option maxRecDepth 20000 in
theorem qL_18 : (Cond.instantiable RX0 6 : Cond) ∈ wsL_law := List.mem_of_getElem? (i := 18) rfl
set_option maxRecDepth 20000 in
theorem qL_31 : (Cond.instantiable RX1 1 : Cond) ∈ wsL_law := List.mem_of_getElem? (i := 31) rfl
set_option maxRecDepth 20000 in
theorem qL_35 : (Cond.instantiable RX2 2 : Cond) ∈ wsL_law := List.mem_of_getElem? (i := 35) rfl
set_option maxRecDepth 20000 in
theorem qL_26 : (Cond.instantiable RX3 3 : Cond) ∈ wsL_law := List.mem_of_getElem? (i := 26) rfl
set_option maxRecDepth 20000 in
theorem qL_22 : (Cond.instantiable RX4 2 : Cond) ∈ wsL_law := List.mem_of_getElem? (i := 22) rfl
set_option maxRecDepth 20000 in
theorem qL_45 : (Cond.arrayClass .int : Cond) ∈ wsL_law := List.mem_of_getElem? (i := 45) rfl
theorem z_tabAt {i : Nat} {w : Cond} (h : tables_1[i]? = some w) : w ∈ lw_tbl := List.mem_append_right _ (List.mem_of_getElem? h)
theorem z_nest0 : ∀ w, zNest[0]? = some w → w ∈ lw_tbl := fun w h => by
  cases h
  exact z_tabAt (i := 27) (by decide +kernel)
theorem z_nest1 : ∀ w, zNest[1]? = some w → w ∈ lw_tbl := fun w h => by
  cases h
  exact z_tabAt (i := 29) (by decide +kernel)
theorem z_nest2 : ∀ w, zNest[2]? = some w → w ∈ lw_tbl := fun w h => by
  cases h
  exact z_tabAt (i := 49) (by decide +kernel)
theorem z_nest3 : ∀ w, zNest[3]? = some w → w ∈ lw_tbl := fun w h => by
  cases h
  exact z_tabAt (i := 54) (by decide +kernel)
theorem z_nest4 : ∀ w, zNest[4]? = some w → w ∈ lw_tbl := fun w h => by
  cases h
  exact z_tabAt (i := 55) (by decide +kernel)
theorem z_nest5 : ∀ w, zNest[5]? = some w → w ∈ lw_tbl := fun w h => by
  cases h
  exact z_tabAt (i := 57) (by decide +kernel)
theorem z_nest6 : ∀ w, zNest[6]? = some w → w ∈ lw_tbl := fun w h => by
  cases h
  exact z_tabAt (i := 71) (by decide +kernel)
theorem z_nest7 : ∀ w, zNest[7]? = some w → w ∈ lw_tbl := fun w h => by
  cases h
  exact z_tabAt (i := 82) (by decide +kernel)
theorem z_nest8 : ∀ w, zNest[8]? = some w → w ∈ lw_tbl := fun w h => by
  cases h
  exact z_tabAt (i := 87) (by decide +kernel)
theorem z_nest9 : ∀ w, zNest[9]? = some w → w ∈ lw_tbl := fun w h => by
  cases h
  exact z_tabAt (i := 93) (by decide +kernel)
theorem z_nest10 : ∀ w, zNest[10]? = some w → w ∈ lw_tbl := fun w h => by
  cases h
  exact z_tabAt (i := 98) (by decide +kernel)
theorem z_nest11 : ∀ w, zNest[11]? = some w → w ∈ lw_tbl := fun w h => by
  cases h
  exact z_tabAt (i := 100) (by decide +kernel)
theorem z_nest12 : ∀ w, zNest[12]? = some w → w ∈ lw_tbl := fun w h => by
  cases h
  exact z_tabAt (i := 200) (by decide +kernel)
theorem z_nest13 : ∀ w, zNest[13]? = some w → w ∈ lw_tbl := fun w h => by
  cases h
  exact z_tabAt (i := 236) (by decide +kernel)
theorem z_nest14 : ∀ w, zNest[14]? = some w → w ∈ lw_tbl := fun w h => by
  cases h
  exact z_tabAt (i := 241) (by decide +kernel)
theorem z_nest15 : ∀ w, zNest[15]? = some w → w ∈ lw_tbl := fun w h => by
  cases h
  exact z_tabAt (i := 256) (by decide +kernel)
theorem z_nest16 : ∀ w, zNest[16]? = some w → w ∈ lw_tbl := fun w h => by
  cases h
  exact z_tabAt (i := 351) (by decide +kernel)
theorem z_nest17 : ∀ w, zNest[17]? = some w → w ∈ lw_tbl := fun w h => by
  cases h
  exact z_tabAt (i := 419) (by decide +kernel)
theorem z_nest_in : ∀ w ∈ zNest, w ∈ lw_tbl := by
  intro w h
  obtain ⟨i, hi⟩ := List.getElem?_of_mem h
  have hl : i < 18 := (List.getElem?_eq_some_iff.mp hi).1
  rcases (show i = 0 ∨ i = 1 ∨ i = 2 ∨ i = 3 ∨ i = 4 ∨ i = 5 ∨ i = 6 ∨ i = 7 ∨ i = 8 ∨ i = 9 ∨ i = 10 ∨ i = 11 ∨ i = 12 ∨ i = 13 ∨ i = 14 ∨ i = 15 ∨ i = 16 ∨ i = 17 by omega) with rfl | rfl | rfl | rfl | rfl | rfl | rfl | rfl | rfl | rfl | rfl | rfl | rfl | rfl | rfl | rfl | rfl | rfl
  · exact z_nest0 w hi
  · exact z_nest1 w hi
  · exact z_nest2 w hi
  · exact z_nest3 w hi
  · exact z_nest4 w hi
  · exact z_nest5 w hi
  · exact z_nest6 w hi
  · exact z_nest7 w hi
  · exact z_nest8 w hi
  · exact z_nest9 w hi
  · exact z_nest10 w hi
  · exact z_nest11 w hi
  · exact z_nest12 w hi
  · exact z_nest13 w hi
  · exact z_nest14 w hi
  · exact z_nest15 w hi
  · exact z_nest16 w hi
  · exact z_nest17 w hi
theorem z_arr {s : State} {args : Array Value} (h : (Cond.arrayClass .int).before args s = true) : ∃ cI : ClassId, ArrOfT s cI .int ∧ va_RA s cI .int := by
  obtain ⟨cB, kB, comp, h1, h2, h3⟩ := Cond.arrayClass_spec h
  exact ⟨cB, fun n z => ⟨fun k h => (by cases h), kB, h2, comp, h3⟩, h1⟩
theorem z_flB : ∀ n j, z_fl n j = if j < n then 255 else 0 := by
  intro n
  induction n with
  | zero => intro j; rw [if_neg (Nat.not_lt_zero j)]; rfl
  | succ n ih =>
    intro j
    rw [z_fl]
    by_cases h : j = n
    · rw [h, pk_us, if_pos (by omega)]
    · rw [pk_un h, ih j]
      by_cases h2 : j < n
      · rw [if_pos h2, if_pos (by omega)]
      · rw [if_neg h2, if_neg (by omega)]
theorem z_flOk : zbOk (z_fl 768) := by
  intro j hj
  have h : z_fl 768 j = nI 255 := by rw [z_flB, if_pos hj]; rfl
  have h2 : zb (z_fl 768) j = 255 := by rw [zb, h, nI_clamp (by omega)]
  rw [h2]
  exact ⟨h, by omega⟩
theorem z_krow (x y : Int32) : ∀ n, n ≤ 4 → y_rowK x y n = z_rowK x y n := by
  intro n
  induction n with
  | zero => intro _; rfl
  | succ n ih => intro h; rw [y_rowK, z_rowK, ih (by omega), br_part x n (by omega), br_part y n (by omega), Nat.add_comm 4 n]
def l_cell (xs : Nat → Int32) (L k : Nat) : Int32 := if k < L then xs k else 0
abbrev rm_L_cell : Room := { frames := 0, cells := 0, slots := 0, locals := 0 }
set_option maxHeartbeats 4000000 in
set_option maxRecDepth 100000 in
theorem k_L_cell (l : Launch) (b L : Nat) (xs : Nat → Int32) (k : Nat) (hk : k < 3) : Met l yL_cell wsL_cell rm_L_cell (va_Pc [.ref b, .int (nI k)] (fun U => va_X b L xs U U.heap ∧ b < U.heap.size ∧ L ≤ 2051)) (zR (.int (l_cell xs L k))) 0 0 (fun _ => False) := by
  refine Met.ofW (cc := cL_cell) (maxL := 2) (ret := some .int) (by decide) rfl ?_
  intro p e s m args below meth c s₁ B hml hv
  obtain ⟨ha, hX, hbl, hL⟩ := hv
  subst ha
  have hx := B.exec
  have hb := B.bytes
  have hr := B.returns
  have hlocks := B.notSynchronized
  have hS : va_S (fun q : Nat => s.heap.size ≤ q) s.heap s.heap [] := va_S.rf
  have hbA : ¬ (fun q : Nat => s.heap.size ≤ q) b := Nat.not_le.mpr hbl
  have hl := lv_entry ([.ref b, .int (nI k)]) (n := 2) (Nat.le_of_ble_eq_true rfl)
  rw [lg_entry_eq]
  have hroom : (headSpec wsL_cell rm_L_cell).room = rm_L_cell := rfl
  rw [hroom]
  generalize (lg_sl ([.ref b, .int (nI k)]) ++ List.replicate (2 - (lg_sl ([.ref b, .int (nI k)])).length) Slot.unset).toArray = ls at hl ⊢
  have hl : lv_has ls 2 [(0, .ref b), (1, .int (nI k))] := hl
  refine lv_iload_n hx hb dL_cell_0 rfl (lv_at hl 1 rfl) ?_
  refine lv_aload_n hx hb dL_cell_1 rfl (lv_at hl 0 rfl) ?_
  refine va_slen hx hb hX hbl hbA hS dL_cell_2 ?_
  refine z_icmp_ge (tgt := 12) hx hb dL_cell_3 (by decide) k L rfl rfl (by omega) (by omega) (fun c1 => ?_) (fun c1 => ?_)
  · refine lv_iconst (v := 0) hx hb dL_cell_12 (by decide) ?_
    exact W.zret (v := 0) hx hb hr rfl (fun t ht hW => ⟨by rw [l_cell, if_neg (Nat.not_lt_of_le c1)], ht⟩) (fun _ h => absurd h List.not_mem_nil) dL_cell_13
  · refine lv_aload_n hx hb dL_cell_6 rfl (lv_at hl 0 rfl) ?_
    refine lv_iload_n hx hb dL_cell_7 rfl (lv_at hl 1 rfl) ?_
    refine z_sld hx hb hX hbl hbA hS k rfl c1 (by omega) dL_cell_8 ?_
    refine lv_goto (tgt := 13) hx hb dL_cell_9 (by decide) ?_
    exact W.zret (v := xs k) hx hb hr rfl (fun t ht hW => ⟨by rw [l_cell, if_pos c1], ht⟩) (fun _ h => absurd h List.not_mem_nil) dL_cell_13
theorem z_cell {p : Program} {l : Launch} {e : Env} {s : State} {m : MethodId} {args : Array Value} {below : List Frame} {meth : Method} {c : Code} {H : Heap} {locs : List Loc} {cells slots : Nat} {Q : State → Prop} {pc : Nat} {ls : Array Slot} {rest : List Value} {A : Nat → Prop} {b L : Nat} {xs : Nat → Int32} (hx : p.tables.exec = Jvm.exec) (hb : c.code = cL_law) (hml : c.maxLocals = 4) (hown : s.vm.findClass RL = some m.cls) (hts : ∀ w ∈ wsL_law, w.before args s = true)
    (hX : va_X b L xs s s.heap) (hbl : b < s.heap.size) (hL : L ≤ 2051) (hbA : ¬ A b) (hS : va_S A s.heap H locs) (k : Nat) (hk : k < 3) (hsize : ls.size = 4) (hW : (rest.map fun v => v.category).sum ≤ 8) (hdg : decode cL_law pc = .ok (.invokestatic 9, 3)) (hf : cells ≤ 600000 ∧ slots ≤ 7302250)
    (kk : W p l e room_1 s m args below meth c H locs cells slots Q (F0 m (pc + 3) ls (.int (l_cell xs L k) :: rest))) : W p l e room_1 s m args below meth c H locs cells slots Q (F0 m pc ls (.int (nI k) :: .ref b :: rest)) := by
  refine z_runR (va_runS (As := [.ref b, .int (nI k)]) (rest := rest) ⟨hx, hb, hml, hown, hts⟩ (k_L_cell l b L xs k hk) (va_cwS 2 hts gL_law_L_cell rfl rfl rfl (by decide +kernel) ⟨Nat.le_of_ble_eq_true rfl, Nat.le_of_ble_eq_true rfl⟩) ⟨fun a U g mk q => ?_, fun U hU hW => ⟨rfl, ?_⟩⟩ rfl rfl hsize rfl (lv_room hW) hdg hf) kk
  · exact ⟨q.1, va_X.moved (u := U) (U := U.calling g mk a) (Vm.Alike.refl U.vm) q.2.1, q.2.2.1, q.2.2.2⟩
  · show va_X b L xs U U.heap ∧ b < U.heap.size ∧ L ≤ 2051
    rw [hU]
    exact ⟨va_X.moved hW.alike (va_X.kept hX (hS.2.1 b hbl hbA)), Nat.lt_of_lt_of_le hbl hS.1, hL⟩
set_option maxHeartbeats 4000000 in
set_option maxRecDepth 100000 in
theorem law_loop {p0 : Program} {l : Launch} {e : Env} {s : State} {m : MethodId} {below : List Frame} {meth : Method} {c : Code} {b L : Nat} {xs : Nat → Int32} {D : va_G} {cI : ClassId} {ad am : Nat → Nat} {K : RW} {v : Int32} (C0 : lw_At p0 s m meth c b L xs) (hL : L ≤ 2051) (hK : va_K D vwCl [(cI, .int)] s) (hN : zN s) : ∀ (g i : Nat) (f : RW) (p a st n k : Int32) (tb : RW) (tl : Nat) (ob im : RW) (md : Nat) (rn : Int32) (mim : RW) (mmd : Nat) (H : Heap) (locs : List Loc) (ls : Array Slot), i ≤ 3000 → L + 1 - i < g → br_I f p st n tl rn → mmd < 1000000 → va_P D vwCl (lW cI ad am K v f p a st n k tb tl ob im md rn K v f tb tl p rn (br_lf st n) k a mim mmd) H → va_D (fun q : Nat => s.heap.size ≤ q) (lW cI ad am K v f p a st n k tb tl ob im md rn K v f tb tl p rn (br_lf st n) k a mim mmd) → va_S (fun q : Nat => s.heap.size ≤ q) s.heap H locs → lv_has ls 4 [(0, .ref b), (1, .ref (ad 0)), (2, .ref (am 0)), (3, .int (nI i))] → W p0 l e room_1 s m #[Value.ref b] below meth c H locs 600000 7302250 (lw_Z below #[Value.ref b] s) (F0 m 48 ls []) := by
  obtain ⟨hx, hb0, hr, hml, hown0, hts0, hX, hbl, hlocks, hgv⟩ := id C0
  have hb : c.code = cL_law := hb0
  have hA : ∀ q : Nat, s.heap.size ≤ q → (fun q : Nat => s.heap.size ≤ q) q := fun _ h => h
  have hbA : ¬ (fun q : Nat => s.heap.size ≤ q) b := Nat.not_le.mpr hbl
  intro g
  induction g with
  | zero => intro i f p a st n k tb tl ob im md rn mim mmd H locs ls h1 h2; exact absurd h2 (Nat.not_lt_zero _)
  | succ g ih =>
    intro i f p a st n k tb tl ob im md rn mim mmd H locs ls h1 h2 hI hmd hP hD hS hl
    refine lv_iload_n hx hb dL_law_48 rfl (lv_at hl 3 rfl) ?_
    refine lv_aload_n hx hb dL_law_49 rfl (lv_at hl 0 rfl) ?_
    refine va_slen hx hb hX hbl hbA hS dL_law_50 ?_
    refine lv_iconst (v := 4) hx hb dL_law_51 (by decide) ?_
    refine lv_isub hx hb dL_law_52 ?_
    have h9 : (nI L - nI 4).toInt = (L : Int) - 4 := pk_sub_toInt (by omega) (by omega)
    refine lv_icmp_gt (tgt := 413) hx hb dL_law_53 (by decide) (fun c1 => ?_) (fun c1 => ?_)
    · refine lv_iconst (v := 1) hx hb dL_law_413 (by decide) ?_
      refine va_forget (fun q hq => hS.2.2 q hq) ?_
      exact lw_ret hx hb0 hr hlocks dL_law_414
    · have hlt : i + 4 ≤ L := by
        have c2 : ¬ (nI L - nI 4 < nI i) := c1
        rw [Int32.lt_iff_toInt_lt, h9, nI_toInt (by omega)] at c2
        omega
      refine lv_aload_n hx hb dL_law_56 rfl (lv_at hl 0 rfl) ?_
      refine lv_iload_n hx hb dL_law_57 rfl (lv_at hl 3 rfl) ?_
      refine z_sld hx hb hX hbl hbA hS i rfl (by omega) (by omega) dL_law_58 ?_
      refine lv_bipush (v := 15) hx hb dL_law_59 (by decide) ?_
      refine lv_iand hx hb dL_law_61 ?_
      obtain ⟨r, hr16, er⟩ := pk_andE (xs i) (m := 15) 4 (by decide)
      refine z_top er ?_
      have kk : ∀ (f : RW) (p a st n k : Int32) (tb : RW) (tl : Nat) (ob im : RW) (md : Nat) (rn : Int32) (mim : RW) (mmd : Nat) (H : Heap) (locs : List Loc), br_I f p st n tl rn → mmd < 1000000 → va_P D vwCl (lW cI ad am K v f p a st n k tb tl ob im md rn K v f tb tl p rn (br_lf st n) k a mim mmd) H → va_D (fun q : Nat => s.heap.size ≤ q) (lW cI ad am K v f p a st n k tb tl ob im md rn K v f tb tl p rn (br_lf st n) k a mim mmd) → va_S (fun q : Nat => s.heap.size ≤ q) s.heap H locs → W p0 l e room_1 s m #[Value.ref b] below meth c H locs 600000 7302250 (lw_Z below #[Value.ref b] s) (F0 m 407 ls []) := by
        intro f p a st n k tb tl ob im md rn mim mmd H locs hI hmd hP hD hS
        refine lv_iinc (v := nI (i + 4)) (lv' := [(3, .int (nI (i + 4))), (0, .ref b), (1, .ref (ad 0)), (2, .ref (am 0))]) hx hb dL_law_407 hl (k := 3) rfl (z_inc _ _ rfl) (by decide) rfl (fun ls hl => ?_)
        refine lv_goto (tgt := 48) hx hb dL_law_410 (by decide) ?_
        exact ih (i + 4) f p a st n k tb tl ob im md rn mim mmd H locs ls (by omega) (by omega) hI hmd hP hD hS (lv_sub hl [1, 2, 3, 0] rfl)
      have hr16 : r < 16 := hr16
      rcases (show r = 0 ∨ r = 1 ∨ r = 2 ∨ r = 3 ∨ r = 4 ∨ r = 5 ∨ r = 6 ∨ r = 7 ∨ r = 8 ∨ r = 9 ∨ r = 10 ∨ r = 11 ∨ r = 12 ∨ 13 ≤ r by omega) with rfl | rfl | rfl | rfl | rfl | rfl | rfl | rfl | rfl | rfl | rfl | rfl | rfl | h13
      · refine lv_tableIn (off := 66) (tgt := 128) hx hb dL_law_62 (by decide) (by decide) (by decide) (by decide) ?_
        exact law_c0 C0 hL hK hN hI hmd (by omega) hP hD hS hl kk
      · refine lv_tableIn (off := 129) (tgt := 191) hx hb dL_law_62 (by decide) (by decide) (by decide) (by decide) ?_
        exact law_c1 C0 hL hK hN hI hmd (by omega) hP hD hS hl kk
      · refine lv_tableIn (off := 152) (tgt := 214) hx hb dL_law_62 (by decide) (by decide) (by decide) (by decide) ?_
        exact law_c2 C0 hL hK hN hI hmd (by omega) hP hD hS hl kk
      · refine lv_tableIn (off := 165) (tgt := 227) hx hb dL_law_62 (by decide) (by decide) (by decide) (by decide) ?_
        exact law_c3 C0 hL hK hN hI hmd (by omega) hP hD hS hl kk
      · refine lv_tableIn (off := 188) (tgt := 250) hx hb dL_law_62 (by decide) (by decide) (by decide) (by decide) ?_
        exact law_c4 C0 hL hK hN hI hmd (by omega) hP hD hS hl kk
      · refine lv_tableIn (off := 201) (tgt := 263) hx hb dL_law_62 (by decide) (by decide) (by decide) (by decide) ?_
        exact law_c5 C0 hL hK hN hI hmd (by omega) hP hD hS hl kk
      · refine lv_tableIn (off := 214) (tgt := 276) hx hb dL_law_62 (by decide) (by decide) (by decide) (by decide) ?_
        exact law_c6 C0 hL hK hN hI hmd (by omega) hP hD hS hl kk
      · refine lv_tableIn (off := 227) (tgt := 289) hx hb dL_law_62 (by decide) (by decide) (by decide) (by decide) ?_
        exact law_c7 C0 hL hK hN hI hmd (by omega) hP hD hS hl kk
      · refine lv_tableIn (off := 260) (tgt := 322) hx hb dL_law_62 (by decide) (by decide) (by decide) (by decide) ?_
        exact law_c8 C0 hL hK hN hI hmd (by omega) hP hD hS hl kk
      · refine lv_tableIn (off := 273) (tgt := 335) hx hb dL_law_62 (by decide) (by decide) (by decide) (by decide) ?_
        exact law_c9 C0 hL hK hN hI hmd (by omega) hP hD hS hl kk
      · refine lv_tableIn (off := 286) (tgt := 348) hx hb dL_law_62 (by decide) (by decide) (by decide) (by decide) ?_
        exact law_c10 C0 hL hK hN hI hmd (by omega) hP hD hS hl kk
      · refine lv_tableIn (off := 299) (tgt := 361) hx hb dL_law_62 (by decide) (by decide) (by decide) (by decide) ?_
        exact law_c11 C0 hL hK hN hI hmd (by omega) hP hD hS hl kk
      · refine lv_tableIn (off := 322) (tgt := 384) hx hb dL_law_62 (by decide) (by decide) (by decide) (by decide) ?_
        exact law_c12 C0 hL hK hN hI hmd (by omega) hP hD hS hl kk
      · refine lv_tableOut (tgt := 407) hx hb dL_law_62 (Or.inr (by rw [nI_toInt (by omega)]; omega)) (by decide) ?_
        exact kk _ _ _ _ _ _ _ _ _ _ _ _ _ _ _ _ hI hmd hP hD hS
