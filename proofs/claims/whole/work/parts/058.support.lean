-- what every walk below uses: the nest's words, two forms of contract (a method that only reads, a method that writes in place), their entries and calls
def zNest : List Cond := [.fieldLinkNest RX5 71 RX0 "power" "Z" RX5, .fieldLinkNest RX5 197 RX0 "actsDone" "I" RX5, .methodLinkNest RX5 18 yX4_init RX5, .fieldLinkNest RX1 15 RX4 "bytes" "[I" RX5, .fieldLinkNest RX5 89 RX4 "bytes" "[I" RX5, .fieldLinkNest RX5 68 RX4 "length" "I" RX5, .fieldLinkNest RX5 252 RX3 "start" "I" RX5, .methodLinkNest RX5 37 yX1_init RX5, .fieldLinkNest RX5 226 RX1 "bytes" "[I" RX5, .methodLinkNest RX5 44 yX2_init RX5, .fieldLinkNest RX5 265 RX2 "image" "[I" RX5, .fieldLinkNest RX5 259 RX2 "made" "I" RX5, .methodLinkNest RX0 40 yX5_byteOfWord RX5, .methodLinkNest RX1 37 yX5_isSequence RX5, .methodLinkNest RX1 44 yX5_isLength RX5, .methodLinkNest RX1 50 yX5_digest RX5, .methodLinkNest RX0 48 yX5_digestByte RX5, .methodLinkNest RX3 41 yX5_isLength RX5]
def zN (U : State) : Prop := ∀ w ∈ zNest, va_Nw w U
theorem zNest_on : zNest.all (fun w => w.onTables) = true := by decide +kernel
theorem zN_moved {u U : State} (h : u.vm = U.vm) (hN : zN u) : zN U := fun w hw => va_Nw.same (List.all_eq_true.mp zNest_on w hw) h (hN w hw)
theorem zN_warm {s U : State} (hW : s.WarmedH U.vm) (hN : zN s) : zN U := by
  simp only [zN, zNest, List.forall_mem_cons] at hN ⊢
  obtain ⟨h0, h1, h2, h3, h4, h5, h6, h7, h8, h9, h10, h11, h12, h13, h14, h15, h16, h17, h18⟩ := hN
  exact ⟨va_Nw.warmF hW h0, va_Nw.warmF hW h1, va_Nw.warmM hW h2, va_Nw.warmF hW h3, va_Nw.warmF hW h4, va_Nw.warmF hW h5, va_Nw.warmF hW h6, va_Nw.warmM hW h7, va_Nw.warmF hW h8, va_Nw.warmM hW h9, va_Nw.warmF hW h10, va_Nw.warmF hW h11, va_Nw.warmM hW h12, va_Nw.warmM hW h13, va_Nw.warmM hW h14, va_Nw.warmM hW h15, va_Nw.warmM hW h16, va_Nw.warmM hW h17, fun _ h => absurd h List.not_mem_nil⟩
theorem zN_at {s : State} (hN : zN s) (i : Nat) {w : Cond} (h : zNest[i]? = some w) : va_Nw w s := hN w (List.mem_of_getElem? h)
theorem zN_use {s : State} {args : Array Value} (hN : zN s) (i : Nat) {w : Cond} (h : zNest[i]? = some w) : w.before args s = true := va_Nw.use (List.all_eq_true.mp zNest_on w (List.mem_of_getElem? h)) (zN_at hN i h)
theorem zN_law {s : State} {args : Array Value} (hts : ∀ w ∈ lw_tbl, w.before args s = true) (hin : ∀ w ∈ zNest, w ∈ lw_tbl) : zN s := fun w hw => va_Nw.of (List.all_eq_true.mp zNest_on w hw) (hts w (hin w hw))
-- contracts
def zBR (D : va_G) (cI : ClassId) (ws : va_W) (U : State) : Prop := va_P D vwCl ws U.heap ∧ va_K D vwCl [(cI, .int)] U ∧ zN U
def zBW (D : va_G) (cI : ClassId) (ws : va_W) (sz : Nat) (U : State) : Prop := U.heap.size = sz ∧ va_P D vwCl ws U.heap ∧ va_K D vwCl [(cI, .int)] U ∧ va_D (fun _ => True) ws ∧ zN U
def zR (v : Value) : Array Value → State → Outcome → State → Prop := fun _ st o t => o = .returned (some v) ∧ t.heap = st.heap
def zW {S : Type} (D : va_G) (f : S) (rv : S → Option Value) (Wn : S → va_W) (A : Nat → Prop) : Array Value → State → Outcome → State → Prop := fun _ st o t => (∃ u : S, u = f ∧ o = .returned (rv u) ∧ va_P D vwCl (Wn u) t.heap) ∧ va_F A st t
def zMR (l : Launch) (D : va_G) (cI : ClassId) (y : MethodName) (w : List Cond) (rm : Room) (av : List Value) (ws : va_W) (v : Value) : Prop := Met l y w rm (va_Pc av (zBR D cI ws)) (zR v) 0 0 (fun _ => False)
def zMW {S : Type} (l : Launch) (D : va_G) (cI : ClassId) (y : MethodName) (w : List Cond) (rm : Room) (av : List Value) (ws : va_W) (f : S) (rv : S → Option Value) (Wn : S → va_W) : Prop := ∀ sz : Nat, Met l y w rm (va_Pc av (zBW D cI ws sz)) (zW D f rv Wn (va_A ws sz)) 0 0 (va_A ws sz)
theorem zBR_blind {D : va_G} {cI : ClassId} {ws : va_W} {av : List Value} : FrameBlind (va_Pc av (zBR D cI ws)) := fun a U g mk q => by
  obtain ⟨q0, qP, qK, qN⟩ := q
  exact ⟨q0, qP, va_K.moved (u := U) (U := U.calling g mk a) (Vm.Alike.refl U.vm) qK, zN_moved (u := U) (U := U.calling g mk a) rfl qN⟩
theorem zBW_blind {D : va_G} {cI : ClassId} {ws : va_W} {sz : Nat} {av : List Value} : FrameBlind (va_Pc av (zBW D cI ws sz)) := fun a U g mk q => by
  obtain ⟨q0, q1, qP, qK, qD, qN⟩ := q
  exact ⟨q0, q1, qP, va_K.moved (u := U) (U := U.calling g mk a) (Vm.Alike.refl U.vm) qK, qD, zN_moved (u := U) (U := U.calling g mk a) rfl qN⟩
theorem va_D_same {A : Nat → Prop} {ws ws' : va_W} (h : va_D A ws) (hf : ws'.map Prod.fst = ws.map Prod.fst) : va_D A ws' := by
  have key : ∀ (k : Nat) (q : Nat × va_E), ws'[k]? = some q → ∃ q2, ws[k]? = some q2 ∧ q2.1 = q.1 := by
    intro k q hk
    have h1 : (ws'.map Prod.fst)[k]? = some q.1 := by rw [List.getElem?_map, hk]; rfl
    rw [hf, List.getElem?_map] at h1
    cases h2 : ws[k]? with
    | none => rw [h2] at h1; cases h1
    | some q2 => rw [h2] at h1; exact ⟨q2, rfl, Option.some.inj h1⟩
  refine ⟨fun i j x y hi hj hxy => ?_, fun k q hk => ?_⟩
  · obtain ⟨x2, a1, a2⟩ := key i x hi
    obtain ⟨y2, b1, b2⟩ := key j y hj
    exact h.1 i j x2 y2 a1 b1 (by rw [a2, b2]; exact hxy)
  · obtain ⟨q2, a1, a2⟩ := key k q hk
    rw [← a2]
    exact h.2 k q2 a1
/-- behind a call that leaves each cell in its place: the callee's cells as it says, the others as they were -/
theorem z_place {D : va_G} {A0 : Nat → Prop} {ws wc wn ws' : va_W} {H H1 : Heap} (hP : va_P D vwCl ws H) (hD : va_D A0 ws) (isC isR : List Nat) (hC : isC.map (fun i => ws[i]?) = wc.map some) (hR : isR.map (fun i => ws'[i]?) = isR.map (fun i => ws[i]?)) (hN : isC.map (fun i => ws'[i]?) = wn.map some)
    (hf : ws'.map Prod.fst = ws.map Prod.fst) (hco : (List.range ws.length).all (fun i => isC.contains i || (isR.contains i && !isC.contains i)) = true) (hk : ∀ q : Nat, q < H.size → ¬ va_A wc H.size q → H1[q]? = H[q]?) (hP1 : va_P D vwCl wn H1) : va_P D vwCl ws' H1 := by
  have hlen : ws'.length = ws.length := by rw [← List.length_map (f := Prod.fst), hf, List.length_map]
  intro k q hq
  have hkl : k < ws.length := by rw [← hlen]; exact (List.getElem?_eq_some_iff.mp hq).1
  have h1 := List.all_eq_true.mp hco k (List.mem_range.mpr hkl)
  by_cases hc : isC.contains k = true
  · obtain ⟨j, hj⟩ := List.getElem?_of_mem (List.contains_iff_mem.mp hc)
    have h2 : (isC.map (fun i => ws'[i]?))[j]? = some (some q) := by rw [List.getElem?_map, hj, ← hq]; rfl
    rw [hN, List.getElem?_map] at h2
    cases h3 : wn[j]? with
    | none => rw [h3] at h2; cases h2
    | some q2 => rw [h3] at h2; exact hP1 j q (by rw [h3]; exact Option.some.inj h2)
  · have hr : isR.contains k = true := by
      cases h9 : isC.contains k
      · rw [h9] at h1; simp only [Bool.false_or, Bool.not_false, Bool.and_true] at h1; exact h1
      · exact absurd h9 hc
    obtain ⟨j, hj⟩ := List.getElem?_of_mem (List.contains_iff_mem.mp hr)
    have h2 : (isR.map (fun i => ws'[i]?))[j]? = some (some q) := by rw [List.getElem?_map, hj, ← hq]; rfl
    rw [hR, List.getElem?_map, hj] at h2
    have h3 : ws[k]? = some q := Option.some.inj h2
    refine (hP k q h3).kept (hk q.1 (hP k q h3).lt (fun h => ?_))
    rcases h with ⟨k2, e, h⟩ | h
    · have h4 : (isC.map (fun i => ws[i]?))[k2]? = some (some (q.1, e)) := by rw [hC, List.getElem?_map, h]; rfl
      rw [List.getElem?_map] at h4
      cases hi : isC[k2]? with
      | none => rw [hi] at h4; cases h4
      | some i =>
        rw [hi] at h4
        have h5 : ws[i]? = some (q.1, e) := Option.some.inj h4
        have h6 := hD.1 k i q (q.1, e) h3 h5 rfl
        subst h6
        exact hc (List.contains_iff_mem.mpr (List.mem_of_getElem? hi))
    · have := (hP k q h3).lt
      omega
section ZC
variable {p : Program} {l : Launch} {e : Env} {R : Room} {s : State} {m : MethodId} {args : Array Value} {below : List Frame} {meth : Method} {c : Code} {H : Heap} {locs : List Loc} {cells slots : Nat} {Q : State → Prop}
variable {pc : Nat} {ls : Array Slot} {rest st0 : List Value} {a : Array Value} {A0 A1 : Nat → Prop} {H0 : Heap} {free : Addr → Prop} {D : va_G} {cI : ClassId} {ws wc : va_W}
theorem z_runR {v : Value} (hr : va_Run p l e R s m args below meth c H locs cells slots 0 0 (F0 m pc ls st0) rest (zR v a) (fun _ => False)) (kk : W p l e R s m args below meth c H locs cells slots Q (F0 m (pc + 3) ls (v :: rest))) : W p l e R s m args below meth c H locs cells slots Q (F0 m pc ls st0) := by
  intro T hT X
  obtain ⟨v', st₀, t, T', L, h0, X', hL, e1, e2, ⟨hv, hh⟩, st⟩ := hr T hT X
  cases hv
  obtain ⟨t2, a1, b1⟩ := kk T' (by rw [e1, hh, h0]) (Stand.forget X' (fun q h => (hL q h).elim))
  exact ⟨t2, st t2 a1, b1⟩
theorem z_runW {S : Type} {f : S} {rv : S → Option Value} {Wn : S → va_W} (hr : va_Run p l e R s m args below meth c H locs cells slots 0 0 (F0 m pc ls st0) rest (zW D f rv Wn A1 a) free) (hS : va_S A0 H0 H locs) (hA : ∀ q, q < H.size → A1 q → A0 q) (hf : ∀ q, free q → A0 q)
    (kk : ∀ (u : S) (H1 : Heap) (locs1 : List Loc), u = f → va_P D vwCl (Wn u) H1 → (∀ q : Nat, q < H.size → ¬ A1 q → H1[q]? = H[q]?) → va_S A0 H0 H1 locs1 → W p l e R s m args below meth c H1 locs1 cells slots Q (F0 m (pc + 3) ls ((rv u).toList ++ rest))) : W p l e R s m args below meth c H locs cells slots Q (F0 m pc ls st0) := by
  intro T hT X
  obtain ⟨v, st₀, t, T', L, h0, X', hL, e1, e2, ⟨⟨u, hu, hv, hb⟩, hz, hk⟩, st⟩ := hr T hT X
  cases hv
  rw [h0] at hz hk
  obtain ⟨t2, a1, b1⟩ := kk u T'.heap (locs ++ L) hu (by rw [e1]; exact hb) (fun q h1 h2 => by rw [e1]; exact hk q h1 h2)
    ⟨Nat.le_trans hS.1 (by rw [e1]; exact hz), fun q h1 h2 => by rw [e1, hk q (Nat.lt_of_lt_of_le h1 hS.1) (fun z => h2 (hA q (Nat.lt_of_lt_of_le h1 hS.1) z))]; exact hS.2.1 q h1 h2, fun q hq => by
      rcases List.mem_append.mp hq with h | h
      · exact hS.2.2 q h
      · exact hf _ (hL q h)⟩ T' rfl X'
  exact ⟨t2, st t2 a1, b1⟩
variable {y : MethodName} {bytes cc : ByteArray} {maxL nL n index : Nat} {ret : Option FieldType} {w : List Cond} {rm : Room} {Ts : List Cond} {own C host : String} {b : Addr} {As : List Value}
theorem zVR {v : Value} (S : CallFix p m c cc nL s args Ts own) (hM : zMR l D cI y w rm (.ref b :: As) wc v) (cw : CallW R s args own C index y bytes maxL ret w rm 0 0 n)
    (hP : va_P D vwCl ws H) (hK : va_K D vwCl [(cI, .int)] s) (hN : zN s) (isC : List Nat) (hC : isC.filterMap (fun i => ws[i]?) = wc) (recv : ∃ cell : Cell, H[b]? = some cell ∧ cell.vm.isStatics = false ∧ s.vm.findClass C = some cell.cls)
    (hn : As.length = n) (hsize : ls.size = nL) (hst : st0 = As.reverse ++ .ref b :: rest) (hW : (rest.map fun v => v.category).sum ≤ 8) (hdg : decode cc pc = .ok (.invokevirtual index, 3)) (hf : cells ≤ R.cells ∧ slots ≤ R.slots)
    (kk : W p l e R s m args below meth c H locs cells slots Q (F0 m (pc + 3) ls (v :: rest))) : W p l e R s m args below meth c H locs cells slots Q (F0 m pc ls st0) :=
  z_runR (va_runV S hM cw ⟨zBR_blind, recv, fun U hU hW => ⟨rfl, by rw [hU]; exact hP.sub isC hC, va_K.moved hW.alike hK, zN_warm hW hN⟩⟩ rfl hn hsize hst (lv_room hW) hdg hf) kk
theorem zSR {v : Value} (S : CallFix p m c cc nL s args Ts own) (hM : zMR l D cI y w rm As wc v) (cw : CallB R s args own index y bytes maxL ret w rm 0 0 n ∧ (Cond.static y).before args s = true)
    (hP : va_P D vwCl ws H) (hK : va_K D vwCl [(cI, .int)] s) (hN : zN s) (isC : List Nat) (hC : isC.filterMap (fun i => ws[i]?) = wc)
    (hn : As.length = n) (hsize : ls.size = nL) (hst : st0 = As.reverse ++ rest) (hW : (rest.map fun v => v.category).sum ≤ 8) (hdg : decode cc pc = .ok (.invokestatic index, 3)) (hf : cells ≤ R.cells ∧ slots ≤ R.slots)
    (kk : W p l e R s m args below meth c H locs cells slots Q (F0 m (pc + 3) ls (v :: rest))) : W p l e R s m args below meth c H locs cells slots Q (F0 m pc ls st0) :=
  z_runR (va_runS S hM cw ⟨zBR_blind, fun U hU hW => ⟨rfl, by rw [hU]; exact hP.sub isC hC, va_K.moved hW.alike hK, zN_warm hW hN⟩⟩ rfl hn hsize hst (lv_room hW) hdg hf) kk
theorem zNR {v : Value} (S : CallFix p m c cc nL s args Ts own) (hM : zMR l D cI y w rm As wc v) (cw : va_CN R s args own index y host bytes maxL ret w rm 0 0 n ∧ (Cond.static y).before args s = true ∧ True)
    (hP : va_P D vwCl ws H) (hK : va_K D vwCl [(cI, .int)] s) (hN : zN s) (isC : List Nat) (hC : isC.filterMap (fun i => ws[i]?) = wc)
    (hn : As.length = n) (hsize : ls.size = nL) (hst : st0 = As.reverse ++ rest) (hW : (rest.map fun v => v.category).sum ≤ 8) (hdg : decode cc pc = .ok (.invokestatic index, 3)) (hf : cells ≤ R.cells ∧ slots ≤ R.slots)
    (kk : W p l e R s m args below meth c H locs cells slots Q (F0 m (pc + 3) ls (v :: rest))) : W p l e R s m args below meth c H locs cells slots Q (F0 m pc ls st0) :=
  z_runR (va_runSN S hM cw ⟨zBR_blind, fun U hU hW => ⟨rfl, by rw [hU]; exact hP.sub isC hC, va_K.moved hW.alike hK, zN_warm hW hN⟩⟩ rfl hn hsize hst (lv_room hW) hdg hf) kk
theorem zVW {S0 : Type} {f : S0} {rv : S0 → Option Value} {Wn ws' : S0 → va_W} (S : CallFix p m c cc nL s args Ts own) (hM : zMW l D cI y w rm (.ref b :: As) wc f rv Wn) (cw : CallW R s args own C index y bytes maxL ret w rm 0 0 n)
    (hP : va_P D vwCl ws H) (hK : va_K D vwCl [(cI, .int)] s) (hN : zN s) (hD : va_D A0 ws) (hS : va_S A0 H0 H locs) (hA : ∀ q, H0.size ≤ q → A0 q) (isC isR : List Nat) (wr : va_W) (hC : isC.map (fun i => ws[i]?) = wc.map some) (hnd : va_nd isC = true) (hR2 : isR.map (fun i => ws[i]?) = wr.map some) (hR : ∀ u, isR.map (fun i => (ws' u)[i]?) = wr.map some) (hN1 : ∀ u, isC.map (fun i => (ws' u)[i]?) = (Wn u).map some)
    (hfst : ∀ u, (ws' u).map Prod.fst = ws.map Prod.fst) (hco : (List.range ws.length).all (fun i => isC.contains i || (isR.contains i && !isC.contains i)) = true) (recv : ∃ cell : Cell, H[b]? = some cell ∧ cell.vm.isStatics = false ∧ s.vm.findClass C = some cell.cls)
    (hn : As.length = n) (hsize : ls.size = nL) (hst : st0 = As.reverse ++ .ref b :: rest) (hW : (rest.map fun v => v.category).sum ≤ 8) (hdg : decode cc pc = .ok (.invokevirtual index, 3)) (hf : cells ≤ R.cells ∧ slots ≤ R.slots)
    (kk : ∀ (u : S0) (H1 : Heap) (locs1 : List Loc), u = f → va_P D vwCl (ws' u) H1 → va_D A0 (ws' u) → va_S A0 H0 H1 locs1 → W p l e R s m args below meth c H1 locs1 cells slots Q (F0 m (pc + 3) ls ((rv u).toList ++ rest))) : W p l e R s m args below meth c H locs cells slots Q (F0 m pc ls st0) := by
  have hF := va_free hD hS hA isC hC
  have hPc : va_P D vwCl wc H := hP.sub isC (by
    have h9 : ∀ (l1 : List Nat) (l2 : va_W), l1.map (fun i => ws[i]?) = l2.map some → l1.filterMap (fun i => ws[i]?) = l2 := by
      intro l1
      induction l1 with
      | nil => intro l2 h; cases l2 with
        | nil => rfl
        | cons _ _ => cases h
      | cons x l1 ih => intro l2 h; cases l2 with
        | nil => cases h
        | cons z l2 =>
          simp only [List.map_cons, List.cons.injEq] at h
          rw [List.filterMap_cons, h.1, ih l2 h.2]
    exact h9 _ _ hC)
  have hDc : va_D A0 wc := hD.sub isC hnd hC
  refine z_runW (A1 := va_A wc H.size) (free := va_A wc H.size) (va_runV S (hM H.size) cw ⟨zBW_blind, recv, fun U hU hW => ⟨rfl, by rw [hU], by rw [hU]; exact hPc, va_K.moved hW.alike hK, hDc.weaken (fun _ _ _ _ => trivial), zN_warm hW hN⟩⟩ rfl hn hsize hst (lv_room hW) hdg hf) hS (fun q _ h => hF q h) hF (fun u H1 locs1 hu hP1 hk hS1 => ?_)
  exact kk u H1 locs1 hu (z_place hP hD isC isR hC ((hR u).trans hR2.symm) (hN1 u) (hfst u) hco hk hP1) (va_D_same hD (hfst u)) hS1
end ZC
-- entries
theorem zEntR {l : Launch} {D : va_G} {cI : ClassId} {y : MethodName} {w w' : List Cond} {rm : Room} {av : List Value} {ws : va_W} {v : Value} {cc : ByteArray} {maxL : Nat} {ret : Option FieldType} {own : String} {lvs : List (Nat × Value)} (hy : plainName y.cls = true) (hw : w = Cond.code y cc maxL ret :: w') (hown0 : y.cls = own) (hrc : rm.cells = 0) (hrs : rm.slots = 0) (hmax : (lg_sl av).length ≤ maxL) (hlv : lv_args 0 av = lvs)
    (body : ∀ (p : Program) (e : Env) (s : State) (m : MethodId) (args : Array Value) (below : List Frame) (meth : Method) (c : Code) (Q : State → Prop) (ls : Array Slot), p.tables.exec = Jvm.exec → c.code = cc → c.maxLocals = maxL → (∀ q ∈ w, q.before args s = true) → s.vm.findClass own = some m.cls → va_P D vwCl ws s.heap → va_K D vwCl [(cI, .int)] s → zN s → lv_has ls maxL lvs →
      (∀ (pc : Nat) (ls : Array Slot) (z : Int32) (ty : FieldType), decode cc pc = .ok (.ireturn, 1) → ret = some ty → narrow ty (.int z) = .int z → Value.int z = v → W p l e rm s m args below meth c s.heap [] 0 0 Q (F0 m pc ls [.int z])) →
      (∀ (pc : Nat) (ls : Array Slot) (q : Nat) (nm : String), decode cc pc = .ok (.areturn, 1) → ret = some (.object nm) → Value.ref q = v → W p l e rm s m args below meth c s.heap [] 0 0 Q (F0 m pc ls [.ref q])) →
      W p l e rm s m args below meth c s.heap [] 0 0 Q (F0 m 0 ls [])) : zMR l D cI y w rm av ws v := by
  refine Met.ofW (cc := cc) (maxL := maxL) (ret := ret) hy hw ?_
  intro p e s m args below meth c s₁ B hml hv
  obtain ⟨ha, hP, hK, hN⟩ := hv
  subst ha
  have hx := B.exec
  have hb := B.bytes
  have hr := B.returns
  have hts := atoms_spec (ws := w) B.pre
  have hown : s.vm.findClass own = some m.cls := by rw [← hown0]; exact findClass_of_methodNamed B.named
  have hlocks := B.notSynchronized
  have hl := lv_entry av (n := maxL) hmax
  rw [hlv] at hl
  rw [lg_entry_eq]
  have hroom : (headSpec w rm).room = rm := rfl
  rw [hroom]
  refine body p e s m _ below meth c _ _ hx hb hml hts hown hP hK hN hl ?_ ?_
  · intro pc ls z ty hd hty hn hz
    exact W.zret (v := z) hx hb (hr.trans hty) hn (fun t ht hW => ⟨by rw [hz], ht⟩) (fun _ h => absurd h List.not_mem_nil) hd
  · intro pc ls q nm hd hty hz
    exact W.aret (v := .ref q) hx hb (hr.trans hty) (Or.inl ⟨nm, rfl⟩) (Or.inr ⟨q, rfl⟩) (fun t ht hW => ⟨by rw [hz], ht⟩) (fun _ h => absurd h List.not_mem_nil) hd
theorem zEntW {S : Type} {l : Launch} {D : va_G} {cI : ClassId} {y : MethodName} {w w' : List Cond} {rm : Room} {av : List Value} {ws : va_W} {f : S} {rv : S → Option Value} {Wn : S → va_W} {cc : ByteArray} {maxL : Nat} {ret : Option FieldType} {own : String} {lvs : List (Nat × Value)} (hy : plainName y.cls = true) (hw : w = Cond.code y cc maxL ret :: w') (hown0 : y.cls = own) (hmax : (lg_sl av).length ≤ maxL) (hlv : lv_args 0 av = lvs)
    (body : ∀ (p : Program) (e : Env) (s : State) (m : MethodId) (args : Array Value) (below : List Frame) (meth : Method) (c : Code) (Q : State → Prop) (ls : Array Slot) (A : Nat → Prop), p.tables.exec = Jvm.exec → c.code = cc → c.maxLocals = maxL → (∀ q ∈ w, q.before args s = true) → s.vm.findClass own = some m.cls → va_P D vwCl ws s.heap → va_K D vwCl [(cI, .int)] s → zN s → va_D A ws → va_S A s.heap s.heap [] → (∀ q, s.heap.size ≤ q → A q) → lv_has ls maxL lvs →
      (∀ (pc : Nat) (ls : Array Slot) (H : Heap) (locs : List Loc) (u : S) (z : Int32) (ty : FieldType), decode cc pc = .ok (.ireturn, 1) → ret = some ty → narrow ty (.int z) = .int z → rv u = some (.int z) → u = f → va_P D vwCl (Wn u) H → va_S A s.heap H locs → W p l e rm s m args below meth c H locs 0 0 Q (F0 m pc ls [.int z])) →
      (∀ (pc : Nat) (ls : Array Slot) (H : Heap) (locs : List Loc) (u : S), decode cc pc = .ok (.return_, 1) → ret = none → rv u = none → u = f → va_P D vwCl (Wn u) H → va_S A s.heap H locs → W p l e rm s m args below meth c H locs 0 0 Q (F0 m pc ls [])) →
      W p l e rm s m args below meth c s.heap [] 0 0 Q (F0 m 0 ls [])) : zMW l D cI y w rm av ws f rv Wn := by
  intro sz
  refine Met.ofW (cc := cc) (maxL := maxL) (ret := ret) hy hw ?_
  intro p e s m args below meth c s₁ B hml hv
  obtain ⟨ha, hsz, hP, hK, hD0, hN⟩ := hv
  subst ha
  subst hsz
  have hx := B.exec
  have hb := B.bytes
  have hr := B.returns
  have hts := atoms_spec (ws := w) B.pre
  have hown : s.vm.findClass own = some m.cls := by rw [← hown0]; exact findClass_of_methodNamed B.named
  have hlocks := B.notSynchronized
  have hl := lv_entry av (n := maxL) hmax
  rw [hlv] at hl
  rw [lg_entry_eq]
  have hroom : (headSpec w rm).room = rm := rfl
  rw [hroom]
  refine body p e s m _ below meth c _ _ (va_A ws s.heap.size) hx hb hml hts hown hP hK hN hD0.self va_S.rf (fun q h => Or.inr h) hl ?_ ?_
  · intro pc ls H locs u z ty hd hty hn hz hu hPu hSu
    exact W.zret (v := z) hx hb (hr.trans hty) hn (fun t ht hW => ⟨⟨u, hu, by rw [hz], by rw [ht]; exact hPu⟩, hSu.F ht⟩) hSu.2.2 hd
  · intro pc ls H locs u hd hty hz hu hPu hSu
    exact W.vret hx hb (hr.trans hty) (fun t ht hW => ⟨⟨u, hu, by rw [hz], by rw [ht]; exact hPu⟩, hSu.F ht⟩) hSu.2.2 hd
-- rows with plain numbers
section ZN
variable {p : Program} {l : Launch} {e : Env} {R : Room} {s : State} {m : MethodId} {args : Array Value} {below : List Frame} {meth : Method} {c : Code} {H : Heap} {locs : List Loc} {cells slots : Nat} {Q : State → Prop}
variable {cc : ByteArray} {pc : Nat} {ls : Array Slot} {rest : List Value} {D : va_G} {cl : List vw_C} {tys : List (ClassId × FieldType)} {ws : va_W} {a : Nat} {A : Nat → Prop} {H0 : Heap}
theorem z_top {x v : Int32} (hv : x = v) (k : W p l e R s m args below meth c H locs cells slots Q (F0 m pc ls (.int v :: rest))) : W p l e R s m args below meth c H locs cells slots Q (F0 m pc ls (.int x :: rest)) := by rw [hv]; exact k
theorem z_iald (hexec : p.tables.exec = Jvm.exec) (hb : c.code = cc) (hK : va_K D cl tys s) (hP : va_P D cl ws H) (q0 t0 : Nat) {cA : ClassId} {n : Nat} {f : Nat → Int32} (ha : ws[q0]? = some (a, .inl (cA, n, .inl f))) (ht : tys[t0]? = some (cA, .int)) (k : Nat) {i : Int32} (hi : i = nI k) (hk : k < n) (hn : n < 2 ^ 31) (hdg : decode cc pc = .ok (.iaload, 1))
    (kk : W p l e R s m args below meth c H locs cells slots Q (F0 m (pc + 1) ls (.int (f k) :: rest))) : W p l e R s m args below meth c H locs cells slots Q (F0 m pc ls (.int i :: .ref a :: rest)) := by
  subst hi
  refine va_iald hexec hb hK hP q0 t0 ha ht (vp_in_nI hk hn) hdg ?_
  rw [nI_clamp (by omega)]
  exact kk
theorem z_iast (hexec : p.tables.exec = Jvm.exec) (hb : c.code = cc) (hK : va_K D cl tys s) (hP : va_P D cl ws H) (hD : va_D A ws) (hS : va_S A H0 H locs) (q0 t0 : Nat) {cA : ClassId} {n : Nat} {f : Nat → Int32} (ha : ws[q0]? = some (a, .inl (cA, n, .inl f))) (ht : tys[t0]? = some (cA, .int)) (k : Nat) {i x : Int32} (hi : i = nI k) (hk : k < n) (hn : n < 2 ^ 31) (hdg : decode cc pc = .ok (.iastore, 1))
    (kk : ∀ (H1 : Heap) (locs1 : List Loc), va_P D cl (ws.set q0 (a, .inl (cA, n, .inl (upd f k x)))) H1 → va_D A (ws.set q0 (a, .inl (cA, n, .inl (upd f k x)))) → va_S A H0 H1 locs1 → W p l e R s m args below meth c H1 locs1 cells slots Q (F0 m (pc + 1) ls rest)) : W p l e R s m args below meth c H locs cells slots Q (F0 m pc ls (.int x :: .int i :: .ref a :: rest)) := by
  subst hi
  refine va_iast hexec hb hK hP hD hS q0 t0 ha ht (vp_in_nI hk hn) hdg ?_
  rw [nI_clamp (by omega)]
  exact kk
theorem z_icmp_ge (hexec : p.tables.exec = Jvm.exec) (hb : c.code = cc) {x y : Int32} {off : Int} {tgt : Nat} (hdg : decode cc pc = .ok (.if_icmp .ge off, 3)) (ht : (pc : Int) + off = (tgt : Int)) (i j : Nat) (hx : x = nI i) (hy : y = nI j) (hi : i < 2 ^ 31) (hj : j < 2 ^ 31)
    (kt : j ≤ i → W p l e R s m args below meth c H locs cells slots Q (F0 m tgt ls rest)) (kf : i < j → W p l e R s m args below meth c H locs cells slots Q (F0 m (pc + 3) ls rest)) : W p l e R s m args below meth c H locs cells slots Q (F0 m pc ls (.int y :: .int x :: rest)) := by
  subst hx; subst hy
  exact lv_icmp_ge hexec hb hdg ht (fun h => kt ((nI_leI hj hi).mp h)) (fun h => kf (Nat.lt_of_not_le (fun q => h ((nI_leI hj hi).mpr q))))
theorem z_icmp_gt (hexec : p.tables.exec = Jvm.exec) (hb : c.code = cc) {x y : Int32} {off : Int} {tgt : Nat} (hdg : decode cc pc = .ok (.if_icmp .gt off, 3)) (ht : (pc : Int) + off = (tgt : Int)) (i j : Nat) (hx : x = nI i) (hy : y = nI j) (hi : i < 2 ^ 31) (hj : j < 2 ^ 31)
    (kt : j < i → W p l e R s m args below meth c H locs cells slots Q (F0 m tgt ls rest)) (kf : i ≤ j → W p l e R s m args below meth c H locs cells slots Q (F0 m (pc + 3) ls rest)) : W p l e R s m args below meth c H locs cells slots Q (F0 m pc ls (.int y :: .int x :: rest)) := by
  subst hx; subst hy
  exact lv_icmp_gt hexec hb hdg ht (fun h => kt ((nI_ltI hj hi).mp h)) (fun h => kf (Nat.le_of_not_lt (fun q => h ((nI_ltI hj hi).mpr q))))
theorem z_icmp_lt (hexec : p.tables.exec = Jvm.exec) (hb : c.code = cc) {x y : Int32} {off : Int} {tgt : Nat} (hdg : decode cc pc = .ok (.if_icmp .lt off, 3)) (ht : (pc : Int) + off = (tgt : Int)) (i j : Nat) (hx : x = nI i) (hy : y = nI j) (hi : i < 2 ^ 31) (hj : j < 2 ^ 31)
    (kt : i < j → W p l e R s m args below meth c H locs cells slots Q (F0 m tgt ls rest)) (kf : j ≤ i → W p l e R s m args below meth c H locs cells slots Q (F0 m (pc + 3) ls rest)) : W p l e R s m args below meth c H locs cells slots Q (F0 m pc ls (.int y :: .int x :: rest)) := by
  subst hx; subst hy
  exact lv_icmp_lt hexec hb hdg ht (fun h => kt ((nI_ltI hi hj).mp h)) (fun h => kf (Nat.le_of_not_lt (fun q => h ((nI_ltI hi hj).mpr q))))
theorem z_icmp_le (hexec : p.tables.exec = Jvm.exec) (hb : c.code = cc) {x y : Int32} {off : Int} {tgt : Nat} (hdg : decode cc pc = .ok (.if_icmp .le off, 3)) (ht : (pc : Int) + off = (tgt : Int)) (i j : Nat) (hx : x = nI i) (hy : y = nI j) (hi : i < 2 ^ 31) (hj : j < 2 ^ 31)
    (kt : i ≤ j → W p l e R s m args below meth c H locs cells slots Q (F0 m tgt ls rest)) (kf : j < i → W p l e R s m args below meth c H locs cells slots Q (F0 m (pc + 3) ls rest)) : W p l e R s m args below meth c H locs cells slots Q (F0 m pc ls (.int y :: .int x :: rest)) := by
  subst hx; subst hy
  exact lv_icmp_le hexec hb hdg ht (fun h => kt ((nI_leI hi hj).mp h)) (fun h => kf (Nat.lt_of_not_le (fun q => h ((nI_leI hi hj).mpr q))))
end ZN
theorem z_inc (i k : Nat) {n : Int} (h : Int32.ofInt n = nI k) : nI i + Int32.ofInt n = nI (i + k) := by rw [h, nI_add]
theorem z_ge0 {c : Int32} {i : Nat} (hi : i < 2 ^ 31) : c ≤ nI i ↔ c.toNatClampNeg ≤ i := by
  rw [Int32.le_iff_toInt_le, nI_toInt hi]
  have h : (c.toNatClampNeg : Int) = max c.toInt 0 := by
    unfold Int32.toNatClampNeg
    omega
  omega
