-- constructors: a world that grows
def z_fl : Nat → RW
  | 0 => fun _ => 0
  | i + 1 => upd (z_fl i) i 255
def z_rowK (x y : Int32) : Nat → RW
  | 0 => fun _ => 0
  | i + 1 => upd (upd (z_rowK x y i) i (z_bow x (nI i))) (i + 4) (z_bow y (nI i))
def y_rowK (x y : Int32) : Nat → RW
  | 0 => fun _ => 0
  | i + 1 => upd (upd (y_rowK x y i) i (y_part x (nI i))) (4 + i) (y_part y (nI i))
def zMI {S : Type} (l : Launch) (D : va_G) (cI : ClassId) (y : MethodName) (w : List Cond) (rm : Room) (av : List Value) (ws : va_W) (post : S → Prop) (Wn : S → va_W) (mc ms : Nat) : Prop :=
  ∀ sz : Nat, Met l y w rm (va_Pc av (zBW D cI ws sz)) (va_Qv post (fun u t => va_P D vwCl (Wn u) t.heap ∧ va_D (va_A ws sz) (Wn u)) (va_A ws sz)) mc ms (va_A ws sz)
def zMIR (l : Launch) (D : va_G) (cI : ClassId) (y : MethodName) (w : List Cond) (rm : Room) (av : List Value) (ws : va_W) (post : Nat → Prop) (Wn : Nat → va_W) (mc ms : Nat) : Prop :=
  ∀ sz : Nat, Met l y w rm (va_Pc av (zBW D cI ws sz)) (va_Qr post (fun u a t => u = a ∧ va_P D vwCl (Wn u) t.heap ∧ va_D (va_A ws sz) (Wn u)) (va_A ws sz)) mc ms (va_A ws sz)
theorem zEntI {S : Type} {l : Launch} {D : va_G} {cI : ClassId} {y : MethodName} {w w' : List Cond} {rm : Room} {av : List Value} {ws : va_W} {post : S → Prop} {Wn : S → va_W} {mc ms : Nat} {cc : ByteArray} {maxL : Nat} {ret : Option FieldType} {own : String} {lvs : List (Nat × Value)} (hy : plainName y.cls = true) (hw : w = Cond.code y cc maxL ret :: w') (hown0 : y.cls = own) (hmax : (lg_sl av).length ≤ maxL) (hlv : lv_args 0 av = lvs)
    (body : ∀ (p : Program) (e : Env) (s : State) (m : MethodId) (args : Array Value) (below : List Frame) (meth : Method) (c : Code) (Q : State → Prop) (ls : Array Slot) (A : Nat → Prop), p.tables.exec = Jvm.exec → c.code = cc → c.maxLocals = maxL → (∀ q ∈ w, q.before args s = true) → s.vm.findClass own = some m.cls → meth.name = y.name → va_P D vwCl ws s.heap → va_K D vwCl [(cI, .int)] s → zN s → va_D A ws → va_S A s.heap s.heap [] → (∀ q, s.heap.size ≤ q → A q) → lv_has ls maxL lvs →
      (∀ (pc : Nat) (ls : Array Slot) (H : Heap) (locs : List Loc) (u : S), decode cc pc = .ok (.return_, 1) → ret = none → post u → va_P D vwCl (Wn u) H → va_D A (Wn u) → va_S A s.heap H locs → W p l e rm s m args below meth c H locs mc ms Q (F0 m pc ls [])) →
      W p l e rm s m args below meth c s.heap [] 0 0 Q (F0 m 0 ls [])) : zMI l D cI y w rm av ws post Wn mc ms := by
  intro sz
  refine Met.ofW (cc := cc) (maxL := maxL) (ret := ret) hy hw ?_
  intro p e s m args below meth c s₁ B hml hv
  obtain ⟨ha, hsz, hP, hK, hD0, hN⟩ := hv
  subst ha
  subst hsz
  have hx := B.exec
  have hb := B.bytes
  have hr := B.returns
  have hts := atoms_spec (ws := w) B.pre
  have hown : s.vm.findClass own = some m.cls := by rw [← hown0]; exact findClass_of_methodNamed B.named
  have hin : meth.name = y.name := (name_of_methodNamed B.named B.method).1
  have hlocks := B.notSynchronized
  have hl := lv_entry av (n := maxL) hmax
  rw [hlv] at hl
  rw [lg_entry_eq]
  have hroom : (headSpec w rm).room = rm := rfl
  rw [hroom]
  refine body p e s m _ below meth c _ _ (va_A ws s.heap.size) hx hb hml hts hown hin hP hK hN hD0.self va_S.rf (fun q h => Or.inr h) hl ?_
  intro pc ls H locs u hd hty hpo hPu hDu hSu
  exact W.vret hx hb (hr.trans hty) (fun t ht hW => ⟨⟨u, rfl, hpo, by rw [ht]; exact hPu, hDu⟩, hSu.F ht⟩) hSu.2.2 hd
theorem zEntIR {l : Launch} {D : va_G} {cI : ClassId} {y : MethodName} {w w' : List Cond} {rm : Room} {av : List Value} {ws : va_W} {post : Nat → Prop} {Wn : Nat → va_W} {mc ms : Nat} {cc : ByteArray} {maxL : Nat} {ret : Option FieldType} {own : String} {lvs : List (Nat × Value)} (hy : plainName y.cls = true) (hw : w = Cond.code y cc maxL ret :: w') (hown0 : y.cls = own) (hmax : (lg_sl av).length ≤ maxL) (hlv : lv_args 0 av = lvs)
    (body : ∀ (p : Program) (e : Env) (s : State) (m : MethodId) (args : Array Value) (below : List Frame) (meth : Method) (c : Code) (Q : State → Prop) (ls : Array Slot) (A : Nat → Prop), p.tables.exec = Jvm.exec → c.code = cc → c.maxLocals = maxL → (∀ q ∈ w, q.before args s = true) → s.vm.findClass own = some m.cls → meth.name = y.name → va_P D vwCl ws s.heap → va_K D vwCl [(cI, .int)] s → zN s → va_D A ws → va_S A s.heap s.heap [] → (∀ q, s.heap.size ≤ q → A q) → lv_has ls maxL lvs →
      (∀ (pc : Nat) (ls : Array Slot) (H : Heap) (locs : List Loc) (u : Nat), decode cc pc = .ok (.areturn, 1) → ret = some (.array .int) → post u → va_P D vwCl (Wn u) H → va_D A (Wn u) → va_S A s.heap H locs → W p l e rm s m args below meth c H locs mc ms Q (F0 m pc ls [.ref u])) →
      W p l e rm s m args below meth c s.heap [] 0 0 Q (F0 m 0 ls [])) : zMIR l D cI y w rm av ws post Wn mc ms := by
  intro sz
  refine Met.ofW (cc := cc) (maxL := maxL) (ret := ret) hy hw ?_
  intro p e s m args below meth c s₁ B hml hv
  obtain ⟨ha, hsz, hP, hK, hD0, hN⟩ := hv
  subst ha
  subst hsz
  have hx := B.exec
  have hb := B.bytes
  have hr := B.returns
  have hts := atoms_spec (ws := w) B.pre
  have hown : s.vm.findClass own = some m.cls := by rw [← hown0]; exact findClass_of_methodNamed B.named
  have hin : meth.name = y.name := (name_of_methodNamed B.named B.method).1
  have hlocks := B.notSynchronized
  have hl := lv_entry av (n := maxL) hmax
  rw [hlv] at hl
  rw [lg_entry_eq]
  have hroom : (headSpec w rm).room = rm := rfl
  rw [hroom]
  refine body p e s m _ below meth c _ _ (va_A ws s.heap.size) hx hb hml hts hown hin hP hK hN hD0.self va_S.rf (fun q h => Or.inr h) hl ?_
  intro pc ls H locs u hd hty hpo hPu hDu hSu
  exact W.aret (v := .ref u) hx hb (hr.trans hty) (Or.inr ⟨.int, rfl⟩) (Or.inr ⟨u, rfl⟩) (fun t ht hW => ⟨⟨u, u, rfl, hpo, rfl, by rw [ht]; exact hPu, hDu⟩, hSu.F ht⟩) hSu.2.2 hd
section ZI
variable {p : Program} {l : Launch} {e : Env} {R : Room} {s : State} {m : MethodId} {args : Array Value} {below : List Frame} {meth : Method} {c : Code} {H : Heap} {locs : List Loc} {cells slots : Nat} {Q : State → Prop}
variable {pc : Nat} {ls : Array Slot} {rest st0 : List Value} {A0 : Nat → Prop} {H0 : Heap} {D : va_G} {cI : ClassId} {ws wc wr : va_W}
variable {y : MethodName} {bytes cc : ByteArray} {maxL nL n mc ms index : Nat} {ret : Option FieldType} {w : List Cond} {rm : Room} {Ts : List Cond} {own host : String} {b : Addr} {As : List Value}
theorem zCI {S0 : Type} {post : S0 → Prop} {Wn : S0 → va_W} (S : CallFix p m c cc nL s args Ts own) (hM : zMI l D cI y w rm (.ref b :: As) wc post Wn mc ms) (cw : CallB R s args own index y bytes maxL none w rm mc ms n ∧ y.name = "<init>" ∧ (Cond.instanceMethod y).before args s = true)
    (hP : va_P D vwCl ws H) (hK : va_K D vwCl [(cI, .int)] s) (hN : zN s) (hD : va_D A0 ws) (hS : va_S A0 H0 H locs) (hA : ∀ q, H0.size ≤ q → A0 q) (isC isR : List Nat) (hC0 : isC.filterMap (fun i => ws[i]?) = wc) (hC : isC.map (fun i => ws[i]?) = wc.map some) (hR : isR.map (fun i => ws[i]?) = wr.map some) (hnd : va_nd isC = true) (hnr : va_nd isR = true) (hdis : ∀ i ∈ isR, i ∉ isC)
    (hn : As.length = n) (hsize : ls.size = nL) (hst : st0 = As.reverse ++ .ref b :: rest) (hW : (rest.map fun v => v.category).sum ≤ 8) (hdg : decode cc pc = .ok (.invokespecial index, 3)) (hf : cells + mc ≤ R.cells ∧ slots + ms ≤ R.slots)
    (kk : ∀ (u : S0) (H1 : Heap) (locs1 : List Loc), post u → va_P D vwCl (wr ++ Wn u) H1 → va_D A0 (wr ++ Wn u) → va_S A0 H0 H1 locs1 → W p l e R s m args below meth c H1 locs1 (cells + mc) (slots + ms) Q (F0 m (pc + 3) ls rest)) : W p l e R s m args below meth c H locs cells slots Q (F0 m pc ls st0) := by
  have hF := va_free hD hS hA isC hC
  have hPc : va_P D vwCl wc H := hP.sub isC hC0
  have hDc : va_D A0 wc := hD.sub isC hnd hC
  refine va_callv (va_runI S (hM H.size) cw ⟨zBW_blind, fun U hU hW => ⟨rfl, by rw [hU], by rw [hU]; exact hPc, va_K.moved hW.alike hK, hDc.weaken (fun _ _ _ _ => trivial), zN_warm hW hN⟩⟩ rfl hn hsize hst (lv_room hW) hdg hf) hS (fun q _ h => hF q h) hF (fun u t H1 locs1 ht hvm hw hB hz1 hk1 hS1 => ?_)
  obtain ⟨hP1, hD1⟩ := hB
  rw [ht] at hP1
  obtain ⟨hP2, hD2⟩ := va_join hP hD isC isR hC hR hnr hdis hk1 hF hP1 hD1
  exact kk u H1 locs1 hw hP2 hD2 hS1
theorem zCIN {S0 : Type} {post : S0 → Prop} {Wn : S0 → va_W} (S : CallFix p m c cc nL s args Ts own) (hM : zMI l D cI y w rm (.ref b :: As) wc post Wn mc ms) (cw : va_CN R s args own index y host bytes maxL none w rm mc ms n ∧ y.name = "<init>" ∧ (Cond.instanceMethod y).before args s = true)
    (hP : va_P D vwCl ws H) (hK : va_K D vwCl [(cI, .int)] s) (hN : zN s) (hD : va_D A0 ws) (hS : va_S A0 H0 H locs) (hA : ∀ q, H0.size ≤ q → A0 q) (isC isR : List Nat) (hC0 : isC.filterMap (fun i => ws[i]?) = wc) (hC : isC.map (fun i => ws[i]?) = wc.map some) (hR : isR.map (fun i => ws[i]?) = wr.map some) (hnd : va_nd isC = true) (hnr : va_nd isR = true) (hdis : ∀ i ∈ isR, i ∉ isC)
    (hn : As.length = n) (hsize : ls.size = nL) (hst : st0 = As.reverse ++ .ref b :: rest) (hW : (rest.map fun v => v.category).sum ≤ 8) (hdg : decode cc pc = .ok (.invokespecial index, 3)) (hf : cells + mc ≤ R.cells ∧ slots + ms ≤ R.slots)
    (kk : ∀ (u : S0) (H1 : Heap) (locs1 : List Loc), post u → va_P D vwCl (wr ++ Wn u) H1 → va_D A0 (wr ++ Wn u) → va_S A0 H0 H1 locs1 → W p l e R s m args below meth c H1 locs1 (cells + mc) (slots + ms) Q (F0 m (pc + 3) ls rest)) : W p l e R s m args below meth c H locs cells slots Q (F0 m pc ls st0) := by
  have hF := va_free hD hS hA isC hC
  have hPc : va_P D vwCl wc H := hP.sub isC hC0
  have hDc : va_D A0 wc := hD.sub isC hnd hC
  refine va_callv (va_runIN S (hM H.size) cw ⟨zBW_blind, fun U hU hW => ⟨rfl, by rw [hU], by rw [hU]; exact hPc, va_K.moved hW.alike hK, hDc.weaken (fun _ _ _ _ => trivial), zN_warm hW hN⟩⟩ rfl hn hsize hst (lv_room hW) hdg hf) hS (fun q _ h => hF q h) hF (fun u t H1 locs1 ht hvm hw hB hz1 hk1 hS1 => ?_)
  obtain ⟨hP1, hD1⟩ := hB
  rw [ht] at hP1
  obtain ⟨hP2, hD2⟩ := va_join hP hD isC isR hC hR hnr hdis hk1 hF hP1 hD1
  exact kk u H1 locs1 hw hP2 hD2 hS1
theorem zCIR {post : Nat → Prop} {Wn : Nat → va_W} (S : CallFix p m c cc nL s args Ts own) (hM : zMIR l D cI y w rm As wc post Wn mc ms) (cw : CallB R s args own index y bytes maxL ret w rm mc ms n ∧ (Cond.static y).before args s = true)
    (hP : va_P D vwCl ws H) (hK : va_K D vwCl [(cI, .int)] s) (hN : zN s) (hD : va_D A0 ws) (hS : va_S A0 H0 H locs) (hA : ∀ q, H0.size ≤ q → A0 q) (isC isR : List Nat) (hC0 : isC.filterMap (fun i => ws[i]?) = wc) (hC : isC.map (fun i => ws[i]?) = wc.map some) (hR : isR.map (fun i => ws[i]?) = wr.map some) (hnd : va_nd isC = true) (hnr : va_nd isR = true) (hdis : ∀ i ∈ isR, i ∉ isC)
    (hn : As.length = n) (hsize : ls.size = nL) (hst : st0 = As.reverse ++ rest) (hW : (rest.map fun v => v.category).sum ≤ 8) (hdg : decode cc pc = .ok (.invokestatic index, 3)) (hf : cells + mc ≤ R.cells ∧ slots + ms ≤ R.slots)
    (kk : ∀ (u : Nat) (H1 : Heap) (locs1 : List Loc), post u → va_P D vwCl (wr ++ Wn u) H1 → va_D A0 (wr ++ Wn u) → va_S A0 H0 H1 locs1 → W p l e R s m args below meth c H1 locs1 (cells + mc) (slots + ms) Q (F0 m (pc + 3) ls (.ref u :: rest))) : W p l e R s m args below meth c H locs cells slots Q (F0 m pc ls st0) := by
  have hF := va_free hD hS hA isC hC
  have hPc : va_P D vwCl wc H := hP.sub isC hC0
  have hDc : va_D A0 wc := hD.sub isC hnd hC
  refine va_callr (va_runS S (hM H.size) cw ⟨zBW_blind, fun U hU hW => ⟨rfl, by rw [hU], by rw [hU]; exact hPc, va_K.moved hW.alike hK, hDc.weaken (fun _ _ _ _ => trivial), zN_warm hW hN⟩⟩ rfl hn hsize hst (lv_room hW) hdg hf) hS (fun q _ h => hF q h) hF (fun u ra t H1 locs1 ht hvm hw hB hz1 hk1 hS1 => ?_)
  obtain ⟨hu, hP1, hD1⟩ := hB
  subst hu
  rw [ht] at hP1
  obtain ⟨hP2, hD2⟩ := va_join hP hD isC isR hC hR hnr hdis hk1 hF hP1 hD1
  exact kk u H1 locs1 hw hP2 hD2 hS1
theorem z_newa (hexec : p.tables.exec = Jvm.exec) (hb : c.code = cc) (harr : (Cond.arrayClass .int).before args s = true) (hK : va_K D vwCl [(cI, .int)] s) (hP : va_P D vwCl ws H) (hD : va_D A0 ws) (hS : va_S A0 H0 H locs) (hA : ∀ q, H0.size ≤ q → A0 q)
    {x : Int32} {N : Nat} (hn : ¬ x < 0) (hN : x.toNatClampNeg = N) (hbytes : N * componentBytes .int ≤ 536870912) (hcells : cells + 1 ≤ R.cells) (hslots : slots + N ≤ R.slots) (hdg : decode cc pc = .ok (.newarray .int, 2))
    (kk : ∀ (q : Nat) (H1 : Heap), va_P D vwCl (ws ++ [(q, .inl (cI, N, .inl (fun _ => 0)))]) H1 → va_D A0 (ws ++ [(q, .inl (cI, N, .inl (fun _ => 0)))]) → va_S A0 H0 H1 locs →
      W p l e R s m args below meth c H1 locs (cells + 1) (slots + N) Q (F0 m (pc + 2) ls (.ref q :: rest))) : W p l e R s m args below meth c H locs cells slots Q (F0 m pc ls (.int x :: rest)) := by
  refine va_newa (atype := .int) (ty := .int) (a0 := (N, .inl (fun _ => 0))) hexec hb harr rfl hK hP hD hS hA (fun _ => rfl) hn hN hbytes hcells hslots hdg (fun q cA H1 hK1 hP1 hD1 hS1 => ?_)
  have h1 : va_RA s cA .int := (hK1.2 1 (cA, .int) rfl).2
  have h2 : va_RA s cI .int := (hK.2 0 (cI, .int) rfl).2
  have h3 : cA = cI := Option.some.inj ((show s.vm.findClass _ = some cA from h1).symm.trans (show s.vm.findClass _ = some cI from h2))
  subst h3
  exact kk q H1 hP1 hD1 hS1
end ZI
abbrev rm_X4_init : Room := { frames := 1, cells := 1, slots := 192, locals := 40 }
set_option maxRecDepth 20000 in
theorem qX4_init_1 : (Cond.methodLink RX4 3 objectInit : Cond) ∈ wsX4_init := List.mem_of_getElem? (i := 1) rfl
set_option maxRecDepth 20000 in
theorem qX4_init_2 : (Cond.instanceMethod objectInit : Cond) ∈ wsX4_init := List.mem_of_getElem? (i := 2) rfl
set_option maxRecDepth 20000 in
theorem qX4_init_3 : (Cond.code objectInit ⟨#[0xb1]⟩ 1 none : Cond) ∈ wsX4_init := List.mem_of_getElem? (i := 3) rfl
set_option maxRecDepth 20000 in
theorem qX4_init_4 : (Cond.arrayClass .int : Cond) ∈ wsX4_init := List.mem_of_getElem? (i := 4) rfl
set_option maxRecDepth 20000 in
theorem iX4_init_X4 : ∀ w ∈ wsX40, w ∈ wsX4_init := by decide +kernel
set_option maxRecDepth 20000 in
theorem qX4_init_5 : (Cond.fieldLink RX4 9 "FlashBoot$Tape" "bytes" "[I" : Cond) ∈ wsX4_init := List.mem_of_getElem? (i := 5) rfl
set_option maxRecDepth 20000 in
theorem qX4_init_6 : (Cond.fieldLink RX4 15 "FlashBoot$Tape" "length" "I" : Cond) ∈ wsX4_init := List.mem_of_getElem? (i := 6) rfl
set_option maxHeartbeats 4000000 in
set_option maxRecDepth 100000 in
theorem k_X4_init (l : Launch) (D : va_G) (cI : ClassId) (h : Nat)  : zMI (S := Nat) l D cI yX4_init wsX4_init rm_X4_init [.ref h] ([(h, .inr (4, [.null, .int 0]))]) (fun _ => True) (fun q => [(h, .inr (4, [.ref q, .int 0])), (q, .inl (cI, 192, .inl (fun _ => 0)))]) 1 192 := by
  refine zEntI (cc := cX4_init) (maxL := 1) (ret := none) (own := RX4) (lvs := [(0, .ref h)]) (by decide) rfl rfl (Nat.le_of_ble_eq_true rfl) rfl ?_
  intro p0 e s m args below meth c Q ls A hx hb hml hts hown hin hP hK hN hD hS hA hl hret
  refine lv_aload_n hx hb dX4_init_0 rfl (lv_at hl 0 rfl) ?_
  refine W.objInit hx hb hown (hts _ qX4_init_1) (hts _ qX4_init_2) (hts _ qX4_init_3) rfl (by rw [hml]; exact hl.1) rfl dX4_init_1 (Nat.le_of_ble_eq_true rfl) (Nat.le_of_ble_eq_true rfl) ?_
  refine W.eq (g2 := F0 m 4 ls []) rfl ?_
  refine lv_aload_n hx hb dX4_init_4 rfl (lv_at hl 0 rfl) ?_
  refine lv_sipush (v := 192) hx hb dX4_init_5 (by decide) ?_
  refine z_newa (N := 192) hx hb (hts _ qX4_init_4) hK hP hD hS hA (by decide) (by decide) (by decide) (Nat.le_of_ble_eq_true rfl) (Nat.le_of_ble_eq_true rfl) dX4_init_8 (fun q8 H hP hD hS => ?_)
  have hP : va_P D vwCl ([(h, .inr (4, [.null, .int 0])), (q8, .inl (cI, 192, .inl (fun _ => 0)))]) _ := hP
  have hD : va_D A ([(h, .inr (4, [.null, .int 0])), (q8, .inl (cI, 192, .inl (fun _ => 0)))]) := hD
  refine W.widen (k := 1) (n := 192) (by omega) (by omega) ?_
  refine va_putF (D := D) (ci := 4) (v := .ref q8) (ty := (.array .int)) (C := RX4) (T := TX4) (N := 2) hx hb hts iX4_init_X4 tyX4 tyX4_ok nmX4 hown hK hP hD hS 0 rfl rfl 0 (by decide) (hts _ qX4_init_5) (fun _ h9 => h9) rfl hin rfl (by decide +kernel) rfl rfl (Nat.le_of_ble_eq_true rfl) dX4_init_10 (fun H locs hP hD hS => ?_)
  have hP : va_P D vwCl ([(h, .inr (4, [.ref q8, .int 0])), (q8, .inl (cI, 192, .inl (fun _ => 0)))]) _ := hP
  have hD : va_D A ([(h, .inr (4, [.ref q8, .int 0])), (q8, .inl (cI, 192, .inl (fun _ => 0)))]) := hD
  refine lv_aload_n hx hb dX4_init_13 rfl (lv_at hl 0 rfl) ?_
  refine lv_iconst (v := 0) hx hb dX4_init_14 (by decide) ?_
  refine va_put (D := D) (ci := 4) (v := .int 0) (ty := .int) (C := RX4) (T := TX4) (N := 2) hx hb hts iX4_init_X4 tyX4 tyX4_ok nmX4 hown hK hP hD hS 0 rfl rfl 1 (by decide) (hts _ qX4_init_6) (fun _ h9 => h9) rfl (by decide +kernel) rfl rfl (Nat.le_of_ble_eq_true rfl) dX4_init_15 (fun H locs hP hD hS => ?_)
  have hP : va_P D vwCl ([(h, .inr (4, [.ref q8, .int 0])), (q8, .inl (cI, 192, .inl (fun _ => 0)))]) _ := hP
  have hD : va_D A ([(h, .inr (4, [.ref q8, .int 0])), (q8, .inl (cI, 192, .inl (fun _ => 0)))]) := hD
  refine W.widen (k := 1) (n := 192) (by omega) (by omega) ?_
  have hP9 : va_P D vwCl ([(h, .inr (4, [.ref q8, .int 0])), (q8, .inl (cI, 192, .inl (fun _ => 0)))]) _ := hP.sub [0, 1] rfl
  have hD9 : va_D A ([(h, .inr (4, [.ref q8, .int 0])), (q8, .inl (cI, 192, .inl (fun _ => 0)))]) := hD.sub [0, 1] (by decide) rfl
  exact hret 18 ls _ _ q8 dX4_init_18 rfl trivial hP9 hD9 hS
abbrev rm_X2_init : Room := { frames := 1, cells := 1, slots := 192, locals := 40 }
set_option maxRecDepth 20000 in
theorem qX2_init_1 : (Cond.methodLink RX2 3 objectInit : Cond) ∈ wsX2_init := List.mem_of_getElem? (i := 1) rfl
set_option maxRecDepth 20000 in
theorem qX2_init_2 : (Cond.instanceMethod objectInit : Cond) ∈ wsX2_init := List.mem_of_getElem? (i := 2) rfl
set_option maxRecDepth 20000 in
theorem qX2_init_3 : (Cond.code objectInit ⟨#[0xb1]⟩ 1 none : Cond) ∈ wsX2_init := List.mem_of_getElem? (i := 3) rfl
set_option maxRecDepth 20000 in
theorem qX2_init_4 : (Cond.arrayClass .int : Cond) ∈ wsX2_init := List.mem_of_getElem? (i := 4) rfl
set_option maxRecDepth 20000 in
theorem iX2_init_X2 : ∀ w ∈ wsX20, w ∈ wsX2_init := by decide +kernel
set_option maxRecDepth 20000 in
theorem qX2_init_5 : (Cond.fieldLink RX2 9 "FlashBoot$Patch" "image" "[I" : Cond) ∈ wsX2_init := List.mem_of_getElem? (i := 5) rfl
set_option maxRecDepth 20000 in
theorem qX2_init_6 : (Cond.fieldLink RX2 15 "FlashBoot$Patch" "made" "I" : Cond) ∈ wsX2_init := List.mem_of_getElem? (i := 6) rfl
set_option maxHeartbeats 4000000 in
set_option maxRecDepth 100000 in
theorem k_X2_init (l : Launch) (D : va_G) (cI : ClassId) (h : Nat)  : zMI (S := Nat) l D cI yX2_init wsX2_init rm_X2_init [.ref h] ([(h, .inr (2, [.null, .int 0]))]) (fun _ => True) (fun q => [(h, .inr (2, [.ref q, .int 0])), (q, .inl (cI, 192, .inl (fun _ => 0)))]) 1 192 := by
  refine zEntI (cc := cX2_init) (maxL := 1) (ret := none) (own := RX2) (lvs := [(0, .ref h)]) (by decide) rfl rfl (Nat.le_of_ble_eq_true rfl) rfl ?_
  intro p0 e s m args below meth c Q ls A hx hb hml hts hown hin hP hK hN hD hS hA hl hret
  refine lv_aload_n hx hb dX2_init_0 rfl (lv_at hl 0 rfl) ?_
  refine W.objInit hx hb hown (hts _ qX2_init_1) (hts _ qX2_init_2) (hts _ qX2_init_3) rfl (by rw [hml]; exact hl.1) rfl dX2_init_1 (Nat.le_of_ble_eq_true rfl) (Nat.le_of_ble_eq_true rfl) ?_
  refine W.eq (g2 := F0 m 4 ls []) rfl ?_
  refine lv_aload_n hx hb dX2_init_4 rfl (lv_at hl 0 rfl) ?_
  refine lv_sipush (v := 192) hx hb dX2_init_5 (by decide) ?_
  refine z_newa (N := 192) hx hb (hts _ qX2_init_4) hK hP hD hS hA (by decide) (by decide) (by decide) (Nat.le_of_ble_eq_true rfl) (Nat.le_of_ble_eq_true rfl) dX2_init_8 (fun q8 H hP hD hS => ?_)
  have hP : va_P D vwCl ([(h, .inr (2, [.null, .int 0])), (q8, .inl (cI, 192, .inl (fun _ => 0)))]) _ := hP
  have hD : va_D A ([(h, .inr (2, [.null, .int 0])), (q8, .inl (cI, 192, .inl (fun _ => 0)))]) := hD
  refine W.widen (k := 1) (n := 192) (by omega) (by omega) ?_
  refine va_putF (D := D) (ci := 2) (v := .ref q8) (ty := (.array .int)) (C := RX2) (T := TX2) (N := 2) hx hb hts iX2_init_X2 tyX2 tyX2_ok nmX2 hown hK hP hD hS 0 rfl rfl 0 (by decide) (hts _ qX2_init_5) (fun _ h9 => h9) rfl hin rfl (by decide +kernel) rfl rfl (Nat.le_of_ble_eq_true rfl) dX2_init_10 (fun H locs hP hD hS => ?_)
  have hP : va_P D vwCl ([(h, .inr (2, [.ref q8, .int 0])), (q8, .inl (cI, 192, .inl (fun _ => 0)))]) _ := hP
  have hD : va_D A ([(h, .inr (2, [.ref q8, .int 0])), (q8, .inl (cI, 192, .inl (fun _ => 0)))]) := hD
  refine lv_aload_n hx hb dX2_init_13 rfl (lv_at hl 0 rfl) ?_
  refine lv_iconst (v := 0) hx hb dX2_init_14 (by decide) ?_
  refine va_put (D := D) (ci := 2) (v := .int 0) (ty := .int) (C := RX2) (T := TX2) (N := 2) hx hb hts iX2_init_X2 tyX2 tyX2_ok nmX2 hown hK hP hD hS 0 rfl rfl 1 (by decide) (hts _ qX2_init_6) (fun _ h9 => h9) rfl (by decide +kernel) rfl rfl (Nat.le_of_ble_eq_true rfl) dX2_init_15 (fun H locs hP hD hS => ?_)
  have hP : va_P D vwCl ([(h, .inr (2, [.ref q8, .int 0])), (q8, .inl (cI, 192, .inl (fun _ => 0)))]) _ := hP
  have hD : va_D A ([(h, .inr (2, [.ref q8, .int 0])), (q8, .inl (cI, 192, .inl (fun _ => 0)))]) := hD
  refine W.widen (k := 1) (n := 192) (by omega) (by omega) ?_
  have hP9 : va_P D vwCl ([(h, .inr (2, [.ref q8, .int 0])), (q8, .inl (cI, 192, .inl (fun _ => 0)))]) _ := hP.sub [0, 1] rfl
  have hD9 : va_D A ([(h, .inr (2, [.ref q8, .int 0])), (q8, .inl (cI, 192, .inl (fun _ => 0)))]) := hD.sub [0, 1] (by decide) rfl
  exact hret 18 ls _ _ q8 dX2_init_18 rfl trivial hP9 hD9 hS
abbrev rm_X1_init : Room := { frames := 1, cells := 1, slots := 20, locals := 40 }
set_option maxRecDepth 20000 in
theorem qX1_init_1 : (Cond.methodLink RX1 3 objectInit : Cond) ∈ wsX1_init := List.mem_of_getElem? (i := 1) rfl
set_option maxRecDepth 20000 in
theorem qX1_init_2 : (Cond.instanceMethod objectInit : Cond) ∈ wsX1_init := List.mem_of_getElem? (i := 2) rfl
set_option maxRecDepth 20000 in
theorem qX1_init_3 : (Cond.code objectInit ⟨#[0xb1]⟩ 1 none : Cond) ∈ wsX1_init := List.mem_of_getElem? (i := 3) rfl
set_option maxRecDepth 20000 in
theorem qX1_init_4 : (Cond.arrayClass .int : Cond) ∈ wsX1_init := List.mem_of_getElem? (i := 4) rfl
set_option maxRecDepth 20000 in
theorem iX1_init_X1 : ∀ w ∈ wsX10, w ∈ wsX1_init := by decide +kernel
set_option maxRecDepth 20000 in
theorem qX1_init_5 : (Cond.fieldLink RX1 11 "FlashBoot$Manifest" "bytes" "[I" : Cond) ∈ wsX1_init := List.mem_of_getElem? (i := 5) rfl
set_option maxHeartbeats 4000000 in
set_option maxRecDepth 100000 in
theorem k_X1_init (l : Launch) (D : va_G) (cI : ClassId) (h : Nat)  : zMI (S := Nat) l D cI yX1_init wsX1_init rm_X1_init [.ref h] ([(h, .inr (1, [.null]))]) (fun _ => True) (fun q => [(h, .inr (1, [.ref q])), (q, .inl (cI, 20, .inl (fun _ => 0)))]) 1 20 := by
  refine zEntI (cc := cX1_init) (maxL := 1) (ret := none) (own := RX1) (lvs := [(0, .ref h)]) (by decide) rfl rfl (Nat.le_of_ble_eq_true rfl) rfl ?_
  intro p0 e s m args below meth c Q ls A hx hb hml hts hown hin hP hK hN hD hS hA hl hret
  refine lv_aload_n hx hb dX1_init_0 rfl (lv_at hl 0 rfl) ?_
  refine W.objInit hx hb hown (hts _ qX1_init_1) (hts _ qX1_init_2) (hts _ qX1_init_3) rfl (by rw [hml]; exact hl.1) rfl dX1_init_1 (Nat.le_of_ble_eq_true rfl) (Nat.le_of_ble_eq_true rfl) ?_
  refine W.eq (g2 := F0 m 4 ls []) rfl ?_
  refine lv_aload_n hx hb dX1_init_4 rfl (lv_at hl 0 rfl) ?_
  refine lv_bipush (v := 20) hx hb dX1_init_5 (by decide) ?_
  refine z_newa (N := 20) hx hb (hts _ qX1_init_4) hK hP hD hS hA (by decide) (by decide) (by decide) (Nat.le_of_ble_eq_true rfl) (Nat.le_of_ble_eq_true rfl) dX1_init_7 (fun q7 H hP hD hS => ?_)
  have hP : va_P D vwCl ([(h, .inr (1, [.null])), (q7, .inl (cI, 20, .inl (fun _ => 0)))]) _ := hP
  have hD : va_D A ([(h, .inr (1, [.null])), (q7, .inl (cI, 20, .inl (fun _ => 0)))]) := hD
  refine W.widen (k := 1) (n := 20) (by omega) (by omega) ?_
  refine va_putF (D := D) (ci := 1) (v := .ref q7) (ty := (.array .int)) (C := RX1) (T := TX1) (N := 1) hx hb hts iX1_init_X1 tyX1 tyX1_ok nmX1 hown hK hP hD hS 0 rfl rfl 0 (by decide) (hts _ qX1_init_5) (fun _ h9 => h9) rfl hin rfl (by decide +kernel) rfl rfl (Nat.le_of_ble_eq_true rfl) dX1_init_9 (fun H locs hP hD hS => ?_)
  have hP : va_P D vwCl ([(h, .inr (1, [.ref q7])), (q7, .inl (cI, 20, .inl (fun _ => 0)))]) _ := hP
  have hD : va_D A ([(h, .inr (1, [.ref q7])), (q7, .inl (cI, 20, .inl (fun _ => 0)))]) := hD
  refine W.widen (k := 1) (n := 20) (by omega) (by omega) ?_
  have hP9 : va_P D vwCl ([(h, .inr (1, [.ref q7])), (q7, .inl (cI, 20, .inl (fun _ => 0)))]) _ := hP.sub [0, 1] rfl
  have hD9 : va_D A ([(h, .inr (1, [.ref q7])), (q7, .inl (cI, 20, .inl (fun _ => 0)))]) := hD.sub [0, 1] (by decide) rfl
  exact hret 12 ls _ _ q7 dX1_init_12 rfl trivial hP9 hD9 hS
abbrev rm_X3_init : Room := { frames := 1, cells := 0, slots := 0, locals := 40 }
set_option maxRecDepth 20000 in
theorem qX3_init_1 : (Cond.methodLink RX3 3 objectInit : Cond) ∈ wsX3_init := List.mem_of_getElem? (i := 1) rfl
set_option maxRecDepth 20000 in
theorem qX3_init_2 : (Cond.instanceMethod objectInit : Cond) ∈ wsX3_init := List.mem_of_getElem? (i := 2) rfl
set_option maxRecDepth 20000 in
theorem qX3_init_3 : (Cond.code objectInit ⟨#[0xb1]⟩ 1 none : Cond) ∈ wsX3_init := List.mem_of_getElem? (i := 3) rfl
set_option maxRecDepth 20000 in
theorem iX3_init_X3 : ∀ w ∈ wsX30, w ∈ wsX3_init := by decide +kernel
set_option maxRecDepth 20000 in
theorem qX3_init_4 : (Cond.fieldLink RX3 9 "FlashBoot$Slot" "firstPage" "I" : Cond) ∈ wsX3_init := List.mem_of_getElem? (i := 4) rfl
set_option maxRecDepth 20000 in
theorem qX3_init_5 : (Cond.fieldLink RX3 15 "FlashBoot$Slot" "start" "I" : Cond) ∈ wsX3_init := List.mem_of_getElem? (i := 5) rfl
set_option maxRecDepth 20000 in
theorem qX3_init_6 : (Cond.fieldLink RX3 18 "FlashBoot$Slot" "header" "I" : Cond) ∈ wsX3_init := List.mem_of_getElem? (i := 6) rfl
set_option maxHeartbeats 4000000 in
set_option maxRecDepth 100000 in
theorem k_X3_init (l : Launch) (D : va_G) (cI : ClassId) (h : Nat) (x sd hd : Int32) (e1 : x * 32 = sd) (e2 : (x + 6) * 32 = hd) : zMI (S := Unit) l D cI yX3_init wsX3_init rm_X3_init [.ref h, .int x] ([(h, .inr (3, [.int 0, .int 0, .int 0]))]) (fun _ => True) (fun _ => [(h, .inr (3, [.int x, .int sd, .int hd]))]) 0 0 := by
  refine zEntI (cc := cX3_init) (maxL := 2) (ret := none) (own := RX3) (lvs := [(0, .ref h), (1, .int x)]) (by decide) rfl rfl (Nat.le_of_ble_eq_true rfl) rfl ?_
  intro p0 e s m args below meth c Q ls A hx hb hml hts hown hin hP hK hN hD hS hA hl hret
  refine lv_aload_n hx hb dX3_init_0 rfl (lv_at hl 0 rfl) ?_
  refine W.objInit hx hb hown (hts _ qX3_init_1) (hts _ qX3_init_2) (hts _ qX3_init_3) rfl (by rw [hml]; exact hl.1) rfl dX3_init_1 (Nat.le_of_ble_eq_true rfl) (Nat.le_of_ble_eq_true rfl) ?_
  refine W.eq (g2 := F0 m 4 ls []) rfl ?_
  refine lv_aload_n hx hb dX3_init_4 rfl (lv_at hl 0 rfl) ?_
  refine lv_iload_n hx hb dX3_init_5 rfl (lv_at hl 1 rfl) ?_
  refine va_putF (D := D) (ci := 3) (v := .int x) (ty := .int) (C := RX3) (T := TX3) (N := 3) hx hb hts iX3_init_X3 tyX3 tyX3_ok nmX3 hown hK hP hD hS 0 rfl rfl 0 (by decide) (hts _ qX3_init_4) (fun _ h9 => h9) rfl hin rfl (by decide +kernel) rfl rfl (Nat.le_of_ble_eq_true rfl) dX3_init_6 (fun H locs hP hD hS => ?_)
  have hP : va_P D vwCl ([(h, .inr (3, [.int x, .int 0, .int 0]))]) _ := hP
  have hD : va_D A ([(h, .inr (3, [.int x, .int 0, .int 0]))]) := hD
  refine lv_aload_n hx hb dX3_init_9 rfl (lv_at hl 0 rfl) ?_
  refine lv_iload_n hx hb dX3_init_10 rfl (lv_at hl 1 rfl) ?_
  refine lv_bipush (v := 32) hx hb dX3_init_11 (by decide) ?_
  refine lv_imul hx hb dX3_init_13 ?_
  refine z_top (v := sd) (e1) ?_
  refine va_putF (D := D) (ci := 3) (v := .int sd) (ty := .int) (C := RX3) (T := TX3) (N := 3) hx hb hts iX3_init_X3 tyX3 tyX3_ok nmX3 hown hK hP hD hS 0 rfl rfl 1 (by decide) (hts _ qX3_init_5) (fun _ h9 => h9) rfl hin rfl (by decide +kernel) rfl rfl (Nat.le_of_ble_eq_true rfl) dX3_init_14 (fun H locs hP hD hS => ?_)
  have hP : va_P D vwCl ([(h, .inr (3, [.int x, .int sd, .int 0]))]) _ := hP
  have hD : va_D A ([(h, .inr (3, [.int x, .int sd, .int 0]))]) := hD
  refine lv_aload_n hx hb dX3_init_17 rfl (lv_at hl 0 rfl) ?_
  refine lv_iload_n hx hb dX3_init_18 rfl (lv_at hl 1 rfl) ?_
  refine lv_bipush (v := 6) hx hb dX3_init_19 (by decide) ?_
  refine lv_iadd hx hb dX3_init_21 ?_
  refine lv_bipush (v := 32) hx hb dX3_init_22 (by decide) ?_
  refine lv_imul hx hb dX3_init_24 ?_
  refine z_top (v := hd) (e2) ?_
  refine va_putF (D := D) (ci := 3) (v := .int hd) (ty := .int) (C := RX3) (T := TX3) (N := 3) hx hb hts iX3_init_X3 tyX3 tyX3_ok nmX3 hown hK hP hD hS 0 rfl rfl 2 (by decide) (hts _ qX3_init_6) (fun _ h9 => h9) rfl hin rfl (by decide +kernel) rfl rfl (Nat.le_of_ble_eq_true rfl) dX3_init_25 (fun H locs hP hD hS => ?_)
  have hP : va_P D vwCl ([(h, .inr (3, [.int x, .int sd, .int hd]))]) _ := hP
  have hD : va_D A ([(h, .inr (3, [.int x, .int sd, .int hd]))]) := hD
  refine W.widen (k := 0) (n := 0) (by omega) (by omega) ?_
  have hP9 : va_P D vwCl ([(h, .inr (3, [.int x, .int sd, .int hd]))]) _ := hP.sub [0] rfl
  have hD9 : va_D A ([(h, .inr (3, [.int x, .int sd, .int hd]))]) := hD.sub [0] (by decide) rfl
  exact hret 28 ls _ _ () dX3_init_28 rfl trivial hP9 hD9 hS
abbrev rm_X0_init : Room := { frames := 1, cells := 1, slots := 768, locals := 40 }
set_option maxRecDepth 20000 in
theorem qX0_init_1 : (Cond.methodLink RX0 3 objectInit : Cond) ∈ wsX0_init := List.mem_of_getElem? (i := 1) rfl
set_option maxRecDepth 20000 in
theorem qX0_init_2 : (Cond.instanceMethod objectInit : Cond) ∈ wsX0_init := List.mem_of_getElem? (i := 2) rfl
set_option maxRecDepth 20000 in
theorem qX0_init_3 : (Cond.code objectInit ⟨#[0xb1]⟩ 1 none : Cond) ∈ wsX0_init := List.mem_of_getElem? (i := 3) rfl
set_option maxRecDepth 20000 in
theorem qX0_init_4 : (Cond.arrayClass .int : Cond) ∈ wsX0_init := List.mem_of_getElem? (i := 4) rfl
set_option maxRecDepth 20000 in
theorem iX0_init_X0 : ∀ w ∈ wsX00, w ∈ wsX0_init := by decide +kernel
set_option maxRecDepth 20000 in
theorem qX0_init_5 : (Cond.fieldLink RX0 11 "FlashBoot$Flash" "bytes" "[I" : Cond) ∈ wsX0_init := List.mem_of_getElem? (i := 5) rfl
set_option maxRecDepth 20000 in
theorem qX0_init_6 : (Cond.fieldLink RX0 15 "FlashBoot$Flash" "power" "Z" : Cond) ∈ wsX0_init := List.mem_of_getElem? (i := 6) rfl
set_option maxRecDepth 20000 in
theorem qX0_init_7 : (Cond.fieldLink RX0 19 "FlashBoot$Flash" "actsDone" "I" : Cond) ∈ wsX0_init := List.mem_of_getElem? (i := 7) rfl
set_option maxRecDepth 20000 in
theorem qX0_init_8 : (Cond.fieldLink RX0 23 "FlashBoot$Flash" "crashIsSet" "Z" : Cond) ∈ wsX0_init := List.mem_of_getElem? (i := 8) rfl
set_option maxRecDepth 20000 in
theorem qX0_init_9 : (Cond.fieldLink RX0 26 "FlashBoot$Flash" "actsToCrash" "I" : Cond) ∈ wsX0_init := List.mem_of_getElem? (i := 9) rfl
set_option maxRecDepth 20000 in
theorem qX0_init_10 : (Cond.fieldLink RX0 29 "FlashBoot$Flash" "crashMask" "I" : Cond) ∈ wsX0_init := List.mem_of_getElem? (i := 10) rfl
set_option maxHeartbeats 4000000 in
set_option maxRecDepth 100000 in
theorem k_X0_init (l : Launch) (D : va_G) (cI : ClassId) (h : Nat)  : zMI (S := Nat) l D cI yX0_init wsX0_init rm_X0_init [.ref h] ([(h, .inr (0, [.null, .int 0, .int 0, .int 0, .int 0, .int 0]))]) (fun _ => True) (fun q => [(h, .inr (0, [.ref q, .int 1, .int 0, .int 0, .int 0, .int 0])), (q, .inl (cI, 768, .inl (z_fl 768)))]) 1 768 := by
  refine zEntI (cc := cX0_init) (maxL := 2) (ret := none) (own := RX0) (lvs := [(0, .ref h)]) (by decide) rfl rfl (Nat.le_of_ble_eq_true rfl) rfl ?_
  intro p0 e s m args below meth c Q ls A hx hb hml hts hown hin hP hK hN hD hS hA hl hret
  refine lv_aload_n hx hb dX0_init_0 rfl (lv_at hl 0 rfl) ?_
  refine W.objInit hx hb hown (hts _ qX0_init_1) (hts _ qX0_init_2) (hts _ qX0_init_3) rfl (by rw [hml]; exact hl.1) rfl dX0_init_1 (Nat.le_of_ble_eq_true rfl) (Nat.le_of_ble_eq_true rfl) ?_
  refine W.eq (g2 := F0 m 4 ls []) rfl ?_
  refine lv_aload_n hx hb dX0_init_4 rfl (lv_at hl 0 rfl) ?_
  refine lv_sipush (v := 768) hx hb dX0_init_5 (by decide) ?_
  refine z_newa (N := 768) hx hb (hts _ qX0_init_4) hK hP hD hS hA (by decide) (by decide) (by decide) (Nat.le_of_ble_eq_true rfl) (Nat.le_of_ble_eq_true rfl) dX0_init_8 (fun q8 H hP hD hS => ?_)
  have hP : va_P D vwCl ([(h, .inr (0, [.null, .int 0, .int 0, .int 0, .int 0, .int 0])), (q8, .inl (cI, 768, .inl (fun _ => 0)))]) _ := hP
  have hD : va_D A ([(h, .inr (0, [.null, .int 0, .int 0, .int 0, .int 0, .int 0])), (q8, .inl (cI, 768, .inl (fun _ => 0)))]) := hD
  refine W.widen (k := 1) (n := 768) (by omega) (by omega) ?_
  refine va_putF (D := D) (ci := 0) (v := .ref q8) (ty := (.array .int)) (C := RX0) (T := TX0) (N := 6) hx hb hts iX0_init_X0 tyX0 tyX0_ok nmX0 hown hK hP hD hS 0 rfl rfl 0 (by decide) (hts _ qX0_init_5) (fun _ h9 => h9) rfl hin rfl (by decide +kernel) rfl rfl (Nat.le_of_ble_eq_true rfl) dX0_init_10 (fun H locs hP hD hS => ?_)
  have hP : va_P D vwCl ([(h, .inr (0, [.ref q8, .int 0, .int 0, .int 0, .int 0, .int 0])), (q8, .inl (cI, 768, .inl (fun _ => 0)))]) _ := hP
  have hD : va_D A ([(h, .inr (0, [.ref q8, .int 0, .int 0, .int 0, .int 0, .int 0])), (q8, .inl (cI, 768, .inl (fun _ => 0)))]) := hD
  refine lv_aload_n hx hb dX0_init_13 rfl (lv_at hl 0 rfl) ?_
  refine lv_iconst (v := 1) hx hb dX0_init_14 (by decide) ?_
  refine va_put (D := D) (ci := 0) (v := .int 1) (ty := .boolean) (C := RX0) (T := TX0) (N := 6) hx hb hts iX0_init_X0 tyX0 tyX0_ok nmX0 hown hK hP hD hS 0 rfl rfl 1 (by decide) (hts _ qX0_init_6) (fun _ h9 => h9) rfl (by decide +kernel) rfl rfl (Nat.le_of_ble_eq_true rfl) dX0_init_15 (fun H locs hP hD hS => ?_)
  have hP : va_P D vwCl ([(h, .inr (0, [.ref q8, .int 1, .int 0, .int 0, .int 0, .int 0])), (q8, .inl (cI, 768, .inl (fun _ => 0)))]) _ := hP
  have hD : va_D A ([(h, .inr (0, [.ref q8, .int 1, .int 0, .int 0, .int 0, .int 0])), (q8, .inl (cI, 768, .inl (fun _ => 0)))]) := hD
  refine lv_aload_n hx hb dX0_init_18 rfl (lv_at hl 0 rfl) ?_
  refine lv_iconst (v := 0) hx hb dX0_init_19 (by decide) ?_
  refine va_put (D := D) (ci := 0) (v := .int 0) (ty := .int) (C := RX0) (T := TX0) (N := 6) hx hb hts iX0_init_X0 tyX0 tyX0_ok nmX0 hown hK hP hD hS 0 rfl rfl 2 (by decide) (hts _ qX0_init_7) (fun _ h9 => h9) rfl (by decide +kernel) rfl rfl (Nat.le_of_ble_eq_true rfl) dX0_init_20 (fun H locs hP hD hS => ?_)
  have hP : va_P D vwCl ([(h, .inr (0, [.ref q8, .int 1, .int 0, .int 0, .int 0, .int 0])), (q8, .inl (cI, 768, .inl (fun _ => 0)))]) _ := hP
  have hD : va_D A ([(h, .inr (0, [.ref q8, .int 1, .int 0, .int 0, .int 0, .int 0])), (q8, .inl (cI, 768, .inl (fun _ => 0)))]) := hD
  refine lv_aload_n hx hb dX0_init_23 rfl (lv_at hl 0 rfl) ?_
  refine lv_iconst (v := 0) hx hb dX0_init_24 (by decide) ?_
  refine va_put (D := D) (ci := 0) (v := .int 0) (ty := .boolean) (C := RX0) (T := TX0) (N := 6) hx hb hts iX0_init_X0 tyX0 tyX0_ok nmX0 hown hK hP hD hS 0 rfl rfl 3 (by decide) (hts _ qX0_init_8) (fun _ h9 => h9) rfl (by decide +kernel) rfl rfl (Nat.le_of_ble_eq_true rfl) dX0_init_25 (fun H locs hP hD hS => ?_)
  have hP : va_P D vwCl ([(h, .inr (0, [.ref q8, .int 1, .int 0, .int 0, .int 0, .int 0])), (q8, .inl (cI, 768, .inl (fun _ => 0)))]) _ := hP
  have hD : va_D A ([(h, .inr (0, [.ref q8, .int 1, .int 0, .int 0, .int 0, .int 0])), (q8, .inl (cI, 768, .inl (fun _ => 0)))]) := hD
  refine lv_aload_n hx hb dX0_init_28 rfl (lv_at hl 0 rfl) ?_
  refine lv_iconst (v := 0) hx hb dX0_init_29 (by decide) ?_
  refine va_put (D := D) (ci := 0) (v := .int 0) (ty := .int) (C := RX0) (T := TX0) (N := 6) hx hb hts iX0_init_X0 tyX0 tyX0_ok nmX0 hown hK hP hD hS 0 rfl rfl 4 (by decide) (hts _ qX0_init_9) (fun _ h9 => h9) rfl (by decide +kernel) rfl rfl (Nat.le_of_ble_eq_true rfl) dX0_init_30 (fun H locs hP hD hS => ?_)
  have hP : va_P D vwCl ([(h, .inr (0, [.ref q8, .int 1, .int 0, .int 0, .int 0, .int 0])), (q8, .inl (cI, 768, .inl (fun _ => 0)))]) _ := hP
  have hD : va_D A ([(h, .inr (0, [.ref q8, .int 1, .int 0, .int 0, .int 0, .int 0])), (q8, .inl (cI, 768, .inl (fun _ => 0)))]) := hD
  refine lv_aload_n hx hb dX0_init_33 rfl (lv_at hl 0 rfl) ?_
  refine lv_iconst (v := 0) hx hb dX0_init_34 (by decide) ?_
  refine va_put (D := D) (ci := 0) (v := .int 0) (ty := .int) (C := RX0) (T := TX0) (N := 6) hx hb hts iX0_init_X0 tyX0 tyX0_ok nmX0 hown hK hP hD hS 0 rfl rfl 5 (by decide) (hts _ qX0_init_10) (fun _ h9 => h9) rfl (by decide +kernel) rfl rfl (Nat.le_of_ble_eq_true rfl) dX0_init_35 (fun H locs hP hD hS => ?_)
  have hP : va_P D vwCl ([(h, .inr (0, [.ref q8, .int 1, .int 0, .int 0, .int 0, .int 0])), (q8, .inl (cI, 768, .inl (fun _ => 0)))]) _ := hP
  have hD : va_D A ([(h, .inr (0, [.ref q8, .int 1, .int 0, .int 0, .int 0, .int 0])), (q8, .inl (cI, 768, .inl (fun _ => 0)))]) := hD
  refine lv_iconst (v := 0) hx hb dX0_init_38 (by decide) ?_
  refine lv_istore_n (lv' := [(1, .int 0), (0, .ref h)]) hx hb dX0_init_39 rfl hl (by decide) rfl (fun ls hl => ?_)
  have lp_40 : ∀ (g_40 : Nat) (i : Nat) (H : Heap) (locs : List Loc) (ls : Array Slot), i ≤ 768 → 768 - i < g_40 → va_P D vwCl ([(h, .inr (0, [.ref q8, .int 1, .int 0, .int 0, .int 0, .int 0])), (q8, .inl (cI, 768, .inl (z_fl i)))]) H → va_D A ([(h, .inr (0, [.ref q8, .int 1, .int 0, .int 0, .int 0, .int 0])), (q8, .inl (cI, 768, .inl (z_fl i)))]) → va_S A s.heap H locs → lv_has ls 2 [(0, .ref h), (1, .int (nI i))] → W p0 l e rm_X0_init s m args below meth c H locs 1 768 Q (F0 m 40 ls []) := by
    intro g_40
    induction g_40 with
    | zero => intro i H locs ls h1 h9; exact absurd h9 (Nat.not_lt_zero _)
    | succ g_40 ih_40 =>
      intro i H locs ls h1 h9 hP hD hS hl
      refine lv_iload_n hx hb dX0_init_40 rfl (lv_at hl 1 rfl) ?_
      refine lv_sipush (v := 768) hx hb dX0_init_41 (by decide) ?_
      refine z_icmp_ge (tgt := 62) hx hb dX0_init_44 (by decide) i 768 rfl rfl (by omega) (by omega) (fun c_44 => ?_) (fun c_44 => ?_)
      · -- 44 t
        obtain rfl : i = 768 := by omega
        refine W.widen (k := 1) (n := 768) (by omega) (by omega) ?_
        have hP9 : va_P D vwCl ([(h, .inr (0, [.ref q8, .int 1, .int 0, .int 0, .int 0, .int 0])), (q8, .inl (cI, 768, .inl (z_fl 768)))]) _ := hP.sub [0, 1] rfl
        have hD9 : va_D A ([(h, .inr (0, [.ref q8, .int 1, .int 0, .int 0, .int 0, .int 0])), (q8, .inl (cI, 768, .inl (z_fl 768)))]) := hD.sub [0, 1] (by decide) rfl
        exact hret 62 ls _ _ q8 dX0_init_62 rfl trivial hP9 hD9 hS
      · -- 44 f
        refine lv_aload_n hx hb dX0_init_47 rfl (lv_at hl 0 rfl) ?_
        refine va_get (D := D) (ci := 0) (v := .ref q8) (C := RX0) (T := TX0) (N := 6) hx hb hts iX0_init_X0 hown hK hP 0 rfl rfl 0 (by decide) (hts _ qX0_init_5) (fun _ h9 => h9) rfl dX0_init_48 ?_
        refine lv_iload_n hx hb dX0_init_51 rfl (lv_at hl 1 rfl) ?_
        refine lv_sipush (v := 255) hx hb dX0_init_52 (by decide) ?_
        refine z_iast hx hb hK hP hD hS 1 0 rfl rfl i rfl (by omega) (by decide) dX0_init_55 (fun H locs hP hD hS => ?_)
        have hP : va_P D vwCl ([(h, .inr (0, [.ref q8, .int 1, .int 0, .int 0, .int 0, .int 0])), (q8, .inl (cI, 768, .inl (upd (z_fl i) i 255)))]) _ := hP
        have hD : va_D A ([(h, .inr (0, [.ref q8, .int 1, .int 0, .int 0, .int 0, .int 0])), (q8, .inl (cI, 768, .inl (upd (z_fl i) i 255)))]) := hD
        refine lv_iinc (v := (nI (i + 1))) (lv' := [(1, .int (nI (i + 1))), (0, .ref h)]) hx hb dX0_init_56 hl (k := 1) rfl (z_inc _ _ rfl) (by decide) rfl (fun ls hl => ?_)
        refine lv_goto (tgt := 40) hx hb dX0_init_59 (by decide) ?_
        exact ih_40 (i + 1) _ _ _ (by omega) (by omega) hP hD hS (lv_sub hl [1, 0] rfl)
  exact lp_40 _ 0 _ _ _ (Nat.zero_le _) (Nat.lt_succ_self _) hP hD hS (lv_sub hl [1, 0] rfl)
abbrev rm_X5_rowOfWords : Room := { frames := 1, cells := 1, slots := 8, locals := 40 }
set_option maxRecDepth 20000 in
theorem qX5_rowOfWords_1 : (Cond.arrayClass .int : Cond) ∈ wsX5_rowOfWords := List.mem_of_getElem? (i := 1) rfl
set_option maxHeartbeats 4000000 in
set_option maxRecDepth 100000 in
theorem k_X5_rowOfWords (l : Launch) (D : va_G) (cI : ClassId) (x y : Int32)  : zMIR l D cI yX5_rowOfWords wsX5_rowOfWords rm_X5_rowOfWords [.int x, .int y] ([]) (fun _ => True) (fun q => [(q, .inl (cI, 8, .inl (z_rowK x y 4)))]) 1 8 := by
  refine zEntIR (cc := cX5_rowOfWords) (maxL := 4) (ret := (some (.array .int))) (own := RX5) (lvs := [(0, .int x), (1, .int y)]) (by decide) rfl rfl (Nat.le_of_ble_eq_true rfl) rfl ?_
  intro p0 e s m args below meth c Q ls A hx hb hml hts hown hin hP hK hN hD hS hA hl hret
  refine lv_bipush (v := 8) hx hb dX5_rowOfWords_0 (by decide) ?_
  refine z_newa (N := 8) hx hb (hts _ qX5_rowOfWords_1) hK hP hD hS hA (by decide) (by decide) (by decide) (Nat.le_of_ble_eq_true rfl) (Nat.le_of_ble_eq_true rfl) dX5_rowOfWords_2 (fun q2 H hP hD hS => ?_)
  have hP : va_P D vwCl ([(q2, .inl (cI, 8, .inl (fun _ => 0)))]) _ := hP
  have hD : va_D A ([(q2, .inl (cI, 8, .inl (fun _ => 0)))]) := hD
  refine W.widen (k := 1) (n := 8) (by omega) (by omega) ?_
  refine lv_astore_n (lv' := [(2, .ref q2), (0, .int x), (1, .int y)]) hx hb dX5_rowOfWords_4 rfl hl (by decide) rfl (fun ls hl => ?_)
  refine lv_iconst (v := 0) hx hb dX5_rowOfWords_5 (by decide) ?_
  refine lv_istore_n (lv' := [(3, .int 0), (2, .ref q2), (0, .int x), (1, .int y)]) hx hb dX5_rowOfWords_6 rfl hl (by decide) rfl (fun ls hl => ?_)
  have lp_7 : ∀ (g_7 : Nat) (i : Nat) (H : Heap) (locs : List Loc) (ls : Array Slot), i ≤ 4 → 4 - i < g_7 → va_P D vwCl ([(q2, .inl (cI, 8, .inl (z_rowK x y i)))]) H → va_D A ([(q2, .inl (cI, 8, .inl (z_rowK x y i)))]) → va_S A s.heap H locs → lv_has ls 4 [(0, .int x), (1, .int y), (2, .ref q2), (3, .int (nI i))] → W p0 l e rm_X5_rowOfWords s m args below meth c H locs 1 8 Q (F0 m 7 ls []) := by
    intro g_7
    induction g_7 with
    | zero => intro i H locs ls h1 h9; exact absurd h9 (Nat.not_lt_zero _)
    | succ g_7 ih_7 =>
      intro i H locs ls h1 h9 hP hD hS hl
      refine lv_iload_n hx hb dX5_rowOfWords_7 rfl (lv_at hl 3 rfl) ?_
      refine lv_iconst (v := 4) hx hb dX5_rowOfWords_8 (by decide) ?_
      refine z_icmp_ge (tgt := 36) hx hb dX5_rowOfWords_9 (by decide) i 4 rfl rfl (by omega) (by omega) (fun c_9 => ?_) (fun c_9 => ?_)
      · -- 9 t
        obtain rfl : i = 4 := by omega
        refine lv_aload_n hx hb dX5_rowOfWords_36 rfl (lv_at hl 2 rfl) ?_
        refine W.widen (k := 1) (n := 8) (by omega) (by omega) ?_
        have hP9 : va_P D vwCl ([(q2, .inl (cI, 8, .inl (z_rowK x y 4)))]) _ := hP.sub [0] rfl
        have hD9 : va_D A ([(q2, .inl (cI, 8, .inl (z_rowK x y 4)))]) := hD.sub [0] (by decide) rfl
        exact hret 37 ls _ _ q2 dX5_rowOfWords_37 rfl trivial hP9 hD9 hS
      · -- 9 f
        refine lv_aload_n hx hb dX5_rowOfWords_12 rfl (lv_at hl 2 rfl) ?_
        refine lv_iload_n hx hb dX5_rowOfWords_13 rfl (lv_at hl 3 rfl) ?_
        refine lv_iload_n hx hb dX5_rowOfWords_14 rfl (lv_at hl 0 rfl) ?_
        refine lv_iload_n hx hb dX5_rowOfWords_15 rfl (lv_at hl 3 rfl) ?_
        refine zSR (As := [.int x, .int (nI i)]) (rest := [.int (nI i), .ref q2]) ⟨hx, hb, hml, hown, hts⟩ (k_X5_byteOfWord l D cI x (nI i)) (va_cwS 2 hts gX5_rowOfWords_X5_byteOfWord rfl rfl rfl (by decide +kernel) ⟨Nat.le_of_ble_eq_true rfl, Nat.le_of_ble_eq_true rfl⟩) hP hK hN [] rfl rfl hl.1 rfl (Nat.le_of_ble_eq_true rfl) dX5_rowOfWords_16 ⟨Nat.le_of_ble_eq_true rfl, Nat.le_of_ble_eq_true rfl⟩ ?_
        refine z_iast hx hb hK hP hD hS 0 0 rfl rfl i rfl (by omega) (by decide) dX5_rowOfWords_19 (fun H locs hP hD hS => ?_)
        have hP : va_P D vwCl ([(q2, .inl (cI, 8, .inl (upd (z_rowK x y i) i (z_bow x (nI i)))))]) _ := hP
        have hD : va_D A ([(q2, .inl (cI, 8, .inl (upd (z_rowK x y i) i (z_bow x (nI i)))))]) := hD
        refine lv_aload_n hx hb dX5_rowOfWords_20 rfl (lv_at hl 2 rfl) ?_
        refine lv_iload_n hx hb dX5_rowOfWords_21 rfl (lv_at hl 3 rfl) ?_
        refine lv_iconst (v := 4) hx hb dX5_rowOfWords_22 (by decide) ?_
        refine lv_iadd hx hb dX5_rowOfWords_23 ?_
        refine z_top (v := nI (i + 4)) (nI_add i 4) ?_
        refine lv_iload_n hx hb dX5_rowOfWords_24 rfl (lv_at hl 1 rfl) ?_
        refine lv_iload_n hx hb dX5_rowOfWords_25 rfl (lv_at hl 3 rfl) ?_
        refine zSR (As := [.int y, .int (nI i)]) (rest := [.int (nI (i + 4)), .ref q2]) ⟨hx, hb, hml, hown, hts⟩ (k_X5_byteOfWord l D cI y (nI i)) (va_cwS 2 hts gX5_rowOfWords_X5_byteOfWord rfl rfl rfl (by decide +kernel) ⟨Nat.le_of_ble_eq_true rfl, Nat.le_of_ble_eq_true rfl⟩) hP hK hN [] rfl rfl hl.1 rfl (Nat.le_of_ble_eq_true rfl) dX5_rowOfWords_26 ⟨Nat.le_of_ble_eq_true rfl, Nat.le_of_ble_eq_true rfl⟩ ?_
        refine z_iast hx hb hK hP hD hS 0 0 rfl rfl (i + 4) rfl (by omega) (by decide) dX5_rowOfWords_29 (fun H locs hP hD hS => ?_)
        have hP : va_P D vwCl ([(q2, .inl (cI, 8, .inl (upd (upd (z_rowK x y i) i (z_bow x (nI i))) (i + 4) (z_bow y (nI i)))))]) _ := hP
        have hD : va_D A ([(q2, .inl (cI, 8, .inl (upd (upd (z_rowK x y i) i (z_bow x (nI i))) (i + 4) (z_bow y (nI i)))))]) := hD
        refine lv_iinc (v := (nI (i + 1))) (lv' := [(3, .int (nI (i + 1))), (0, .int x), (1, .int y), (2, .ref q2)]) hx hb dX5_rowOfWords_30 hl (k := 3) rfl (z_inc _ _ rfl) (by decide) rfl (fun ls hl => ?_)
        refine lv_goto (tgt := 7) hx hb dX5_rowOfWords_33 (by decide) ?_
        exact ih_7 (i + 1) _ _ _ (by omega) (by omega) hP hD hS (lv_sub hl [1, 2, 3, 0] rfl)
  exact lp_7 _ 0 _ _ _ (Nat.zero_le _) (Nat.lt_succ_self _) hP hD hS (lv_sub hl [2, 3, 1, 0] rfl)
abbrev rm_X6_init : Room := { frames := 1, cells := 4, slots := 1160, locals := 40 }
set_option maxRecDepth 20000 in
theorem qX6_init_1 : (Cond.methodLink RX6 1 objectInit : Cond) ∈ wsX6_init := List.mem_of_getElem? (i := 1) rfl
set_option maxRecDepth 20000 in
theorem qX6_init_2 : (Cond.instanceMethod objectInit : Cond) ∈ wsX6_init := List.mem_of_getElem? (i := 2) rfl
set_option maxRecDepth 20000 in
theorem qX6_init_3 : (Cond.code objectInit ⟨#[0xb1]⟩ 1 none : Cond) ∈ wsX6_init := List.mem_of_getElem? (i := 3) rfl
set_option maxRecDepth 20000 in
theorem qX6_init_4 : (Cond.arrayClass .int : Cond) ∈ wsX6_init := List.mem_of_getElem? (i := 4) rfl
set_option maxRecDepth 20000 in
theorem iX6_init_X6 : ∀ w ∈ wsX60, w ∈ wsX6_init := by decide +kernel
set_option maxRecDepth 20000 in
theorem qX6_init_5 : (Cond.fieldLink RX6 7 "FlashBootModel" "flash" "[I" : Cond) ∈ wsX6_init := List.mem_of_getElem? (i := 5) rfl
set_option maxRecDepth 20000 in
theorem qX6_init_6 : (Cond.fieldLink RX6 13 "FlashBootModel" "keys" "[I" : Cond) ∈ wsX6_init := List.mem_of_getElem? (i := 6) rfl
set_option maxRecDepth 20000 in
theorem qX6_init_7 : (Cond.fieldLink RX6 16 "FlashBootModel" "tape" "[I" : Cond) ∈ wsX6_init := List.mem_of_getElem? (i := 7) rfl
set_option maxRecDepth 20000 in
theorem qX6_init_8 : (Cond.fieldLink RX6 19 "FlashBootModel" "power" "Z" : Cond) ∈ wsX6_init := List.mem_of_getElem? (i := 8) rfl
set_option maxRecDepth 20000 in
theorem qX6_init_9 : (Cond.fieldLink RX6 23 "FlashBootModel" "runs" "I" : Cond) ∈ wsX6_init := List.mem_of_getElem? (i := 9) rfl
set_option maxRecDepth 20000 in
theorem qX6_init_10 : (Cond.fieldLink RX6 27 "FlashBootModel" "left" "I" : Cond) ∈ wsX6_init := List.mem_of_getElem? (i := 10) rfl
set_option maxRecDepth 20000 in
theorem qX6_init_11 : (Cond.fieldLink RX6 30 "FlashBootModel" "image" "[I" : Cond) ∈ wsX6_init := List.mem_of_getElem? (i := 11) rfl
set_option maxRecDepth 20000 in
theorem qX6_init_12 : (Cond.fieldLink RX6 33 "FlashBootModel" "vendor" "I" : Cond) ∈ wsX6_init := List.mem_of_getElem? (i := 12) rfl
set_option maxHeartbeats 4000000 in
set_option maxRecDepth 100000 in
theorem k_X6_init (l : Launch) (D : va_G) (cI : ClassId) (h : Nat) (x y vd : Int32)  : zMI (S := Nat → Nat) l D cI yX6_init wsX6_init rm_X6_init [.ref h, .int x, .int y, .int vd] ([(h, .inr (6, [.int 0, .null, .null, .int 0, .null, .int 0, .int 0, .int 0, .int 0, .int 0, .int 0, .null, .int 0]))]) (fun am => am 0 = h) (fun am => mW cI am (y_rowK x y 4) (vd &&& 255) (z_fl 768) (fun _ => 0) 0 1 (-7) (-1) 0 0 (fun _ => 0) 0) 4 1160 := by
  refine zEntI (cc := cX6_init) (maxL := 5) (ret := none) (own := RX6) (lvs := [(0, .ref h), (1, .int x), (2, .int y), (3, .int vd)]) (by decide) rfl rfl (Nat.le_of_ble_eq_true rfl) rfl ?_
  intro p0 e s m args below meth c Q ls A hx hb hml hts hown hin hP hK hN hD hS hA hl hret
  refine lv_aload_n hx hb dX6_init_0 rfl (lv_at hl 0 rfl) ?_
  refine W.objInit hx hb hown (hts _ qX6_init_1) (hts _ qX6_init_2) (hts _ qX6_init_3) rfl (by rw [hml]; exact hl.1) rfl dX6_init_1 (Nat.le_of_ble_eq_true rfl) (Nat.le_of_ble_eq_true rfl) ?_
  refine W.eq (g2 := F0 m 4 ls []) rfl ?_
  refine lv_aload_n hx hb dX6_init_4 rfl (lv_at hl 0 rfl) ?_
  refine lv_sipush (v := 768) hx hb dX6_init_5 (by decide) ?_
  refine z_newa (N := 768) hx hb (hts _ qX6_init_4) hK hP hD hS hA (by decide) (by decide) (by decide) (Nat.le_of_ble_eq_true rfl) (Nat.le_of_ble_eq_true rfl) dX6_init_8 (fun q8 H hP hD hS => ?_)
  have hP : va_P D vwCl ([(h, .inr (6, [.int 0, .null, .null, .int 0, .null, .int 0, .int 0, .int 0, .int 0, .int 0, .int 0, .null, .int 0])), (q8, .inl (cI, 768, .inl (fun _ => 0)))]) _ := hP
  have hD : va_D A ([(h, .inr (6, [.int 0, .null, .null, .int 0, .null, .int 0, .int 0, .int 0, .int 0, .int 0, .int 0, .null, .int 0])), (q8, .inl (cI, 768, .inl (fun _ => 0)))]) := hD
  refine W.widen (k := 1) (n := 768) (by omega) (by omega) ?_
  refine va_putF (D := D) (ci := 6) (v := .ref q8) (ty := (.array .int)) (C := RX6) (T := TX6) (N := 13) hx hb hts iX6_init_X6 tyX6 tyX6_ok nmX6 hown hK hP hD hS 0 rfl rfl 1 (by decide) (hts _ qX6_init_5) (fun _ h9 => h9) rfl hin rfl (by decide +kernel) rfl rfl (Nat.le_of_ble_eq_true rfl) dX6_init_10 (fun H locs hP hD hS => ?_)
  have hP : va_P D vwCl ([(h, .inr (6, [.int 0, .ref q8, .null, .int 0, .null, .int 0, .int 0, .int 0, .int 0, .int 0, .int 0, .null, .int 0])), (q8, .inl (cI, 768, .inl (fun _ => 0)))]) _ := hP
  have hD : va_D A ([(h, .inr (6, [.int 0, .ref q8, .null, .int 0, .null, .int 0, .int 0, .int 0, .int 0, .int 0, .int 0, .null, .int 0])), (q8, .inl (cI, 768, .inl (fun _ => 0)))]) := hD
  refine lv_aload_n hx hb dX6_init_13 rfl (lv_at hl 0 rfl) ?_
  refine lv_bipush (v := 8) hx hb dX6_init_14 (by decide) ?_
  refine z_newa (N := 8) hx hb (hts _ qX6_init_4) hK hP hD hS hA (by decide) (by decide) (by decide) (Nat.le_of_ble_eq_true rfl) (Nat.le_of_ble_eq_true rfl) dX6_init_16 (fun q16 H hP hD hS => ?_)
  have hP : va_P D vwCl ([(h, .inr (6, [.int 0, .ref q8, .null, .int 0, .null, .int 0, .int 0, .int 0, .int 0, .int 0, .int 0, .null, .int 0])), (q8, .inl (cI, 768, .inl (fun _ => 0))), (q16, .inl (cI, 8, .inl (fun _ => 0)))]) _ := hP
  have hD : va_D A ([(h, .inr (6, [.int 0, .ref q8, .null, .int 0, .null, .int 0, .int 0, .int 0, .int 0, .int 0, .int 0, .null, .int 0])), (q8, .inl (cI, 768, .inl (fun _ => 0))), (q16, .inl (cI, 8, .inl (fun _ => 0)))]) := hD
  refine W.widen (k := 2) (n := 776) (by omega) (by omega) ?_
  refine va_putF (D := D) (ci := 6) (v := .ref q16) (ty := (.array .int)) (C := RX6) (T := TX6) (N := 13) hx hb hts iX6_init_X6 tyX6 tyX6_ok nmX6 hown hK hP hD hS 0 rfl rfl 2 (by decide) (hts _ qX6_init_6) (fun _ h9 => h9) rfl hin rfl (by decide +kernel) rfl rfl (Nat.le_of_ble_eq_true rfl) dX6_init_18 (fun H locs hP hD hS => ?_)
  have hP : va_P D vwCl ([(h, .inr (6, [.int 0, .ref q8, .ref q16, .int 0, .null, .int 0, .int 0, .int 0, .int 0, .int 0, .int 0, .null, .int 0])), (q8, .inl (cI, 768, .inl (fun _ => 0))), (q16, .inl (cI, 8, .inl (fun _ => 0)))]) _ := hP
  have hD : va_D A ([(h, .inr (6, [.int 0, .ref q8, .ref q16, .int 0, .null, .int 0, .int 0, .int 0, .int 0, .int 0, .int 0, .null, .int 0])), (q8, .inl (cI, 768, .inl (fun _ => 0))), (q16, .inl (cI, 8, .inl (fun _ => 0)))]) := hD
  refine lv_aload_n hx hb dX6_init_21 rfl (lv_at hl 0 rfl) ?_
  refine lv_sipush (v := 192) hx hb dX6_init_22 (by decide) ?_
  refine z_newa (N := 192) hx hb (hts _ qX6_init_4) hK hP hD hS hA (by decide) (by decide) (by decide) (Nat.le_of_ble_eq_true rfl) (Nat.le_of_ble_eq_true rfl) dX6_init_25 (fun q25 H hP hD hS => ?_)
  have hP : va_P D vwCl ([(h, .inr (6, [.int 0, .ref q8, .ref q16, .int 0, .null, .int 0, .int 0, .int 0, .int 0, .int 0, .int 0, .null, .int 0])), (q8, .inl (cI, 768, .inl (fun _ => 0))), (q16, .inl (cI, 8, .inl (fun _ => 0))), (q25, .inl (cI, 192, .inl (fun _ => 0)))]) _ := hP
  have hD : va_D A ([(h, .inr (6, [.int 0, .ref q8, .ref q16, .int 0, .null, .int 0, .int 0, .int 0, .int 0, .int 0, .int 0, .null, .int 0])), (q8, .inl (cI, 768, .inl (fun _ => 0))), (q16, .inl (cI, 8, .inl (fun _ => 0))), (q25, .inl (cI, 192, .inl (fun _ => 0)))]) := hD
  refine W.widen (k := 3) (n := 968) (by omega) (by omega) ?_
  refine va_putF (D := D) (ci := 6) (v := .ref q25) (ty := (.array .int)) (C := RX6) (T := TX6) (N := 13) hx hb hts iX6_init_X6 tyX6 tyX6_ok nmX6 hown hK hP hD hS 0 rfl rfl 4 (by decide) (hts _ qX6_init_7) (fun _ h9 => h9) rfl hin rfl (by decide +kernel) rfl rfl (Nat.le_of_ble_eq_true rfl) dX6_init_27 (fun H locs hP hD hS => ?_)
  have hP : va_P D vwCl ([(h, .inr (6, [.int 0, .ref q8, .ref q16, .int 0, .ref q25, .int 0, .int 0, .int 0, .int 0, .int 0, .int 0, .null, .int 0])), (q8, .inl (cI, 768, .inl (fun _ => 0))), (q16, .inl (cI, 8, .inl (fun _ => 0))), (q25, .inl (cI, 192, .inl (fun _ => 0)))]) _ := hP
  have hD : va_D A ([(h, .inr (6, [.int 0, .ref q8, .ref q16, .int 0, .ref q25, .int 0, .int 0, .int 0, .int 0, .int 0, .int 0, .null, .int 0])), (q8, .inl (cI, 768, .inl (fun _ => 0))), (q16, .inl (cI, 8, .inl (fun _ => 0))), (q25, .inl (cI, 192, .inl (fun _ => 0)))]) := hD
  refine lv_aload_n hx hb dX6_init_30 rfl (lv_at hl 0 rfl) ?_
  refine lv_iconst (v := 1) hx hb dX6_init_31 (by decide) ?_
  refine va_put (D := D) (ci := 6) (v := .int 1) (ty := .boolean) (C := RX6) (T := TX6) (N := 13) hx hb hts iX6_init_X6 tyX6 tyX6_ok nmX6 hown hK hP hD hS 0 rfl rfl 6 (by decide) (hts _ qX6_init_8) (fun _ h9 => h9) rfl (by decide +kernel) rfl rfl (Nat.le_of_ble_eq_true rfl) dX6_init_32 (fun H locs hP hD hS => ?_)
  have hP : va_P D vwCl ([(h, .inr (6, [.int 0, .ref q8, .ref q16, .int 0, .ref q25, .int 0, .int 1, .int 0, .int 0, .int 0, .int 0, .null, .int 0])), (q8, .inl (cI, 768, .inl (fun _ => 0))), (q16, .inl (cI, 8, .inl (fun _ => 0))), (q25, .inl (cI, 192, .inl (fun _ => 0)))]) _ := hP
  have hD : va_D A ([(h, .inr (6, [.int 0, .ref q8, .ref q16, .int 0, .ref q25, .int 0, .int 1, .int 0, .int 0, .int 0, .int 0, .null, .int 0])), (q8, .inl (cI, 768, .inl (fun _ => 0))), (q16, .inl (cI, 8, .inl (fun _ => 0))), (q25, .inl (cI, 192, .inl (fun _ => 0)))]) := hD
  refine lv_aload_n hx hb dX6_init_35 rfl (lv_at hl 0 rfl) ?_
  refine lv_bipush (v := (-7)) hx hb dX6_init_36 (by decide) ?_
  refine va_put (D := D) (ci := 6) (v := .int (-7)) (ty := .int) (C := RX6) (T := TX6) (N := 13) hx hb hts iX6_init_X6 tyX6 tyX6_ok nmX6 hown hK hP hD hS 0 rfl rfl 7 (by decide) (hts _ qX6_init_9) (fun _ h9 => h9) rfl (by decide +kernel) rfl rfl (Nat.le_of_ble_eq_true rfl) dX6_init_38 (fun H locs hP hD hS => ?_)
  have hP : va_P D vwCl ([(h, .inr (6, [.int 0, .ref q8, .ref q16, .int 0, .ref q25, .int 0, .int 1, .int (-7), .int 0, .int 0, .int 0, .null, .int 0])), (q8, .inl (cI, 768, .inl (fun _ => 0))), (q16, .inl (cI, 8, .inl (fun _ => 0))), (q25, .inl (cI, 192, .inl (fun _ => 0)))]) _ := hP
  have hD : va_D A ([(h, .inr (6, [.int 0, .ref q8, .ref q16, .int 0, .ref q25, .int 0, .int 1, .int (-7), .int 0, .int 0, .int 0, .null, .int 0])), (q8, .inl (cI, 768, .inl (fun _ => 0))), (q16, .inl (cI, 8, .inl (fun _ => 0))), (q25, .inl (cI, 192, .inl (fun _ => 0)))]) := hD
  refine lv_aload_n hx hb dX6_init_41 rfl (lv_at hl 0 rfl) ?_
  refine lv_iconst (v := (-1)) hx hb dX6_init_42 (by decide) ?_
  refine va_put (D := D) (ci := 6) (v := .int (-1)) (ty := .int) (C := RX6) (T := TX6) (N := 13) hx hb hts iX6_init_X6 tyX6 tyX6_ok nmX6 hown hK hP hD hS 0 rfl rfl 8 (by decide) (hts _ qX6_init_10) (fun _ h9 => h9) rfl (by decide +kernel) rfl rfl (Nat.le_of_ble_eq_true rfl) dX6_init_43 (fun H locs hP hD hS => ?_)
  have hP : va_P D vwCl ([(h, .inr (6, [.int 0, .ref q8, .ref q16, .int 0, .ref q25, .int 0, .int 1, .int (-7), .int (-1), .int 0, .int 0, .null, .int 0])), (q8, .inl (cI, 768, .inl (fun _ => 0))), (q16, .inl (cI, 8, .inl (fun _ => 0))), (q25, .inl (cI, 192, .inl (fun _ => 0)))]) _ := hP
  have hD : va_D A ([(h, .inr (6, [.int 0, .ref q8, .ref q16, .int 0, .ref q25, .int 0, .int 1, .int (-7), .int (-1), .int 0, .int 0, .null, .int 0])), (q8, .inl (cI, 768, .inl (fun _ => 0))), (q16, .inl (cI, 8, .inl (fun _ => 0))), (q25, .inl (cI, 192, .inl (fun _ => 0)))]) := hD
  refine lv_aload_n hx hb dX6_init_46 rfl (lv_at hl 0 rfl) ?_
  refine lv_sipush (v := 192) hx hb dX6_init_47 (by decide) ?_
  refine z_newa (N := 192) hx hb (hts _ qX6_init_4) hK hP hD hS hA (by decide) (by decide) (by decide) (Nat.le_of_ble_eq_true rfl) (Nat.le_of_ble_eq_true rfl) dX6_init_50 (fun q50 H hP hD hS => ?_)
  have hP : va_P D vwCl ([(h, .inr (6, [.int 0, .ref q8, .ref q16, .int 0, .ref q25, .int 0, .int 1, .int (-7), .int (-1), .int 0, .int 0, .null, .int 0])), (q8, .inl (cI, 768, .inl (fun _ => 0))), (q16, .inl (cI, 8, .inl (fun _ => 0))), (q25, .inl (cI, 192, .inl (fun _ => 0))), (q50, .inl (cI, 192, .inl (fun _ => 0)))]) _ := hP
  have hD : va_D A ([(h, .inr (6, [.int 0, .ref q8, .ref q16, .int 0, .ref q25, .int 0, .int 1, .int (-7), .int (-1), .int 0, .int 0, .null, .int 0])), (q8, .inl (cI, 768, .inl (fun _ => 0))), (q16, .inl (cI, 8, .inl (fun _ => 0))), (q25, .inl (cI, 192, .inl (fun _ => 0))), (q50, .inl (cI, 192, .inl (fun _ => 0)))]) := hD
  refine W.widen (k := 4) (n := 1160) (by omega) (by omega) ?_
  refine va_putF (D := D) (ci := 6) (v := .ref q50) (ty := (.array .int)) (C := RX6) (T := TX6) (N := 13) hx hb hts iX6_init_X6 tyX6 tyX6_ok nmX6 hown hK hP hD hS 0 rfl rfl 11 (by decide) (hts _ qX6_init_11) (fun _ h9 => h9) rfl hin rfl (by decide +kernel) rfl rfl (Nat.le_of_ble_eq_true rfl) dX6_init_52 (fun H locs hP hD hS => ?_)
  have hP : va_P D vwCl ([(h, .inr (6, [.int 0, .ref q8, .ref q16, .int 0, .ref q25, .int 0, .int 1, .int (-7), .int (-1), .int 0, .int 0, .ref q50, .int 0])), (q8, .inl (cI, 768, .inl (fun _ => 0))), (q16, .inl (cI, 8, .inl (fun _ => 0))), (q25, .inl (cI, 192, .inl (fun _ => 0))), (q50, .inl (cI, 192, .inl (fun _ => 0)))]) _ := hP
  have hD : va_D A ([(h, .inr (6, [.int 0, .ref q8, .ref q16, .int 0, .ref q25, .int 0, .int 1, .int (-7), .int (-1), .int 0, .int 0, .ref q50, .int 0])), (q8, .inl (cI, 768, .inl (fun _ => 0))), (q16, .inl (cI, 8, .inl (fun _ => 0))), (q25, .inl (cI, 192, .inl (fun _ => 0))), (q50, .inl (cI, 192, .inl (fun _ => 0)))]) := hD
  refine lv_iconst (v := 0) hx hb dX6_init_55 (by decide) ?_
  refine lv_istore (lv' := [(4, .int 0), (0, .ref h), (1, .int x), (2, .int y), (3, .int vd)]) hx hb dX6_init_56 hl (by decide) rfl (fun ls hl => ?_)
  have lp_58 : ∀ (g_58 : Nat) (i : Nat) (H : Heap) (locs : List Loc) (ls : Array Slot), i ≤ 4 → 4 - i < g_58 → va_P D vwCl ([(h, .inr (6, [.int 0, .ref q8, .ref q16, .int 0, .ref q25, .int 0, .int 1, .int (-7), .int (-1), .int 0, .int 0, .ref q50, .int 0])), (q8, .inl (cI, 768, .inl (fun _ => 0))), (q16, .inl (cI, 8, .inl (y_rowK x y i))), (q25, .inl (cI, 192, .inl (fun _ => 0))), (q50, .inl (cI, 192, .inl (fun _ => 0)))]) H → va_D A ([(h, .inr (6, [.int 0, .ref q8, .ref q16, .int 0, .ref q25, .int 0, .int 1, .int (-7), .int (-1), .int 0, .int 0, .ref q50, .int 0])), (q8, .inl (cI, 768, .inl (fun _ => 0))), (q16, .inl (cI, 8, .inl (y_rowK x y i))), (q25, .inl (cI, 192, .inl (fun _ => 0))), (q50, .inl (cI, 192, .inl (fun _ => 0)))]) → va_S A s.heap H locs → lv_has ls 5 [(0, .ref h), (1, .int x), (2, .int y), (3, .int vd), (4, .int (nI i))] → W p0 l e rm_X6_init s m args below meth c H locs 4 1160 Q (F0 m 58 ls []) := by
    intro g_58
    induction g_58 with
    | zero => intro i H locs ls h1 h9; exact absurd h9 (Nat.not_lt_zero _)
    | succ g_58 ih_58 =>
      intro i H locs ls h1 h9 hP hD hS hl
      refine lv_iload hx hb dX6_init_58 (lv_at hl 4 rfl) ?_
      refine lv_iconst (v := 4) hx hb dX6_init_60 (by decide) ?_
      refine z_icmp_ge (tgt := 114) hx hb dX6_init_61 (by decide) i 4 rfl rfl (by omega) (by omega) (fun c_61 => ?_) (fun c_61 => ?_)
      · -- 61 t
        obtain rfl : i = 4 := by omega
        refine lv_aload_n hx hb dX6_init_114 rfl (lv_at hl 0 rfl) ?_
        refine lv_iload_n hx hb dX6_init_115 rfl (lv_at hl 3 rfl) ?_
        refine lv_sipush (v := 255) hx hb dX6_init_116 (by decide) ?_
        refine lv_iand hx hb dX6_init_119 ?_
        refine va_putF (D := D) (ci := 6) (v := .int (vd &&& 255)) (ty := .int) (C := RX6) (T := TX6) (N := 13) hx hb hts iX6_init_X6 tyX6 tyX6_ok nmX6 hown hK hP hD hS 0 rfl rfl 3 (by decide) (hts _ qX6_init_12) (fun _ h9 => h9) rfl hin rfl (by decide +kernel) rfl rfl (Nat.le_of_ble_eq_true rfl) dX6_init_120 (fun H locs hP hD hS => ?_)
        have hP : va_P D vwCl ([(h, .inr (6, [.int 0, .ref q8, .ref q16, .int (vd &&& 255), .ref q25, .int 0, .int 1, .int (-7), .int (-1), .int 0, .int 0, .ref q50, .int 0])), (q8, .inl (cI, 768, .inl (fun _ => 0))), (q16, .inl (cI, 8, .inl (y_rowK x y 4))), (q25, .inl (cI, 192, .inl (fun _ => 0))), (q50, .inl (cI, 192, .inl (fun _ => 0)))]) _ := hP
        have hD : va_D A ([(h, .inr (6, [.int 0, .ref q8, .ref q16, .int (vd &&& 255), .ref q25, .int 0, .int 1, .int (-7), .int (-1), .int 0, .int 0, .ref q50, .int 0])), (q8, .inl (cI, 768, .inl (fun _ => 0))), (q16, .inl (cI, 8, .inl (y_rowK x y 4))), (q25, .inl (cI, 192, .inl (fun _ => 0))), (q50, .inl (cI, 192, .inl (fun _ => 0)))]) := hD
        refine lv_iconst (v := 0) hx hb dX6_init_123 (by decide) ?_
        refine lv_istore (lv' := [(4, .int 0), (0, .ref h), (1, .int x), (2, .int y), (3, .int vd)]) hx hb dX6_init_124 hl (by decide) rfl (fun ls hl => ?_)
        have lp_126 : ∀ (g_126 : Nat) (i : Nat) (H : Heap) (locs : List Loc) (ls : Array Slot), i ≤ 768 → 768 - i < g_126 → va_P D vwCl ([(h, .inr (6, [.int 0, .ref q8, .ref q16, .int (vd &&& 255), .ref q25, .int 0, .int 1, .int (-7), .int (-1), .int 0, .int 0, .ref q50, .int 0])), (q8, .inl (cI, 768, .inl (z_fl i))), (q16, .inl (cI, 8, .inl (y_rowK x y 4))), (q25, .inl (cI, 192, .inl (fun _ => 0))), (q50, .inl (cI, 192, .inl (fun _ => 0)))]) H → va_D A ([(h, .inr (6, [.int 0, .ref q8, .ref q16, .int (vd &&& 255), .ref q25, .int 0, .int 1, .int (-7), .int (-1), .int 0, .int 0, .ref q50, .int 0])), (q8, .inl (cI, 768, .inl (z_fl i))), (q16, .inl (cI, 8, .inl (y_rowK x y 4))), (q25, .inl (cI, 192, .inl (fun _ => 0))), (q50, .inl (cI, 192, .inl (fun _ => 0)))]) → va_S A s.heap H locs → lv_has ls 5 [(0, .ref h), (1, .int x), (2, .int y), (3, .int vd), (4, .int (nI i))] → W p0 l e rm_X6_init s m args below meth c H locs 4 1160 Q (F0 m 126 ls []) := by
          intro g_126
          induction g_126 with
          | zero => intro i H locs ls h1 h9; exact absurd h9 (Nat.not_lt_zero _)
          | succ g_126 ih_126 =>
            intro i H locs ls h1 h9 hP hD hS hl
            refine lv_iload hx hb dX6_init_126 (lv_at hl 4 rfl) ?_
            refine lv_sipush (v := 768) hx hb dX6_init_128 (by decide) ?_
            refine z_icmp_ge (tgt := 150) hx hb dX6_init_131 (by decide) i 768 rfl rfl (by omega) (by omega) (fun c_131 => ?_) (fun c_131 => ?_)
            · -- 131 t
              obtain rfl : i = 768 := by omega
              refine W.widen (k := 4) (n := 1160) (by omega) (by omega) ?_
              have hP9 : va_P D vwCl ([(h, .inr (6, [.int 0, .ref q8, .ref q16, .int (vd &&& 255), .ref q25, .int 0, .int 1, .int (-7), .int (-1), .int 0, .int 0, .ref q50, .int 0])), (q8, .inl (cI, 768, .inl (z_fl 768))), (q16, .inl (cI, 8, .inl (y_rowK x y 4))), (q25, .inl (cI, 192, .inl (fun _ => 0))), (q50, .inl (cI, 192, .inl (fun _ => 0)))]) _ := hP.sub [0, 1, 2, 3, 4] rfl
              have hD9 : va_D A ([(h, .inr (6, [.int 0, .ref q8, .ref q16, .int (vd &&& 255), .ref q25, .int 0, .int 1, .int (-7), .int (-1), .int 0, .int 0, .ref q50, .int 0])), (q8, .inl (cI, 768, .inl (z_fl 768))), (q16, .inl (cI, 8, .inl (y_rowK x y 4))), (q25, .inl (cI, 192, .inl (fun _ => 0))), (q50, .inl (cI, 192, .inl (fun _ => 0)))]) := hD.sub [0, 1, 2, 3, 4] (by decide) rfl
              exact hret 150 ls _ _ (fun j => match j with | 0 => h | 1 => q8 | 2 => q16 | 3 => q25 | _ => q50) dX6_init_150 rfl rfl hP9 hD9 hS
            · -- 131 f
              refine lv_aload_n hx hb dX6_init_134 rfl (lv_at hl 0 rfl) ?_
              refine va_get (D := D) (ci := 6) (v := .ref q8) (C := RX6) (T := TX6) (N := 13) hx hb hts iX6_init_X6 hown hK hP 0 rfl rfl 1 (by decide) (hts _ qX6_init_5) (fun _ h9 => h9) rfl dX6_init_135 ?_
              refine lv_iload hx hb dX6_init_138 (lv_at hl 4 rfl) ?_
              refine lv_sipush (v := 255) hx hb dX6_init_140 (by decide) ?_
              refine z_iast hx hb hK hP hD hS 1 0 rfl rfl i rfl (by omega) (by decide) dX6_init_143 (fun H locs hP hD hS => ?_)
              have hP : va_P D vwCl ([(h, .inr (6, [.int 0, .ref q8, .ref q16, .int (vd &&& 255), .ref q25, .int 0, .int 1, .int (-7), .int (-1), .int 0, .int 0, .ref q50, .int 0])), (q8, .inl (cI, 768, .inl (upd (z_fl i) i 255))), (q16, .inl (cI, 8, .inl (y_rowK x y 4))), (q25, .inl (cI, 192, .inl (fun _ => 0))), (q50, .inl (cI, 192, .inl (fun _ => 0)))]) _ := hP
              have hD : va_D A ([(h, .inr (6, [.int 0, .ref q8, .ref q16, .int (vd &&& 255), .ref q25, .int 0, .int 1, .int (-7), .int (-1), .int 0, .int 0, .ref q50, .int 0])), (q8, .inl (cI, 768, .inl (upd (z_fl i) i 255))), (q16, .inl (cI, 8, .inl (y_rowK x y 4))), (q25, .inl (cI, 192, .inl (fun _ => 0))), (q50, .inl (cI, 192, .inl (fun _ => 0)))]) := hD
              refine lv_iinc (v := (nI (i + 1))) (lv' := [(4, .int (nI (i + 1))), (0, .ref h), (1, .int x), (2, .int y), (3, .int vd)]) hx hb dX6_init_144 hl (k := 4) rfl (z_inc _ _ rfl) (by decide) rfl (fun ls hl => ?_)
              refine lv_goto (tgt := 126) hx hb dX6_init_147 (by decide) ?_
              exact ih_126 (i + 1) _ _ _ (by omega) (by omega) hP hD hS (lv_sub hl [1, 2, 3, 4, 0] rfl)
        exact lp_126 _ 0 _ _ _ (Nat.zero_le _) (Nat.lt_succ_self _) hP hD hS (lv_sub hl [1, 2, 3, 4, 0] rfl)
      · -- 61 f
        refine lv_aload_n hx hb dX6_init_64 rfl (lv_at hl 0 rfl) ?_
        refine va_get (D := D) (ci := 6) (v := .ref q16) (C := RX6) (T := TX6) (N := 13) hx hb hts iX6_init_X6 hown hK hP 0 rfl rfl 2 (by decide) (hts _ qX6_init_6) (fun _ h9 => h9) rfl dX6_init_65 ?_
        refine lv_iload hx hb dX6_init_68 (lv_at hl 4 rfl) ?_
        refine lv_iload_n hx hb dX6_init_70 rfl (lv_at hl 1 rfl) ?_
        refine lv_bipush (v := 24) hx hb dX6_init_71 (by decide) ?_
        refine lv_bipush (v := 8) hx hb dX6_init_73 (by decide) ?_
        refine lv_iload hx hb dX6_init_75 (lv_at hl 4 rfl) ?_
        refine lv_imul hx hb dX6_init_77 ?_
        refine lv_isub hx hb dX6_init_78 ?_
        refine lv_ishr hx hb dX6_init_79 ?_
        refine lv_sipush (v := 255) hx hb dX6_init_80 (by decide) ?_
        refine lv_iand hx hb dX6_init_83 ?_
        refine z_top (v := y_part x (nI i)) (rfl) ?_
        refine z_iast hx hb hK hP hD hS 2 0 rfl rfl i rfl (by omega) (by decide) dX6_init_84 (fun H locs hP hD hS => ?_)
        have hP : va_P D vwCl ([(h, .inr (6, [.int 0, .ref q8, .ref q16, .int 0, .ref q25, .int 0, .int 1, .int (-7), .int (-1), .int 0, .int 0, .ref q50, .int 0])), (q8, .inl (cI, 768, .inl (fun _ => 0))), (q16, .inl (cI, 8, .inl (upd (y_rowK x y i) i (y_part x (nI i))))), (q25, .inl (cI, 192, .inl (fun _ => 0))), (q50, .inl (cI, 192, .inl (fun _ => 0)))]) _ := hP
        have hD : va_D A ([(h, .inr (6, [.int 0, .ref q8, .ref q16, .int 0, .ref q25, .int 0, .int 1, .int (-7), .int (-1), .int 0, .int 0, .ref q50, .int 0])), (q8, .inl (cI, 768, .inl (fun _ => 0))), (q16, .inl (cI, 8, .inl (upd (y_rowK x y i) i (y_part x (nI i))))), (q25, .inl (cI, 192, .inl (fun _ => 0))), (q50, .inl (cI, 192, .inl (fun _ => 0)))]) := hD
        refine lv_aload_n hx hb dX6_init_85 rfl (lv_at hl 0 rfl) ?_
        refine va_get (D := D) (ci := 6) (v := .ref q16) (C := RX6) (T := TX6) (N := 13) hx hb hts iX6_init_X6 hown hK hP 0 rfl rfl 2 (by decide) (hts _ qX6_init_6) (fun _ h9 => h9) rfl dX6_init_86 ?_
        refine lv_iconst (v := 4) hx hb dX6_init_89 (by decide) ?_
        refine lv_iload hx hb dX6_init_90 (lv_at hl 4 rfl) ?_
        refine lv_iadd hx hb dX6_init_92 ?_
        refine z_top (v := nI (4 + i)) (nI_add 4 i) ?_
        refine lv_iload_n hx hb dX6_init_93 rfl (lv_at hl 2 rfl) ?_
        refine lv_bipush (v := 24) hx hb dX6_init_94 (by decide) ?_
        refine lv_bipush (v := 8) hx hb dX6_init_96 (by decide) ?_
        refine lv_iload hx hb dX6_init_98 (lv_at hl 4 rfl) ?_
        refine lv_imul hx hb dX6_init_100 ?_
        refine lv_isub hx hb dX6_init_101 ?_
        refine lv_ishr hx hb dX6_init_102 ?_
        refine lv_sipush (v := 255) hx hb dX6_init_103 (by decide) ?_
        refine lv_iand hx hb dX6_init_106 ?_
        refine z_top (v := y_part y (nI i)) (rfl) ?_
        refine z_iast hx hb hK hP hD hS 2 0 rfl rfl (4 + i) rfl (by omega) (by decide) dX6_init_107 (fun H locs hP hD hS => ?_)
        have hP : va_P D vwCl ([(h, .inr (6, [.int 0, .ref q8, .ref q16, .int 0, .ref q25, .int 0, .int 1, .int (-7), .int (-1), .int 0, .int 0, .ref q50, .int 0])), (q8, .inl (cI, 768, .inl (fun _ => 0))), (q16, .inl (cI, 8, .inl (upd (upd (y_rowK x y i) i (y_part x (nI i))) (4 + i) (y_part y (nI i))))), (q25, .inl (cI, 192, .inl (fun _ => 0))), (q50, .inl (cI, 192, .inl (fun _ => 0)))]) _ := hP
        have hD : va_D A ([(h, .inr (6, [.int 0, .ref q8, .ref q16, .int 0, .ref q25, .int 0, .int 1, .int (-7), .int (-1), .int 0, .int 0, .ref q50, .int 0])), (q8, .inl (cI, 768, .inl (fun _ => 0))), (q16, .inl (cI, 8, .inl (upd (upd (y_rowK x y i) i (y_part x (nI i))) (4 + i) (y_part y (nI i))))), (q25, .inl (cI, 192, .inl (fun _ => 0))), (q50, .inl (cI, 192, .inl (fun _ => 0)))]) := hD
        refine lv_iinc (v := (nI (i + 1))) (lv' := [(4, .int (nI (i + 1))), (0, .ref h), (1, .int x), (2, .int y), (3, .int vd)]) hx hb dX6_init_108 hl (k := 4) rfl (z_inc _ _ rfl) (by decide) rfl (fun ls hl => ?_)
        refine lv_goto (tgt := 58) hx hb dX6_init_111 (by decide) ?_
        exact ih_58 (i + 1) _ _ _ (by omega) (by omega) hP hD hS (lv_sub hl [1, 2, 3, 4, 0] rfl)
  exact lp_58 _ 0 _ _ _ (Nat.zero_le _) (Nat.lt_succ_self _) hP hD hS (lv_sub hl [1, 2, 3, 4, 0] rfl)
abbrev rm_X5_init : Room := { frames := 2, cells := 11, slots := 1197, locals := 63 }
set_option maxRecDepth 20000 in
theorem qX5_init_1 : (Cond.methodLink RX5 3 objectInit : Cond) ∈ wsX5_init := List.mem_of_getElem? (i := 1) rfl
set_option maxRecDepth 20000 in
theorem qX5_init_2 : (Cond.instanceMethod objectInit : Cond) ∈ wsX5_init := List.mem_of_getElem? (i := 2) rfl
set_option maxRecDepth 20000 in
theorem qX5_init_3 : (Cond.code objectInit ⟨#[0xb1]⟩ 1 none : Cond) ∈ wsX5_init := List.mem_of_getElem? (i := 3) rfl
set_option maxRecDepth 20000 in
theorem iX5_init_X0 : ∀ w ∈ wsX00, w ∈ wsX5_init := by decide +kernel
set_option maxRecDepth 20000 in
theorem qX5_init_4 : (Cond.classLink RX5 9 RX0 : Cond) ∈ wsX5_init := List.mem_of_getElem? (i := 4) rfl
set_option maxRecDepth 20000 in
theorem qX5_init_5 : (Cond.instantiable RX0 6 : Cond) ∈ wsX5_init := List.mem_of_getElem? (i := 5) rfl
set_option maxRecDepth 20000 in
theorem qX5_init_6 : (Cond.initialized RX0 : Cond) ∈ wsX5_init := List.mem_of_getElem? (i := 6) rfl
set_option maxRecDepth 20000 in
theorem qX5_init_28 : (Cond.methodLink RX5 11 yX0_init : Cond) ∈ wsX5_init := List.mem_of_getElem? (i := 28) rfl
set_option maxRecDepth 20000 in
theorem qX5_init_29 : (Cond.instanceMethod yX0_init : Cond) ∈ wsX5_init := List.mem_of_getElem? (i := 29) rfl
set_option maxRecDepth 20000 in
theorem iX5_init_X5 : ∀ w ∈ wsX50, w ∈ wsX5_init := by decide +kernel
set_option maxRecDepth 20000 in
theorem qX5_init_7 : (Cond.fieldLink RX5 12 "FlashBoot" "flash" "LFlashBoot$Flash;" : Cond) ∈ wsX5_init := List.mem_of_getElem? (i := 7) rfl
set_option maxRecDepth 20000 in
theorem iX5_init_X4 : ∀ w ∈ wsX40, w ∈ wsX5_init := by decide +kernel
set_option maxRecDepth 20000 in
theorem qX5_init_8 : (Cond.classLink RX5 16 RX4 : Cond) ∈ wsX5_init := List.mem_of_getElem? (i := 8) rfl
set_option maxRecDepth 20000 in
theorem qX5_init_9 : (Cond.instantiable RX4 2 : Cond) ∈ wsX5_init := List.mem_of_getElem? (i := 9) rfl
set_option maxRecDepth 20000 in
theorem qX5_init_10 : (Cond.initialized RX4 : Cond) ∈ wsX5_init := List.mem_of_getElem? (i := 10) rfl
set_option maxRecDepth 20000 in
theorem qX5_init_39 : (Cond.instanceMethod yX4_init : Cond) ∈ wsX5_init := List.mem_of_getElem? (i := 39) rfl
set_option maxRecDepth 20000 in
theorem qX5_init_11 : (Cond.fieldLink RX5 19 "FlashBoot" "tape" "LFlashBoot$Tape;" : Cond) ∈ wsX5_init := List.mem_of_getElem? (i := 11) rfl
set_option maxRecDepth 20000 in
theorem iX5_init_X3 : ∀ w ∈ wsX30, w ∈ wsX5_init := by decide +kernel
set_option maxRecDepth 20000 in
theorem qX5_init_12 : (Cond.classLink RX5 23 RX3 : Cond) ∈ wsX5_init := List.mem_of_getElem? (i := 12) rfl
set_option maxRecDepth 20000 in
theorem qX5_init_13 : (Cond.instantiable RX3 3 : Cond) ∈ wsX5_init := List.mem_of_getElem? (i := 13) rfl
set_option maxRecDepth 20000 in
theorem qX5_init_14 : (Cond.initialized RX3 : Cond) ∈ wsX5_init := List.mem_of_getElem? (i := 14) rfl
set_option maxRecDepth 20000 in
theorem qX5_init_44 : (Cond.methodLink RX5 25 yX3_init : Cond) ∈ wsX5_init := List.mem_of_getElem? (i := 44) rfl
set_option maxRecDepth 20000 in
theorem qX5_init_45 : (Cond.instanceMethod yX3_init : Cond) ∈ wsX5_init := List.mem_of_getElem? (i := 45) rfl
set_option maxRecDepth 20000 in
theorem qX5_init_15 : (Cond.fieldLink RX5 28 "FlashBoot" "lower" "LFlashBoot$Slot;" : Cond) ∈ wsX5_init := List.mem_of_getElem? (i := 15) rfl
set_option maxRecDepth 20000 in
theorem qX5_init_16 : (Cond.fieldLink RX5 32 "FlashBoot" "upper" "LFlashBoot$Slot;" : Cond) ∈ wsX5_init := List.mem_of_getElem? (i := 16) rfl
set_option maxRecDepth 20000 in
theorem iX5_init_X1 : ∀ w ∈ wsX10, w ∈ wsX5_init := by decide +kernel
set_option maxRecDepth 20000 in
theorem qX5_init_17 : (Cond.classLink RX5 35 RX1 : Cond) ∈ wsX5_init := List.mem_of_getElem? (i := 17) rfl
set_option maxRecDepth 20000 in
theorem qX5_init_18 : (Cond.instantiable RX1 1 : Cond) ∈ wsX5_init := List.mem_of_getElem? (i := 18) rfl
set_option maxRecDepth 20000 in
theorem qX5_init_19 : (Cond.initialized RX1 : Cond) ∈ wsX5_init := List.mem_of_getElem? (i := 19) rfl
set_option maxRecDepth 20000 in
theorem qX5_init_51 : (Cond.instanceMethod yX1_init : Cond) ∈ wsX5_init := List.mem_of_getElem? (i := 51) rfl
set_option maxRecDepth 20000 in
theorem qX5_init_20 : (Cond.fieldLink RX5 38 "FlashBoot" "order" "LFlashBoot$Manifest;" : Cond) ∈ wsX5_init := List.mem_of_getElem? (i := 20) rfl
set_option maxRecDepth 20000 in
theorem iX5_init_X2 : ∀ w ∈ wsX20, w ∈ wsX5_init := by decide +kernel
set_option maxRecDepth 20000 in
theorem qX5_init_21 : (Cond.classLink RX5 42 RX2 : Cond) ∈ wsX5_init := List.mem_of_getElem? (i := 21) rfl
set_option maxRecDepth 20000 in
theorem qX5_init_22 : (Cond.instantiable RX2 2 : Cond) ∈ wsX5_init := List.mem_of_getElem? (i := 22) rfl
set_option maxRecDepth 20000 in
theorem qX5_init_23 : (Cond.initialized RX2 : Cond) ∈ wsX5_init := List.mem_of_getElem? (i := 23) rfl
set_option maxRecDepth 20000 in
theorem qX5_init_55 : (Cond.instanceMethod yX2_init : Cond) ∈ wsX5_init := List.mem_of_getElem? (i := 55) rfl
set_option maxRecDepth 20000 in
theorem qX5_init_24 : (Cond.fieldLink RX5 45 "FlashBoot" "patch" "LFlashBoot$Patch;" : Cond) ∈ wsX5_init := List.mem_of_getElem? (i := 24) rfl
set_option maxRecDepth 20000 in
theorem qX5_init_25 : (Cond.fieldLink RX5 49 "FlashBoot" "runs" "I" : Cond) ∈ wsX5_init := List.mem_of_getElem? (i := 25) rfl
set_option maxRecDepth 20000 in
theorem qX5_init_26 : (Cond.fieldLink RX5 57 "FlashBoot" "keyBytes" "[I" : Cond) ∈ wsX5_init := List.mem_of_getElem? (i := 26) rfl
set_option maxRecDepth 20000 in
theorem qX5_init_27 : (Cond.fieldLink RX5 61 "FlashBoot" "vendorByte" "I" : Cond) ∈ wsX5_init := List.mem_of_getElem? (i := 27) rfl
set_option maxHeartbeats 4000000 in
set_option maxRecDepth 100000 in
theorem k_X5_init (l : Launch) (D : va_G) (cI : ClassId) (h : Nat) (x y vd : Int32)  : zMI (S := Nat → Nat) l D cI yX5_init wsX5_init rm_X5_init [.ref h, .int x, .int y, .int vd] ([(h, .inr (5, [.null, .int 0, .null, .null, .null, .null, .null, .null, .int 0]))]) (fun ad => ad 0 = h) (fun ad => cW cI ad (z_rowK x y 4) (vd &&& 255) (z_fl 768) 1 0 0 0 0 (fun _ => 0) 0 (fun _ => 0) (fun _ => 0) 0 (-7)) 11 1197 := by
  refine zEntI (cc := cX5_init) (maxL := 4) (ret := none) (own := RX5) (lvs := [(0, .ref h), (1, .int x), (2, .int y), (3, .int vd)]) (by decide) rfl rfl (Nat.le_of_ble_eq_true rfl) rfl ?_
  intro p0 e s m args below meth c Q ls A hx hb hml hts hown hin hP hK hN hD hS hA hl hret
  refine lv_aload_n hx hb dX5_init_0 rfl (lv_at hl 0 rfl) ?_
  refine W.objInit hx hb hown (hts _ qX5_init_1) (hts _ qX5_init_2) (hts _ qX5_init_3) rfl (by rw [hml]; exact hl.1) rfl dX5_init_1 (Nat.le_of_ble_eq_true rfl) (Nat.le_of_ble_eq_true rfl) ?_
  refine W.eq (g2 := F0 m 4 ls []) rfl ?_
  refine lv_aload_n hx hb dX5_init_4 rfl (lv_at hl 0 rfl) ?_
  refine va_new (ci := 0) (fs := [.null, .int 0, .int 0, .int 0, .int 0, .int 0]) (C := RX0) (T := TX0) (N := 6) hx hb hts iX5_init_X0 tyX0 tyX0_ok hown (hts _ qX5_init_4) (hts _ qX5_init_5) (hts _ qX5_init_6) hK hP hD hS hA rfl (fun j hj => by rcases (show j = 0 ∨ j = 1 ∨ j = 2 ∨ j = 3 ∨ j = 4 ∨ j = 5 by omega) with rfl | rfl | rfl | rfl | rfl | rfl <;> rfl) (Nat.le_of_ble_eq_true rfl) (Nat.le_of_ble_eq_true rfl) dX5_init_5 (fun q5 H hP hD hS => ?_)
  have hP : va_P D vwCl ([(h, .inr (5, [.null, .int 0, .null, .null, .null, .null, .null, .null, .int 0])), (q5, .inr (0, [.null, .int 0, .int 0, .int 0, .int 0, .int 0]))]) _ := hP
  have hD : va_D A ([(h, .inr (5, [.null, .int 0, .null, .null, .null, .null, .null, .null, .int 0])), (q5, .inr (0, [.null, .int 0, .int 0, .int 0, .int 0, .int 0]))]) := hD
  refine W.widen (k := 1) (n := 6) (by omega) (by omega) ?_
  refine lv_dup hx hb dX5_init_8 rfl ?_
  refine zCI (As := []) (rest := [.ref q5, .ref h]) (wr := [(h, .inr (5, [.null, .int 0, .null, .null, .null, .null, .null, .null, .int 0]))]) ⟨hx, hb, hml, hown, hts⟩ (k_X0_init l D cI q5) (cwI 0 hts gX5_init_X0_init rfl rfl rfl (hts _ qX5_init_6) (hts _ qX5_init_28) (hts _ qX5_init_29) rfl (by decide +kernel) ⟨Nat.le_of_ble_eq_true rfl, Nat.le_of_ble_eq_true rfl⟩) hP hK hN hD hS hA [1] [0] rfl rfl rfl (by decide) (by decide) (by decide) rfl hl.1 rfl (Nat.le_of_ble_eq_true rfl) dX5_init_9 ⟨Nat.le_of_ble_eq_true rfl, Nat.le_of_ble_eq_true rfl⟩ (fun u_9 H locs hu_9 hP hD hS => ?_)
  have hP : va_P D vwCl ([(h, .inr (5, [.null, .int 0, .null, .null, .null, .null, .null, .null, .int 0])), (q5, .inr (0, [.ref u_9, .int 1, .int 0, .int 0, .int 0, .int 0])), (u_9, .inl (cI, 768, .inl (z_fl 768)))]) _ := hP
  have hD : va_D A ([(h, .inr (5, [.null, .int 0, .null, .null, .null, .null, .null, .null, .int 0])), (q5, .inr (0, [.ref u_9, .int 1, .int 0, .int 0, .int 0, .int 0])), (u_9, .inl (cI, 768, .inl (z_fl 768)))]) := hD
  refine W.eq (g2 := F0 m 12 ls [.ref q5, .ref h]) rfl ?_
  refine W.widen (k := 2) (n := 774) (by omega) (by omega) ?_
  refine va_putF (D := D) (ci := 5) (v := .ref q5) (ty := (.object "FlashBoot$Flash")) (C := RX5) (T := TX5) (N := 9) hx hb hts iX5_init_X5 tyX5 tyX5_ok nmX5 hown hK hP hD hS 0 rfl rfl 2 (by decide) (hts _ qX5_init_7) (fun _ h9 => h9) rfl hin rfl (by decide +kernel) rfl rfl (Nat.le_of_ble_eq_true rfl) dX5_init_12 (fun H locs hP hD hS => ?_)
  have hP : va_P D vwCl ([(h, .inr (5, [.null, .int 0, .ref q5, .null, .null, .null, .null, .null, .int 0])), (q5, .inr (0, [.ref u_9, .int 1, .int 0, .int 0, .int 0, .int 0])), (u_9, .inl (cI, 768, .inl (z_fl 768)))]) _ := hP
  have hD : va_D A ([(h, .inr (5, [.null, .int 0, .ref q5, .null, .null, .null, .null, .null, .int 0])), (q5, .inr (0, [.ref u_9, .int 1, .int 0, .int 0, .int 0, .int 0])), (u_9, .inl (cI, 768, .inl (z_fl 768)))]) := hD
  refine lv_aload_n hx hb dX5_init_15 rfl (lv_at hl 0 rfl) ?_
  refine va_new (ci := 4) (fs := [.null, .int 0]) (C := RX4) (T := TX4) (N := 2) hx hb hts iX5_init_X4 tyX4 tyX4_ok hown (hts _ qX5_init_8) (hts _ qX5_init_9) (hts _ qX5_init_10) hK hP hD hS hA rfl (fun j hj => by rcases (show j = 0 ∨ j = 1 by omega) with rfl | rfl <;> rfl) (Nat.le_of_ble_eq_true rfl) (Nat.le_of_ble_eq_true rfl) dX5_init_16 (fun q16 H hP hD hS => ?_)
  have hP : va_P D vwCl ([(h, .inr (5, [.null, .int 0, .ref q5, .null, .null, .null, .null, .null, .int 0])), (q5, .inr (0, [.ref u_9, .int 1, .int 0, .int 0, .int 0, .int 0])), (u_9, .inl (cI, 768, .inl (z_fl 768))), (q16, .inr (4, [.null, .int 0]))]) _ := hP
  have hD : va_D A ([(h, .inr (5, [.null, .int 0, .ref q5, .null, .null, .null, .null, .null, .int 0])), (q5, .inr (0, [.ref u_9, .int 1, .int 0, .int 0, .int 0, .int 0])), (u_9, .inl (cI, 768, .inl (z_fl 768))), (q16, .inr (4, [.null, .int 0]))]) := hD
  refine W.widen (k := 3) (n := 776) (by omega) (by omega) ?_
  refine lv_dup hx hb dX5_init_19 rfl ?_
  refine zCIN (As := []) (rest := [.ref q16, .ref h]) (wr := [(h, .inr (5, [.null, .int 0, .ref q5, .null, .null, .null, .null, .null, .int 0])), (q5, .inr (0, [.ref u_9, .int 1, .int 0, .int 0, .int 0, .int 0])), (u_9, .inl (cI, 768, .inl (z_fl 768)))]) ⟨hx, hb, hml, hown, hts⟩ (k_X4_init l D cI q16) ⟨va_cnB 0 hts gX5_init_X4_init_n18 rfl rfl rfl (zN_at hN 2 rfl) (hts _ qX5_init_10) (by decide +kernel) ⟨Nat.le_of_ble_eq_true rfl, Nat.le_of_ble_eq_true rfl⟩, rfl, hts _ qX5_init_39⟩ hP hK hN hD hS hA [3] [0, 1, 2] rfl rfl rfl (by decide) (by decide) (by decide) rfl hl.1 rfl (Nat.le_of_ble_eq_true rfl) dX5_init_20 ⟨Nat.le_of_ble_eq_true rfl, Nat.le_of_ble_eq_true rfl⟩ (fun u_20 H locs hu_20 hP hD hS => ?_)
  have hP : va_P D vwCl ([(h, .inr (5, [.null, .int 0, .ref q5, .null, .null, .null, .null, .null, .int 0])), (q5, .inr (0, [.ref u_9, .int 1, .int 0, .int 0, .int 0, .int 0])), (u_9, .inl (cI, 768, .inl (z_fl 768))), (q16, .inr (4, [.ref u_20, .int 0])), (u_20, .inl (cI, 192, .inl (fun _ => 0)))]) _ := hP
  have hD : va_D A ([(h, .inr (5, [.null, .int 0, .ref q5, .null, .null, .null, .null, .null, .int 0])), (q5, .inr (0, [.ref u_9, .int 1, .int 0, .int 0, .int 0, .int 0])), (u_9, .inl (cI, 768, .inl (z_fl 768))), (q16, .inr (4, [.ref u_20, .int 0])), (u_20, .inl (cI, 192, .inl (fun _ => 0)))]) := hD
  refine W.eq (g2 := F0 m 23 ls [.ref q16, .ref h]) rfl ?_
  refine W.widen (k := 4) (n := 968) (by omega) (by omega) ?_
  refine va_putF (D := D) (ci := 5) (v := .ref q16) (ty := (.object "FlashBoot$Tape")) (C := RX5) (T := TX5) (N := 9) hx hb hts iX5_init_X5 tyX5 tyX5_ok nmX5 hown hK hP hD hS 0 rfl rfl 3 (by decide) (hts _ qX5_init_11) (fun _ h9 => h9) rfl hin rfl (by decide +kernel) rfl rfl (Nat.le_of_ble_eq_true rfl) dX5_init_23 (fun H locs hP hD hS => ?_)
  have hP : va_P D vwCl ([(h, .inr (5, [.null, .int 0, .ref q5, .ref q16, .null, .null, .null, .null, .int 0])), (q5, .inr (0, [.ref u_9, .int 1, .int 0, .int 0, .int 0, .int 0])), (u_9, .inl (cI, 768, .inl (z_fl 768))), (q16, .inr (4, [.ref u_20, .int 0])), (u_20, .inl (cI, 192, .inl (fun _ => 0)))]) _ := hP
  have hD : va_D A ([(h, .inr (5, [.null, .int 0, .ref q5, .ref q16, .null, .null, .null, .null, .int 0])), (q5, .inr (0, [.ref u_9, .int 1, .int 0, .int 0, .int 0, .int 0])), (u_9, .inl (cI, 768, .inl (z_fl 768))), (q16, .inr (4, [.ref u_20, .int 0])), (u_20, .inl (cI, 192, .inl (fun _ => 0)))]) := hD
  refine lv_aload_n hx hb dX5_init_26 rfl (lv_at hl 0 rfl) ?_
  refine va_new (ci := 3) (fs := [.int 0, .int 0, .int 0]) (C := RX3) (T := TX3) (N := 3) hx hb hts iX5_init_X3 tyX3 tyX3_ok hown (hts _ qX5_init_12) (hts _ qX5_init_13) (hts _ qX5_init_14) hK hP hD hS hA rfl (fun j hj => by rcases (show j = 0 ∨ j = 1 ∨ j = 2 by omega) with rfl | rfl | rfl <;> rfl) (Nat.le_of_ble_eq_true rfl) (Nat.le_of_ble_eq_true rfl) dX5_init_27 (fun q27 H hP hD hS => ?_)
  have hP : va_P D vwCl ([(h, .inr (5, [.null, .int 0, .ref q5, .ref q16, .null, .null, .null, .null, .int 0])), (q5, .inr (0, [.ref u_9, .int 1, .int 0, .int 0, .int 0, .int 0])), (u_9, .inl (cI, 768, .inl (z_fl 768))), (q16, .inr (4, [.ref u_20, .int 0])), (u_20, .inl (cI, 192, .inl (fun _ => 0))), (q27, .inr (3, [.int 0, .int 0, .int 0]))]) _ := hP
  have hD : va_D A ([(h, .inr (5, [.null, .int 0, .ref q5, .ref q16, .null, .null, .null, .null, .int 0])), (q5, .inr (0, [.ref u_9, .int 1, .int 0, .int 0, .int 0, .int 0])), (u_9, .inl (cI, 768, .inl (z_fl 768))), (q16, .inr (4, [.ref u_20, .int 0])), (u_20, .inl (cI, 192, .inl (fun _ => 0))), (q27, .inr (3, [.int 0, .int 0, .int 0]))]) := hD
  refine W.widen (k := 5) (n := 971) (by omega) (by omega) ?_
  refine lv_dup hx hb dX5_init_30 rfl ?_
  refine lv_iconst (v := 0) hx hb dX5_init_31 (by decide) ?_
  refine zCI (As := [.int 0]) (rest := [.ref q27, .ref h]) (wr := [(h, .inr (5, [.null, .int 0, .ref q5, .ref q16, .null, .null, .null, .null, .int 0])), (q5, .inr (0, [.ref u_9, .int 1, .int 0, .int 0, .int 0, .int 0])), (u_9, .inl (cI, 768, .inl (z_fl 768))), (q16, .inr (4, [.ref u_20, .int 0])), (u_20, .inl (cI, 192, .inl (fun _ => 0)))]) ⟨hx, hb, hml, hown, hts⟩ (k_X3_init l D cI q27 0 0 192 (by decide) (by decide)) (cwI 1 hts gX5_init_X3_init rfl rfl rfl (hts _ qX5_init_14) (hts _ qX5_init_44) (hts _ qX5_init_45) rfl (by decide +kernel) ⟨Nat.le_of_ble_eq_true rfl, Nat.le_of_ble_eq_true rfl⟩) hP hK hN hD hS hA [5] [0, 1, 2, 3, 4] rfl rfl rfl (by decide) (by decide) (by decide) rfl hl.1 rfl (Nat.le_of_ble_eq_true rfl) dX5_init_32 ⟨Nat.le_of_ble_eq_true rfl, Nat.le_of_ble_eq_true rfl⟩ (fun u_32 H locs hu_32 hP hD hS => ?_)
  have hP : va_P D vwCl ([(h, .inr (5, [.null, .int 0, .ref q5, .ref q16, .null, .null, .null, .null, .int 0])), (q5, .inr (0, [.ref u_9, .int 1, .int 0, .int 0, .int 0, .int 0])), (u_9, .inl (cI, 768, .inl (z_fl 768))), (q16, .inr (4, [.ref u_20, .int 0])), (u_20, .inl (cI, 192, .inl (fun _ => 0))), (q27, .inr (3, [.int 0, .int 0, .int 192]))]) _ := hP
  have hD : va_D A ([(h, .inr (5, [.null, .int 0, .ref q5, .ref q16, .null, .null, .null, .null, .int 0])), (q5, .inr (0, [.ref u_9, .int 1, .int 0, .int 0, .int 0, .int 0])), (u_9, .inl (cI, 768, .inl (z_fl 768))), (q16, .inr (4, [.ref u_20, .int 0])), (u_20, .inl (cI, 192, .inl (fun _ => 0))), (q27, .inr (3, [.int 0, .int 0, .int 192]))]) := hD
  refine W.eq (g2 := F0 m 35 ls [.ref q27, .ref h]) rfl ?_
  refine W.widen (k := 5) (n := 971) (by omega) (by omega) ?_
  refine va_putF (D := D) (ci := 5) (v := .ref q27) (ty := (.object "FlashBoot$Slot")) (C := RX5) (T := TX5) (N := 9) hx hb hts iX5_init_X5 tyX5 tyX5_ok nmX5 hown hK hP hD hS 0 rfl rfl 4 (by decide) (hts _ qX5_init_15) (fun _ h9 => h9) rfl hin rfl (by decide +kernel) rfl rfl (Nat.le_of_ble_eq_true rfl) dX5_init_35 (fun H locs hP hD hS => ?_)
  have hP : va_P D vwCl ([(h, .inr (5, [.null, .int 0, .ref q5, .ref q16, .ref q27, .null, .null, .null, .int 0])), (q5, .inr (0, [.ref u_9, .int 1, .int 0, .int 0, .int 0, .int 0])), (u_9, .inl (cI, 768, .inl (z_fl 768))), (q16, .inr (4, [.ref u_20, .int 0])), (u_20, .inl (cI, 192, .inl (fun _ => 0))), (q27, .inr (3, [.int 0, .int 0, .int 192]))]) _ := hP
  have hD : va_D A ([(h, .inr (5, [.null, .int 0, .ref q5, .ref q16, .ref q27, .null, .null, .null, .int 0])), (q5, .inr (0, [.ref u_9, .int 1, .int 0, .int 0, .int 0, .int 0])), (u_9, .inl (cI, 768, .inl (z_fl 768))), (q16, .inr (4, [.ref u_20, .int 0])), (u_20, .inl (cI, 192, .inl (fun _ => 0))), (q27, .inr (3, [.int 0, .int 0, .int 192]))]) := hD
  refine lv_aload_n hx hb dX5_init_38 rfl (lv_at hl 0 rfl) ?_
  refine va_new (ci := 3) (fs := [.int 0, .int 0, .int 0]) (C := RX3) (T := TX3) (N := 3) hx hb hts iX5_init_X3 tyX3 tyX3_ok hown (hts _ qX5_init_12) (hts _ qX5_init_13) (hts _ qX5_init_14) hK hP hD hS hA rfl (fun j hj => by rcases (show j = 0 ∨ j = 1 ∨ j = 2 by omega) with rfl | rfl | rfl <;> rfl) (Nat.le_of_ble_eq_true rfl) (Nat.le_of_ble_eq_true rfl) dX5_init_39 (fun q39 H hP hD hS => ?_)
  have hP : va_P D vwCl ([(h, .inr (5, [.null, .int 0, .ref q5, .ref q16, .ref q27, .null, .null, .null, .int 0])), (q5, .inr (0, [.ref u_9, .int 1, .int 0, .int 0, .int 0, .int 0])), (u_9, .inl (cI, 768, .inl (z_fl 768))), (q16, .inr (4, [.ref u_20, .int 0])), (u_20, .inl (cI, 192, .inl (fun _ => 0))), (q27, .inr (3, [.int 0, .int 0, .int 192])), (q39, .inr (3, [.int 0, .int 0, .int 0]))]) _ := hP
  have hD : va_D A ([(h, .inr (5, [.null, .int 0, .ref q5, .ref q16, .ref q27, .null, .null, .null, .int 0])), (q5, .inr (0, [.ref u_9, .int 1, .int 0, .int 0, .int 0, .int 0])), (u_9, .inl (cI, 768, .inl (z_fl 768))), (q16, .inr (4, [.ref u_20, .int 0])), (u_20, .inl (cI, 192, .inl (fun _ => 0))), (q27, .inr (3, [.int 0, .int 0, .int 192])), (q39, .inr (3, [.int 0, .int 0, .int 0]))]) := hD
  refine W.widen (k := 6) (n := 974) (by omega) (by omega) ?_
  refine lv_dup hx hb dX5_init_42 rfl ?_
  refine lv_bipush (v := 7) hx hb dX5_init_43 (by decide) ?_
  refine zCI (As := [.int 7]) (rest := [.ref q39, .ref h]) (wr := [(h, .inr (5, [.null, .int 0, .ref q5, .ref q16, .ref q27, .null, .null, .null, .int 0])), (q5, .inr (0, [.ref u_9, .int 1, .int 0, .int 0, .int 0, .int 0])), (u_9, .inl (cI, 768, .inl (z_fl 768))), (q16, .inr (4, [.ref u_20, .int 0])), (u_20, .inl (cI, 192, .inl (fun _ => 0))), (q27, .inr (3, [.int 0, .int 0, .int 192]))]) ⟨hx, hb, hml, hown, hts⟩ (k_X3_init l D cI q39 7 224 416 (by decide) (by decide)) (cwI 1 hts gX5_init_X3_init rfl rfl rfl (hts _ qX5_init_14) (hts _ qX5_init_44) (hts _ qX5_init_45) rfl (by decide +kernel) ⟨Nat.le_of_ble_eq_true rfl, Nat.le_of_ble_eq_true rfl⟩) hP hK hN hD hS hA [6] [0, 1, 2, 3, 4, 5] rfl rfl rfl (by decide) (by decide) (by decide) rfl hl.1 rfl (Nat.le_of_ble_eq_true rfl) dX5_init_45 ⟨Nat.le_of_ble_eq_true rfl, Nat.le_of_ble_eq_true rfl⟩ (fun u_45 H locs hu_45 hP hD hS => ?_)
  have hP : va_P D vwCl ([(h, .inr (5, [.null, .int 0, .ref q5, .ref q16, .ref q27, .null, .null, .null, .int 0])), (q5, .inr (0, [.ref u_9, .int 1, .int 0, .int 0, .int 0, .int 0])), (u_9, .inl (cI, 768, .inl (z_fl 768))), (q16, .inr (4, [.ref u_20, .int 0])), (u_20, .inl (cI, 192, .inl (fun _ => 0))), (q27, .inr (3, [.int 0, .int 0, .int 192])), (q39, .inr (3, [.int 7, .int 224, .int 416]))]) _ := hP
  have hD : va_D A ([(h, .inr (5, [.null, .int 0, .ref q5, .ref q16, .ref q27, .null, .null, .null, .int 0])), (q5, .inr (0, [.ref u_9, .int 1, .int 0, .int 0, .int 0, .int 0])), (u_9, .inl (cI, 768, .inl (z_fl 768))), (q16, .inr (4, [.ref u_20, .int 0])), (u_20, .inl (cI, 192, .inl (fun _ => 0))), (q27, .inr (3, [.int 0, .int 0, .int 192])), (q39, .inr (3, [.int 7, .int 224, .int 416]))]) := hD
  refine W.eq (g2 := F0 m 48 ls [.ref q39, .ref h]) rfl ?_
  refine W.widen (k := 6) (n := 974) (by omega) (by omega) ?_
  refine va_putF (D := D) (ci := 5) (v := .ref q39) (ty := (.object "FlashBoot$Slot")) (C := RX5) (T := TX5) (N := 9) hx hb hts iX5_init_X5 tyX5 tyX5_ok nmX5 hown hK hP hD hS 0 rfl rfl 5 (by decide) (hts _ qX5_init_16) (fun _ h9 => h9) rfl hin rfl (by decide +kernel) rfl rfl (Nat.le_of_ble_eq_true rfl) dX5_init_48 (fun H locs hP hD hS => ?_)
  have hP : va_P D vwCl ([(h, .inr (5, [.null, .int 0, .ref q5, .ref q16, .ref q27, .ref q39, .null, .null, .int 0])), (q5, .inr (0, [.ref u_9, .int 1, .int 0, .int 0, .int 0, .int 0])), (u_9, .inl (cI, 768, .inl (z_fl 768))), (q16, .inr (4, [.ref u_20, .int 0])), (u_20, .inl (cI, 192, .inl (fun _ => 0))), (q27, .inr (3, [.int 0, .int 0, .int 192])), (q39, .inr (3, [.int 7, .int 224, .int 416]))]) _ := hP
  have hD : va_D A ([(h, .inr (5, [.null, .int 0, .ref q5, .ref q16, .ref q27, .ref q39, .null, .null, .int 0])), (q5, .inr (0, [.ref u_9, .int 1, .int 0, .int 0, .int 0, .int 0])), (u_9, .inl (cI, 768, .inl (z_fl 768))), (q16, .inr (4, [.ref u_20, .int 0])), (u_20, .inl (cI, 192, .inl (fun _ => 0))), (q27, .inr (3, [.int 0, .int 0, .int 192])), (q39, .inr (3, [.int 7, .int 224, .int 416]))]) := hD
  refine lv_aload_n hx hb dX5_init_51 rfl (lv_at hl 0 rfl) ?_
  refine va_new (ci := 1) (fs := [.null]) (C := RX1) (T := TX1) (N := 1) hx hb hts iX5_init_X1 tyX1 tyX1_ok hown (hts _ qX5_init_17) (hts _ qX5_init_18) (hts _ qX5_init_19) hK hP hD hS hA rfl (fun j hj => by rcases (show j = 0 by omega) with rfl <;> rfl) (Nat.le_of_ble_eq_true rfl) (Nat.le_of_ble_eq_true rfl) dX5_init_52 (fun q52 H hP hD hS => ?_)
  have hP : va_P D vwCl ([(h, .inr (5, [.null, .int 0, .ref q5, .ref q16, .ref q27, .ref q39, .null, .null, .int 0])), (q5, .inr (0, [.ref u_9, .int 1, .int 0, .int 0, .int 0, .int 0])), (u_9, .inl (cI, 768, .inl (z_fl 768))), (q16, .inr (4, [.ref u_20, .int 0])), (u_20, .inl (cI, 192, .inl (fun _ => 0))), (q27, .inr (3, [.int 0, .int 0, .int 192])), (q39, .inr (3, [.int 7, .int 224, .int 416])), (q52, .inr (1, [.null]))]) _ := hP
  have hD : va_D A ([(h, .inr (5, [.null, .int 0, .ref q5, .ref q16, .ref q27, .ref q39, .null, .null, .int 0])), (q5, .inr (0, [.ref u_9, .int 1, .int 0, .int 0, .int 0, .int 0])), (u_9, .inl (cI, 768, .inl (z_fl 768))), (q16, .inr (4, [.ref u_20, .int 0])), (u_20, .inl (cI, 192, .inl (fun _ => 0))), (q27, .inr (3, [.int 0, .int 0, .int 192])), (q39, .inr (3, [.int 7, .int 224, .int 416])), (q52, .inr (1, [.null]))]) := hD
  refine W.widen (k := 7) (n := 975) (by omega) (by omega) ?_
  refine lv_dup hx hb dX5_init_55 rfl ?_
  refine zCIN (As := []) (rest := [.ref q52, .ref h]) (wr := [(h, .inr (5, [.null, .int 0, .ref q5, .ref q16, .ref q27, .ref q39, .null, .null, .int 0])), (q5, .inr (0, [.ref u_9, .int 1, .int 0, .int 0, .int 0, .int 0])), (u_9, .inl (cI, 768, .inl (z_fl 768))), (q16, .inr (4, [.ref u_20, .int 0])), (u_20, .inl (cI, 192, .inl (fun _ => 0))), (q27, .inr (3, [.int 0, .int 0, .int 192])), (q39, .inr (3, [.int 7, .int 224, .int 416]))]) ⟨hx, hb, hml, hown, hts⟩ (k_X1_init l D cI q52) ⟨va_cnB 0 hts gX5_init_X1_init_n37 rfl rfl rfl (zN_at hN 7 rfl) (hts _ qX5_init_19) (by decide +kernel) ⟨Nat.le_of_ble_eq_true rfl, Nat.le_of_ble_eq_true rfl⟩, rfl, hts _ qX5_init_51⟩ hP hK hN hD hS hA [7] [0, 1, 2, 3, 4, 5, 6] rfl rfl rfl (by decide) (by decide) (by decide) rfl hl.1 rfl (Nat.le_of_ble_eq_true rfl) dX5_init_56 ⟨Nat.le_of_ble_eq_true rfl, Nat.le_of_ble_eq_true rfl⟩ (fun u_56 H locs hu_56 hP hD hS => ?_)
  have hP : va_P D vwCl ([(h, .inr (5, [.null, .int 0, .ref q5, .ref q16, .ref q27, .ref q39, .null, .null, .int 0])), (q5, .inr (0, [.ref u_9, .int 1, .int 0, .int 0, .int 0, .int 0])), (u_9, .inl (cI, 768, .inl (z_fl 768))), (q16, .inr (4, [.ref u_20, .int 0])), (u_20, .inl (cI, 192, .inl (fun _ => 0))), (q27, .inr (3, [.int 0, .int 0, .int 192])), (q39, .inr (3, [.int 7, .int 224, .int 416])), (q52, .inr (1, [.ref u_56])), (u_56, .inl (cI, 20, .inl (fun _ => 0)))]) _ := hP
  have hD : va_D A ([(h, .inr (5, [.null, .int 0, .ref q5, .ref q16, .ref q27, .ref q39, .null, .null, .int 0])), (q5, .inr (0, [.ref u_9, .int 1, .int 0, .int 0, .int 0, .int 0])), (u_9, .inl (cI, 768, .inl (z_fl 768))), (q16, .inr (4, [.ref u_20, .int 0])), (u_20, .inl (cI, 192, .inl (fun _ => 0))), (q27, .inr (3, [.int 0, .int 0, .int 192])), (q39, .inr (3, [.int 7, .int 224, .int 416])), (q52, .inr (1, [.ref u_56])), (u_56, .inl (cI, 20, .inl (fun _ => 0)))]) := hD
  refine W.eq (g2 := F0 m 59 ls [.ref q52, .ref h]) rfl ?_
  refine W.widen (k := 8) (n := 995) (by omega) (by omega) ?_
  refine va_putF (D := D) (ci := 5) (v := .ref q52) (ty := (.object "FlashBoot$Manifest")) (C := RX5) (T := TX5) (N := 9) hx hb hts iX5_init_X5 tyX5 tyX5_ok nmX5 hown hK hP hD hS 0 rfl rfl 6 (by decide) (hts _ qX5_init_20) (fun _ h9 => h9) rfl hin rfl (by decide +kernel) rfl rfl (Nat.le_of_ble_eq_true rfl) dX5_init_59 (fun H locs hP hD hS => ?_)
  have hP : va_P D vwCl ([(h, .inr (5, [.null, .int 0, .ref q5, .ref q16, .ref q27, .ref q39, .ref q52, .null, .int 0])), (q5, .inr (0, [.ref u_9, .int 1, .int 0, .int 0, .int 0, .int 0])), (u_9, .inl (cI, 768, .inl (z_fl 768))), (q16, .inr (4, [.ref u_20, .int 0])), (u_20, .inl (cI, 192, .inl (fun _ => 0))), (q27, .inr (3, [.int 0, .int 0, .int 192])), (q39, .inr (3, [.int 7, .int 224, .int 416])), (q52, .inr (1, [.ref u_56])), (u_56, .inl (cI, 20, .inl (fun _ => 0)))]) _ := hP
  have hD : va_D A ([(h, .inr (5, [.null, .int 0, .ref q5, .ref q16, .ref q27, .ref q39, .ref q52, .null, .int 0])), (q5, .inr (0, [.ref u_9, .int 1, .int 0, .int 0, .int 0, .int 0])), (u_9, .inl (cI, 768, .inl (z_fl 768))), (q16, .inr (4, [.ref u_20, .int 0])), (u_20, .inl (cI, 192, .inl (fun _ => 0))), (q27, .inr (3, [.int 0, .int 0, .int 192])), (q39, .inr (3, [.int 7, .int 224, .int 416])), (q52, .inr (1, [.ref u_56])), (u_56, .inl (cI, 20, .inl (fun _ => 0)))]) := hD
  refine lv_aload_n hx hb dX5_init_62 rfl (lv_at hl 0 rfl) ?_
  refine va_new (ci := 2) (fs := [.null, .int 0]) (C := RX2) (T := TX2) (N := 2) hx hb hts iX5_init_X2 tyX2 tyX2_ok hown (hts _ qX5_init_21) (hts _ qX5_init_22) (hts _ qX5_init_23) hK hP hD hS hA rfl (fun j hj => by rcases (show j = 0 ∨ j = 1 by omega) with rfl | rfl <;> rfl) (Nat.le_of_ble_eq_true rfl) (Nat.le_of_ble_eq_true rfl) dX5_init_63 (fun q63 H hP hD hS => ?_)
  have hP : va_P D vwCl ([(h, .inr (5, [.null, .int 0, .ref q5, .ref q16, .ref q27, .ref q39, .ref q52, .null, .int 0])), (q5, .inr (0, [.ref u_9, .int 1, .int 0, .int 0, .int 0, .int 0])), (u_9, .inl (cI, 768, .inl (z_fl 768))), (q16, .inr (4, [.ref u_20, .int 0])), (u_20, .inl (cI, 192, .inl (fun _ => 0))), (q27, .inr (3, [.int 0, .int 0, .int 192])), (q39, .inr (3, [.int 7, .int 224, .int 416])), (q52, .inr (1, [.ref u_56])), (u_56, .inl (cI, 20, .inl (fun _ => 0))), (q63, .inr (2, [.null, .int 0]))]) _ := hP
  have hD : va_D A ([(h, .inr (5, [.null, .int 0, .ref q5, .ref q16, .ref q27, .ref q39, .ref q52, .null, .int 0])), (q5, .inr (0, [.ref u_9, .int 1, .int 0, .int 0, .int 0, .int 0])), (u_9, .inl (cI, 768, .inl (z_fl 768))), (q16, .inr (4, [.ref u_20, .int 0])), (u_20, .inl (cI, 192, .inl (fun _ => 0))), (q27, .inr (3, [.int 0, .int 0, .int 192])), (q39, .inr (3, [.int 7, .int 224, .int 416])), (q52, .inr (1, [.ref u_56])), (u_56, .inl (cI, 20, .inl (fun _ => 0))), (q63, .inr (2, [.null, .int 0]))]) := hD
  refine W.widen (k := 9) (n := 997) (by omega) (by omega) ?_
  refine lv_dup hx hb dX5_init_66 rfl ?_
  refine zCIN (As := []) (rest := [.ref q63, .ref h]) (wr := [(h, .inr (5, [.null, .int 0, .ref q5, .ref q16, .ref q27, .ref q39, .ref q52, .null, .int 0])), (q5, .inr (0, [.ref u_9, .int 1, .int 0, .int 0, .int 0, .int 0])), (u_9, .inl (cI, 768, .inl (z_fl 768))), (q16, .inr (4, [.ref u_20, .int 0])), (u_20, .inl (cI, 192, .inl (fun _ => 0))), (q27, .inr (3, [.int 0, .int 0, .int 192])), (q39, .inr (3, [.int 7, .int 224, .int 416])), (q52, .inr (1, [.ref u_56])), (u_56, .inl (cI, 20, .inl (fun _ => 0)))]) ⟨hx, hb, hml, hown, hts⟩ (k_X2_init l D cI q63) ⟨va_cnB 0 hts gX5_init_X2_init_n44 rfl rfl rfl (zN_at hN 9 rfl) (hts _ qX5_init_23) (by decide +kernel) ⟨Nat.le_of_ble_eq_true rfl, Nat.le_of_ble_eq_true rfl⟩, rfl, hts _ qX5_init_55⟩ hP hK hN hD hS hA [9] [0, 1, 2, 3, 4, 5, 6, 7, 8] rfl rfl rfl (by decide) (by decide) (by decide) rfl hl.1 rfl (Nat.le_of_ble_eq_true rfl) dX5_init_67 ⟨Nat.le_of_ble_eq_true rfl, Nat.le_of_ble_eq_true rfl⟩ (fun u_67 H locs hu_67 hP hD hS => ?_)
  have hP : va_P D vwCl ([(h, .inr (5, [.null, .int 0, .ref q5, .ref q16, .ref q27, .ref q39, .ref q52, .null, .int 0])), (q5, .inr (0, [.ref u_9, .int 1, .int 0, .int 0, .int 0, .int 0])), (u_9, .inl (cI, 768, .inl (z_fl 768))), (q16, .inr (4, [.ref u_20, .int 0])), (u_20, .inl (cI, 192, .inl (fun _ => 0))), (q27, .inr (3, [.int 0, .int 0, .int 192])), (q39, .inr (3, [.int 7, .int 224, .int 416])), (q52, .inr (1, [.ref u_56])), (u_56, .inl (cI, 20, .inl (fun _ => 0))), (q63, .inr (2, [.ref u_67, .int 0])), (u_67, .inl (cI, 192, .inl (fun _ => 0)))]) _ := hP
  have hD : va_D A ([(h, .inr (5, [.null, .int 0, .ref q5, .ref q16, .ref q27, .ref q39, .ref q52, .null, .int 0])), (q5, .inr (0, [.ref u_9, .int 1, .int 0, .int 0, .int 0, .int 0])), (u_9, .inl (cI, 768, .inl (z_fl 768))), (q16, .inr (4, [.ref u_20, .int 0])), (u_20, .inl (cI, 192, .inl (fun _ => 0))), (q27, .inr (3, [.int 0, .int 0, .int 192])), (q39, .inr (3, [.int 7, .int 224, .int 416])), (q52, .inr (1, [.ref u_56])), (u_56, .inl (cI, 20, .inl (fun _ => 0))), (q63, .inr (2, [.ref u_67, .int 0])), (u_67, .inl (cI, 192, .inl (fun _ => 0)))]) := hD
  refine W.eq (g2 := F0 m 70 ls [.ref q63, .ref h]) rfl ?_
  refine W.widen (k := 10) (n := 1189) (by omega) (by omega) ?_
  refine va_putF (D := D) (ci := 5) (v := .ref q63) (ty := (.object "FlashBoot$Patch")) (C := RX5) (T := TX5) (N := 9) hx hb hts iX5_init_X5 tyX5 tyX5_ok nmX5 hown hK hP hD hS 0 rfl rfl 7 (by decide) (hts _ qX5_init_24) (fun _ h9 => h9) rfl hin rfl (by decide +kernel) rfl rfl (Nat.le_of_ble_eq_true rfl) dX5_init_70 (fun H locs hP hD hS => ?_)
  have hP : va_P D vwCl ([(h, .inr (5, [.null, .int 0, .ref q5, .ref q16, .ref q27, .ref q39, .ref q52, .ref q63, .int 0])), (q5, .inr (0, [.ref u_9, .int 1, .int 0, .int 0, .int 0, .int 0])), (u_9, .inl (cI, 768, .inl (z_fl 768))), (q16, .inr (4, [.ref u_20, .int 0])), (u_20, .inl (cI, 192, .inl (fun _ => 0))), (q27, .inr (3, [.int 0, .int 0, .int 192])), (q39, .inr (3, [.int 7, .int 224, .int 416])), (q52, .inr (1, [.ref u_56])), (u_56, .inl (cI, 20, .inl (fun _ => 0))), (q63, .inr (2, [.ref u_67, .int 0])), (u_67, .inl (cI, 192, .inl (fun _ => 0)))]) _ := hP
  have hD : va_D A ([(h, .inr (5, [.null, .int 0, .ref q5, .ref q16, .ref q27, .ref q39, .ref q52, .ref q63, .int 0])), (q5, .inr (0, [.ref u_9, .int 1, .int 0, .int 0, .int 0, .int 0])), (u_9, .inl (cI, 768, .inl (z_fl 768))), (q16, .inr (4, [.ref u_20, .int 0])), (u_20, .inl (cI, 192, .inl (fun _ => 0))), (q27, .inr (3, [.int 0, .int 0, .int 192])), (q39, .inr (3, [.int 7, .int 224, .int 416])), (q52, .inr (1, [.ref u_56])), (u_56, .inl (cI, 20, .inl (fun _ => 0))), (q63, .inr (2, [.ref u_67, .int 0])), (u_67, .inl (cI, 192, .inl (fun _ => 0)))]) := hD
  refine lv_aload_n hx hb dX5_init_73 rfl (lv_at hl 0 rfl) ?_
  refine lv_bipush (v := (-7)) hx hb dX5_init_74 (by decide) ?_
  refine va_put (D := D) (ci := 5) (v := .int (-7)) (ty := .int) (C := RX5) (T := TX5) (N := 9) hx hb hts iX5_init_X5 tyX5 tyX5_ok nmX5 hown hK hP hD hS 0 rfl rfl 8 (by decide) (hts _ qX5_init_25) (fun _ h9 => h9) rfl (by decide +kernel) rfl rfl (Nat.le_of_ble_eq_true rfl) dX5_init_76 (fun H locs hP hD hS => ?_)
  have hP : va_P D vwCl ([(h, .inr (5, [.null, .int 0, .ref q5, .ref q16, .ref q27, .ref q39, .ref q52, .ref q63, .int (-7)])), (q5, .inr (0, [.ref u_9, .int 1, .int 0, .int 0, .int 0, .int 0])), (u_9, .inl (cI, 768, .inl (z_fl 768))), (q16, .inr (4, [.ref u_20, .int 0])), (u_20, .inl (cI, 192, .inl (fun _ => 0))), (q27, .inr (3, [.int 0, .int 0, .int 192])), (q39, .inr (3, [.int 7, .int 224, .int 416])), (q52, .inr (1, [.ref u_56])), (u_56, .inl (cI, 20, .inl (fun _ => 0))), (q63, .inr (2, [.ref u_67, .int 0])), (u_67, .inl (cI, 192, .inl (fun _ => 0)))]) _ := hP
  have hD : va_D A ([(h, .inr (5, [.null, .int 0, .ref q5, .ref q16, .ref q27, .ref q39, .ref q52, .ref q63, .int (-7)])), (q5, .inr (0, [.ref u_9, .int 1, .int 0, .int 0, .int 0, .int 0])), (u_9, .inl (cI, 768, .inl (z_fl 768))), (q16, .inr (4, [.ref u_20, .int 0])), (u_20, .inl (cI, 192, .inl (fun _ => 0))), (q27, .inr (3, [.int 0, .int 0, .int 192])), (q39, .inr (3, [.int 7, .int 224, .int 416])), (q52, .inr (1, [.ref u_56])), (u_56, .inl (cI, 20, .inl (fun _ => 0))), (q63, .inr (2, [.ref u_67, .int 0])), (u_67, .inl (cI, 192, .inl (fun _ => 0)))]) := hD
  refine lv_aload_n hx hb dX5_init_79 rfl (lv_at hl 0 rfl) ?_
  refine lv_iload_n hx hb dX5_init_80 rfl (lv_at hl 1 rfl) ?_
  refine lv_iload_n hx hb dX5_init_81 rfl (lv_at hl 2 rfl) ?_
  refine zCIR (As := [.int x, .int y]) (rest := [.ref h]) (wr := [(h, .inr (5, [.null, .int 0, .ref q5, .ref q16, .ref q27, .ref q39, .ref q52, .ref q63, .int (-7)])), (q5, .inr (0, [.ref u_9, .int 1, .int 0, .int 0, .int 0, .int 0])), (u_9, .inl (cI, 768, .inl (z_fl 768))), (q16, .inr (4, [.ref u_20, .int 0])), (u_20, .inl (cI, 192, .inl (fun _ => 0))), (q27, .inr (3, [.int 0, .int 0, .int 192])), (q39, .inr (3, [.int 7, .int 224, .int 416])), (q52, .inr (1, [.ref u_56])), (u_56, .inl (cI, 20, .inl (fun _ => 0))), (q63, .inr (2, [.ref u_67, .int 0])), (u_67, .inl (cI, 192, .inl (fun _ => 0)))]) ⟨hx, hb, hml, hown, hts⟩ (k_X5_rowOfWords l D cI x y) (va_cwS 2 hts gX5_init_X5_rowOfWords rfl rfl rfl (by decide +kernel) ⟨Nat.le_of_ble_eq_true rfl, Nat.le_of_ble_eq_true rfl⟩) hP hK hN hD hS hA [] [0, 1, 2, 3, 4, 5, 6, 7, 8, 9, 10] rfl rfl rfl (by decide) (by decide) (by decide) rfl hl.1 rfl (Nat.le_of_ble_eq_true rfl) dX5_init_82 ⟨Nat.le_of_ble_eq_true rfl, Nat.le_of_ble_eq_true rfl⟩ (fun u_82 H locs hu_82 hP hD hS => ?_)
  have hP : va_P D vwCl ([(h, .inr (5, [.null, .int 0, .ref q5, .ref q16, .ref q27, .ref q39, .ref q52, .ref q63, .int (-7)])), (q5, .inr (0, [.ref u_9, .int 1, .int 0, .int 0, .int 0, .int 0])), (u_9, .inl (cI, 768, .inl (z_fl 768))), (q16, .inr (4, [.ref u_20, .int 0])), (u_20, .inl (cI, 192, .inl (fun _ => 0))), (q27, .inr (3, [.int 0, .int 0, .int 192])), (q39, .inr (3, [.int 7, .int 224, .int 416])), (q52, .inr (1, [.ref u_56])), (u_56, .inl (cI, 20, .inl (fun _ => 0))), (q63, .inr (2, [.ref u_67, .int 0])), (u_67, .inl (cI, 192, .inl (fun _ => 0))), (u_82, .inl (cI, 8, .inl (z_rowK x y 4)))]) _ := hP
  have hD : va_D A ([(h, .inr (5, [.null, .int 0, .ref q5, .ref q16, .ref q27, .ref q39, .ref q52, .ref q63, .int (-7)])), (q5, .inr (0, [.ref u_9, .int 1, .int 0, .int 0, .int 0, .int 0])), (u_9, .inl (cI, 768, .inl (z_fl 768))), (q16, .inr (4, [.ref u_20, .int 0])), (u_20, .inl (cI, 192, .inl (fun _ => 0))), (q27, .inr (3, [.int 0, .int 0, .int 192])), (q39, .inr (3, [.int 7, .int 224, .int 416])), (q52, .inr (1, [.ref u_56])), (u_56, .inl (cI, 20, .inl (fun _ => 0))), (q63, .inr (2, [.ref u_67, .int 0])), (u_67, .inl (cI, 192, .inl (fun _ => 0))), (u_82, .inl (cI, 8, .inl (z_rowK x y 4)))]) := hD
  refine W.eq (g2 := F0 m 85 ls [.ref u_82, .ref h]) rfl ?_
  refine W.widen (k := 11) (n := 1197) (by omega) (by omega) ?_
  refine va_putF (D := D) (ci := 5) (v := .ref u_82) (ty := (.array .int)) (C := RX5) (T := TX5) (N := 9) hx hb hts iX5_init_X5 tyX5 tyX5_ok nmX5 hown hK hP hD hS 0 rfl rfl 0 (by decide) (hts _ qX5_init_26) (fun _ h9 => h9) rfl hin rfl (by decide +kernel) rfl rfl (Nat.le_of_ble_eq_true rfl) dX5_init_85 (fun H locs hP hD hS => ?_)
  have hP : va_P D vwCl ([(h, .inr (5, [.ref u_82, .int 0, .ref q5, .ref q16, .ref q27, .ref q39, .ref q52, .ref q63, .int (-7)])), (q5, .inr (0, [.ref u_9, .int 1, .int 0, .int 0, .int 0, .int 0])), (u_9, .inl (cI, 768, .inl (z_fl 768))), (q16, .inr (4, [.ref u_20, .int 0])), (u_20, .inl (cI, 192, .inl (fun _ => 0))), (q27, .inr (3, [.int 0, .int 0, .int 192])), (q39, .inr (3, [.int 7, .int 224, .int 416])), (q52, .inr (1, [.ref u_56])), (u_56, .inl (cI, 20, .inl (fun _ => 0))), (q63, .inr (2, [.ref u_67, .int 0])), (u_67, .inl (cI, 192, .inl (fun _ => 0))), (u_82, .inl (cI, 8, .inl (z_rowK x y 4)))]) _ := hP
  have hD : va_D A ([(h, .inr (5, [.ref u_82, .int 0, .ref q5, .ref q16, .ref q27, .ref q39, .ref q52, .ref q63, .int (-7)])), (q5, .inr (0, [.ref u_9, .int 1, .int 0, .int 0, .int 0, .int 0])), (u_9, .inl (cI, 768, .inl (z_fl 768))), (q16, .inr (4, [.ref u_20, .int 0])), (u_20, .inl (cI, 192, .inl (fun _ => 0))), (q27, .inr (3, [.int 0, .int 0, .int 192])), (q39, .inr (3, [.int 7, .int 224, .int 416])), (q52, .inr (1, [.ref u_56])), (u_56, .inl (cI, 20, .inl (fun _ => 0))), (q63, .inr (2, [.ref u_67, .int 0])), (u_67, .inl (cI, 192, .inl (fun _ => 0))), (u_82, .inl (cI, 8, .inl (z_rowK x y 4)))]) := hD
  refine lv_aload_n hx hb dX5_init_88 rfl (lv_at hl 0 rfl) ?_
  refine lv_iload_n hx hb dX5_init_89 rfl (lv_at hl 3 rfl) ?_
  refine lv_sipush (v := 255) hx hb dX5_init_90 (by decide) ?_
  refine lv_iand hx hb dX5_init_93 ?_
  refine va_putF (D := D) (ci := 5) (v := .int (vd &&& 255)) (ty := .int) (C := RX5) (T := TX5) (N := 9) hx hb hts iX5_init_X5 tyX5 tyX5_ok nmX5 hown hK hP hD hS 0 rfl rfl 1 (by decide) (hts _ qX5_init_27) (fun _ h9 => h9) rfl hin rfl (by decide +kernel) rfl rfl (Nat.le_of_ble_eq_true rfl) dX5_init_94 (fun H locs hP hD hS => ?_)
  have hP : va_P D vwCl ([(h, .inr (5, [.ref u_82, .int (vd &&& 255), .ref q5, .ref q16, .ref q27, .ref q39, .ref q52, .ref q63, .int (-7)])), (q5, .inr (0, [.ref u_9, .int 1, .int 0, .int 0, .int 0, .int 0])), (u_9, .inl (cI, 768, .inl (z_fl 768))), (q16, .inr (4, [.ref u_20, .int 0])), (u_20, .inl (cI, 192, .inl (fun _ => 0))), (q27, .inr (3, [.int 0, .int 0, .int 192])), (q39, .inr (3, [.int 7, .int 224, .int 416])), (q52, .inr (1, [.ref u_56])), (u_56, .inl (cI, 20, .inl (fun _ => 0))), (q63, .inr (2, [.ref u_67, .int 0])), (u_67, .inl (cI, 192, .inl (fun _ => 0))), (u_82, .inl (cI, 8, .inl (z_rowK x y 4)))]) _ := hP
  have hD : va_D A ([(h, .inr (5, [.ref u_82, .int (vd &&& 255), .ref q5, .ref q16, .ref q27, .ref q39, .ref q52, .ref q63, .int (-7)])), (q5, .inr (0, [.ref u_9, .int 1, .int 0, .int 0, .int 0, .int 0])), (u_9, .inl (cI, 768, .inl (z_fl 768))), (q16, .inr (4, [.ref u_20, .int 0])), (u_20, .inl (cI, 192, .inl (fun _ => 0))), (q27, .inr (3, [.int 0, .int 0, .int 192])), (q39, .inr (3, [.int 7, .int 224, .int 416])), (q52, .inr (1, [.ref u_56])), (u_56, .inl (cI, 20, .inl (fun _ => 0))), (q63, .inr (2, [.ref u_67, .int 0])), (u_67, .inl (cI, 192, .inl (fun _ => 0))), (u_82, .inl (cI, 8, .inl (z_rowK x y 4)))]) := hD
  refine W.widen (k := 11) (n := 1197) (by omega) (by omega) ?_
  have hP9 : va_P D vwCl ([(h, .inr (5, [.ref u_82, .int (vd &&& 255), .ref q5, .ref q16, .ref q27, .ref q39, .ref q52, .ref q63, .int (-7)])), (u_82, .inl (cI, 8, .inl (z_rowK x y 4))), (q5, .inr (0, [.ref u_9, .int 1, .int 0, .int 0, .int 0, .int 0])), (u_9, .inl (cI, 768, .inl (z_fl 768))), (q16, .inr (4, [.ref u_20, .int 0])), (u_20, .inl (cI, 192, .inl (fun _ => 0))), (q27, .inr (3, [.int 0, .int 0, .int 192])), (q39, .inr (3, [.int 7, .int 224, .int 416])), (q52, .inr (1, [.ref u_56])), (u_56, .inl (cI, 20, .inl (fun _ => 0))), (q63, .inr (2, [.ref u_67, .int 0])), (u_67, .inl (cI, 192, .inl (fun _ => 0)))]) _ := hP.sub [0, 11, 1, 2, 3, 4, 5, 6, 7, 8, 9, 10] rfl
  have hD9 : va_D A ([(h, .inr (5, [.ref u_82, .int (vd &&& 255), .ref q5, .ref q16, .ref q27, .ref q39, .ref q52, .ref q63, .int (-7)])), (u_82, .inl (cI, 8, .inl (z_rowK x y 4))), (q5, .inr (0, [.ref u_9, .int 1, .int 0, .int 0, .int 0, .int 0])), (u_9, .inl (cI, 768, .inl (z_fl 768))), (q16, .inr (4, [.ref u_20, .int 0])), (u_20, .inl (cI, 192, .inl (fun _ => 0))), (q27, .inr (3, [.int 0, .int 0, .int 192])), (q39, .inr (3, [.int 7, .int 224, .int 416])), (q52, .inr (1, [.ref u_56])), (u_56, .inl (cI, 20, .inl (fun _ => 0))), (q63, .inr (2, [.ref u_67, .int 0])), (u_67, .inl (cI, 192, .inl (fun _ => 0)))]) := hD.sub [0, 11, 1, 2, 3, 4, 5, 6, 7, 8, 9, 10] (by decide) rfl
  exact hret 97 ls _ _ (fun j => match j with | 0 => h | 1 => u_82 | 2 => q5 | 3 => u_9 | 4 => q16 | 5 => u_20 | 6 => q27 | 7 => q39 | 8 => q52 | 9 => u_56 | 10 => q63 | _ => u_67) dX5_init_97 rfl rfl hP9 hD9 hS
