/-! THE CLAIM OUT OF ONE WALK OF THE LAW'S BODY. Your part is whole_start (and what it stands on); all else here is the same for every law, but numbers. -/
def R_law : String := "FlashBootLaw"
def lw_P (b : Addr) (xs : List Int32) (args : Array Value) (s : State) : Prop := args = #[.ref b] ∧ s.IntsAt b xs ∧ xs.length ≤ 2051 ∧ (Jvm.Cond.and given_1 narrow_1).before args s = true
def lw_Q (_ : Array Value) (s : State) (o : Outcome) (t : State) : Prop := o = .returned (some (.int 1)) ∧ Framed s o t [] 600000 7302250
def lw_Z (below : List Frame) (a : Array Value) (s : State) : State → Prop := fun t => ∃ o, t.status = .running ∧ Ended t below o ∧ lw_Q a s o t
/-- the law's own end, with 1 on the stack, nothing written that was there before, its room as the claim has it -/
theorem lw_ret {p : Program} {l : Launch} {e : Env} {s : State} {m : MethodId} {below : List Frame} {meth : Method} {c : Code} {b : Nat} (hx : p.tables.exec = Jvm.exec) (hb : c.code = code) (hr : meth.sig.returnType = ret) (hlocks : meth.locks = false) {pc : Nat} {H : Heap} {ls : Array Slot} (hdg : decode code pc = .ok (.ireturn, 1)) : W p l e room_1 s m #[Value.ref b] below meth c H [] 600000 7302250 (lw_Z below #[Value.ref b] s) (F0 m pc ls [.int 1]) := by
  intro T hT X
  obtain ⟨fs, hret, hrun, hended, hW, hframe⟩ := X.leave (v := some (.int 1)) (hlocks := hlocks) (fun h => by rw [hr] at h; cases h)
  have hmeth' : T.vm.method? m = some meth := X.method'
  refine ⟨T.setFrames fs, ?_, .returned (some (.int 1)), hrun, hended, rfl, ⟨_, rfl⟩, hW, hframe⟩
  jvm_step X.here [X.here.top, hx, hb, hdg, hmeth', hr, ret, narrow_b1]
  (try refine ⟨rfl, ?_⟩); (try refine ⟨rfl, ?_⟩)
  first | (intro acts; rw [hret _ acts rfl rfl rfl]) | rw [hret _ _ rfl rfl rfl]
  exact Steps.refl _
/-- what holds at the law's entry: the machine, the code, the tables' words (any of lw_tbl by 'hts w (by decide +kernel)'), the script of L ints xs at the cell b, what the Statement gives of the start (any of its parts by flat_of_before) -/
def lw_At (p : Program) (s : State) (m : MethodId) (meth : Method) (c : Code) (b L : Nat) (xs : Nat → Int32) : Prop :=
  p.tables.exec = Jvm.exec ∧ c.code = code ∧ meth.sig.returnType = ret ∧ c.maxLocals = 4 ∧ s.vm.findClass R_law = some m.cls ∧ (∀ w ∈ lw_tbl, w.before #[Value.ref b] s = true) ∧ va_X b L xs s s.heap ∧ b < s.heap.size ∧ meth.locks = false ∧ (Jvm.Cond.and given_1 narrow_1).before #[Value.ref b] s = true
abbrev lW (cI : ClassId) (ad am : Nat → Nat) (K : RW) (v : Int32) (f : RW) (p : Int32) (a : Int32) (st : Int32) (n : Int32) (k : Int32) (tb : RW) (tl : Nat) (ob : RW) (im : RW) (md : Nat) (rn : Int32) (ke : RW) (ve : Int32) (mf : RW) (mtb : RW) (mtl : Nat) (mp : Int32) (mr : Int32) (mlf : Int32) (mk : Int32) (ma : Int32) (mim : RW) (mmd : Nat) : va_W := [((ad 0), .inr (5, [.ref (ad 1), .int v, .ref (ad 2), .ref (ad 4), .ref (ad 6), .ref (ad 7), .ref (ad 8), .ref (ad 10), .int rn])), ((ad 1), .inl (cI, 8, .inl K)), ((ad 2), .inr (0, [.ref (ad 3), .int p, .int a, .int st, .int n, .int k])), ((ad 3), .inl (cI, 768, .inl f)), ((ad 4), .inr (4, [.ref (ad 5), .int (nI tl)])), ((ad 5), .inl (cI, 192, .inl tb)), ((ad 6), .inr (3, [.int 0, .int 0, .int 192])), ((ad 7), .inr (3, [.int 7, .int 224, .int 416])), ((ad 8), .inr (1, [.ref (ad 9)])), ((ad 9), .inl (cI, 20, .inl ob)), ((ad 10), .inr (2, [.ref (ad 11), .int (nI md)])), ((ad 11), .inl (cI, 192, .inl im)), ((am 0), .inr (6, [.int 0, .ref (am 1), .ref (am 2), .int ve, .ref (am 3), .int (nI mtl), .int mp, .int mr, .int mlf, .int mk, .int ma, .ref (am 4), .int (nI mmd)])), ((am 1), .inl (cI, 768, .inl mf)), ((am 2), .inl (cI, 8, .inl ke)), ((am 3), .inl (cI, 192, .inl mtb)), ((am 4), .inl (cI, 192, .inl mim))]
theorem z_sld {p : Program} {l : Launch} {e : Env} {R : Room} {s : State} {m : MethodId} {args : Array Value} {below : List Frame} {meth : Method} {c : Code} {H : Heap} {locs : List Loc} {cells slots : Nat} {Q : State → Prop} {cc : ByteArray} {pc : Nat} {ls : Array Slot} {rest : List Value} {A : Nat → Prop} {H0 : Heap} (hexec : p.tables.exec = Jvm.exec) (hb : c.code = cc) {b L : Nat} {xs : Nat → Int32} (hX : va_X b L xs s H0) (hbl : b < H0.size) (hbA : ¬ A b) (hS : va_S A H0 H locs) (k : Nat) {i : Int32} (hi : i = nI k) (hk : k < L) (hL : L < 2 ^ 31) (hdg : decode cc pc = .ok (.iaload, 1))
    (kk : W p l e R s m args below meth c H locs cells slots Q (F0 m (pc + 1) ls (.int (xs k) :: rest))) : W p l e R s m args below meth c H locs cells slots Q (F0 m pc ls (.int i :: .ref b :: rest)) := by
  subst hi
  refine va_sld hexec hb hX hbl hbA hS (vp_in_nI hk hL) hdg ?_
  rw [nI_clamp (by omega)]
  exact kk
set_option maxRecDepth 20000 in
theorem qL_6 : (Cond.constantLong RL 21 (4294967295) : Cond) ∈ wsL_law := List.mem_of_getElem? (i := 6) rfl
