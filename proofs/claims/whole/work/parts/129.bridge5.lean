-- the bridge, fifth piece: confirm: bits of the counter, one by one
theorem br_offP {F : FS} {i x : Int32} (h : F.2.1 = 0) : z_prog i x F = F := by
  obtain ⟨f, p, a, st, n, k⟩ := F
  rw [z_prog, if_pos h]
theorem br_offL {F : FS} {i : Int32} (h : F.2.1 = 0) : z_plow i F = F := by
  obtain ⟨f, p, a, st, n, k⟩ := F
  rw [z_plow]
  exact br_offP h
theorem br_offC {F : FS} (h : F.2.1 = 0) : ∀ d i, z_clrN d i F = F := by
  intro d
  induction d with
  | zero => intro _; rfl
  | succ d ih =>
    intro i
    rw [z_clrN]
    split
    · exact ih _
    · exact br_offL h
theorem br_offR {F : FS} (h : F.2.1 = 0) : ∀ m, z_raiseN m F = F := by
  intro m
  induction m with
  | zero => rfl
  | succ m ih =>
    have e : z_clr F = F := br_offC h 32 704
    rw [z_raiseN, e]
    exact ih
/-- a byte programmed: the others stay; unless torn it is what is told -/
theorem br_progC {F : FS} {i : Nat} {x k0 : Int32} (hG : br_G k0 F) (hi : i < 768) (hp : ¬ F.2.1 = 0) : ((z_prog (nI i) x F).2.1 = 0 ∨ ((z_prog (nI i) x F).2.1 = F.2.1 ∧ (z_prog (nI i) x F).1 i = F.1 i &&& x)) ∧ ∀ j, j ≠ i → (z_prog (nI i) x F).1 j = F.1 j := by
  obtain ⟨f, p, a, st, n, k⟩ := F
  obtain ⟨hk, h1, h2⟩ := br_Gi hG
  have hp : ¬ p = 0 := hp
  have h768 : nI i < (768 : Int32) := nI_lt (a := i) (b := 768) hi (by decide)
  have e : z_prog (nI i) x (f, p, a, st, n, k) = z_prog2 (nI i) x (z_tear (f, p, a, st, n, k)) := by rw [z_prog, if_neg hp, if_neg (nI_pos (by omega)), if_pos h768]
  have hi2 : (nI i).toNatClampNeg = i := nI_clamp (by omega)
  rw [e]
  rcases br_tear (f := f) (p := p) (a := a) (k := k) (r := 0) h1 with ⟨s1, n1, q1, q2, q3⟩ | ⟨n1, q1, q2⟩
  · have e4 : z_prog2 (nI i) x (0, f, p, a + 1, s1, n1, k) = (upd f i (f i &&& x), p, a + 1, s1, n1, k) := by rw [z_prog2, hi2, if_pos rfl]
    rw [q1, e4]
    exact ⟨Or.inr ⟨rfl, pk_us⟩, fun j hj => pk_un hj⟩
  · have e4 : z_prog2 (nI i) x (1, f, 0, a + 1, 0, n1, k) = (upd f i (f i &&& (x ||| k)), 0, a + 1, 0, n1, k) := by rw [z_prog2, hi2, if_neg (by decide)]
    rw [q1, e4]
    exact ⟨Or.inl rfl, fun j hj => pk_un hj⟩
theorem br_plowC {F : FS} {i : Nat} {k0 : Int32} (hG : br_G k0 F) (hi : i < 768) (hp : ¬ F.2.1 = 0) : ((z_plow (nI i) F).2.1 = 0 ∨ ((z_plow (nI i) F).2.1 = F.2.1 ∧ zb (z_plow (nI i) F).1 i = br_lw (zb F.1 i))) ∧ ∀ j, j ≠ i → (z_plow (nI i) F).1 j = F.1 j := by
  obtain ⟨f, p, a, st, n, k⟩ := F
  obtain ⟨b1, b2⟩ := (br_Gi hG).2.2 i hi
  obtain ⟨t1, t2, t3, t4, -⟩ := br_tab2 _ b2
  have e1 : z_at f (nI i) &&& (z_at f (nI i) - 1) = nI (br_lw (zb f i)) := by
    rw [z_atIn hi]
    rw [← b1] at t1
    exact t1
  have e2 : z_plow (nI i) (f, p, a, st, n, k) = z_prog (nI i) (nI (br_lw (zb f i))) (f, p, a, st, n, k) := by rw [z_plow, e1]
  obtain ⟨c1, c2⟩ := br_progC (x := nI (br_lw (zb f i))) hG hi hp
  rw [e2]
  refine ⟨?_, c2⟩
  rcases c1 with h | ⟨h, h3⟩
  · exact Or.inl h
  · refine Or.inr ⟨h, ?_⟩
    have h4 : (z_prog (nI i) (nI (br_lw (zb f i))) (f, p, a, st, n, k)).1 i = nI (br_lw (zb f i)) := by
      rw [h3]
      rw [← b1] at t4
      exact t4
    show ((z_prog (nI i) (nI (br_lw (zb f i))) (f, p, a, st, n, k)).1 i).toNatClampNeg = br_lw (zb f i)
    rw [h4, nI_clamp (by omega)]
theorem br_tab3 : ∀ m, m < 256 → m ≠ 0 → br_lw m < m := by decide +kernel
theorem br_zcU {f f' : RW} {i : Nat} (hb : zb f i < 256) (h1 : ∀ j, j ≠ i → f' j = f j) (h2 : zb f' i = br_lw (zb f i)) (h3 : zb f i ≠ 0) : ∀ n, (704 + n ≤ i → br_zc f' n = br_zc f n) ∧ (704 ≤ i → i < 704 + n → br_zc f' n = br_zc f n + 1) := by
  intro n
  induction n with
  | zero => exact ⟨fun _ => rfl, fun a b => by omega⟩
  | succ n ih =>
    obtain ⟨ih1, ih2⟩ := ih
    obtain ⟨-, -, t3, -⟩ := br_tab _ hb
    obtain ⟨-, -, -, -, t5⟩ := br_tab2 _ hb
    have t5 := t5 h3
    rw [br_zc, br_zc]
    constructor
    · intro h
      have e : zb f' (704 + n) = zb f (704 + n) := by rw [zb, h1 _ (by omega), zb]
      rw [ih1 (by omega), e]
    · intro h h4
      by_cases hq : 704 + n = i
      · rw [ih1 (by omega), hq, h2]
        omega
      · have e : zb f' (704 + n) = zb f (704 + n) := by rw [zb, h1 _ hq, zb]
        rw [ih2 h (by omega), e]
        omega
theorem br_zcA {f : RW} : ∀ n, (∀ q, q < n → f (704 + q) = 0) → br_zc f n = 8 * n := by
  intro n
  induction n with
  | zero => intro _; rfl
  | succ n ih =>
    intro h
    have e : zb f (704 + n) = 0 := by rw [zb, h n (by omega)]; rfl
    have e0 : br_bn 0 = 0 := by decide
    rw [br_zc, ih (fun q hq => h q (by omega)), e, e0]
    omega
theorem br_dist {a b : Nat} (ha : a < 2 ^ 31) (hb : b < 2 ^ 31) : z_dist (nI a) (nI b) = a - b := by
  rw [z_dist, nI_toInt ha, nI_toInt hb]
  omega
theorem br_clrN {F : FS} {j : Nat} (hj : j < 736) (hn : ¬ F.1 j = 0) : ∀ d i, i + d = 736 → i ≤ j → (∀ q, i ≤ q → q < j → F.1 q = 0) → z_clrN d i F = z_plow (nI j) F := by
  intro d
  induction d with
  | zero => intro i h1 h2; omega
  | succ d ih =>
    intro i h1 h2 h3
    rw [z_clrN, z_atIn (by omega)]
    by_cases h : i = j
    · rw [h, if_neg hn]
    · rw [if_pos (h3 i (by omega) (by omega))]
      exact ih (i + 1) (by omega) (by omega) (fun q a b => h3 q (by omega) b)
theorem br_step {F : FS} {j sq : Nat} {k0 : Int32} (hG : br_G k0 F) (hsq : sq ≤ 255) (hp : ¬ F.2.1 = 0) (hj1 : 704 ≤ j) (hj2 : j < 736) (hz : ∀ q, 704 ≤ q → q < j → F.1 q = 0) (hn : ¬ F.1 j = 0) (hs : ¬ nI sq ≤ z_cntr F.1) : z_raise (nI sq) (z_plow (nI j) F) = z_raise (nI sq) F := by
  obtain ⟨v1, -, v3⟩ := br_cv hG.2.2
  obtain ⟨b1, b2⟩ := hG.2.2 j (by omega)
  have h0 : zb F.1 j ≠ 0 := fun h => hn (by rw [b1, h]; rfl)
  have hC : br_C F.1 < sq := by
    rw [v1] at hs
    exact Nat.lt_of_not_le (fun q => hs (nI_le q (by omega)))
  have e1 : z_clr F = z_plow (nI j) F := br_clrN hj2 hn 32 704 (by omega) hj1 hz
  have e2 : z_raise (nI sq) F = z_raiseN (sq - br_C F.1 - 1) (z_plow (nI j) F) := by
    rw [z_raise, v1, br_dist (by omega) (by omega)]
    obtain ⟨d, hd⟩ : ∃ d, sq - br_C F.1 = d + 1 := ⟨sq - br_C F.1 - 1, by omega⟩
    rw [hd, z_raiseN, e1]
    rfl
  have g1 := (br_plow (r := 0) (i := j) hG (by omega)).2
  obtain ⟨c1, c2⟩ := br_plowC (i := j) hG (by omega) hp
  rw [e2, z_raise]
  rcases c1 with h | ⟨h, h3⟩
  · rw [br_offR h, br_offR h]
  · have hU : br_C (z_plow (nI j) F).1 = br_C F.1 + 1 := (br_zcU b2 c2 h3 h0 32).2 hj1 (by omega)
    obtain ⟨w1, -, w3⟩ := br_cv g1.2.2
    rw [w1, br_dist (by omega) (by omega), hU]
    congr 1
theorem br_inner {k0 r : Int32} {j sq : Nat} (hj1 : 704 ≤ j) (hj2 : j < 736) (hsq : sq ≤ 255) : ∀ e F, br_G k0 F → (zb F.1 j + 1 ≤ e ∨ F.2.1 = 0) → (F.2.1 = 0 ∨ nI sq ≤ z_cntr F.1 ∨ ∀ q, 704 ≤ q → q < j → F.1 q = 0) →
    ∃ F2 : FS, y_cfI k0 (nI sq) j e (br_sim r F) = br_sim r F2 ∧ br_G k0 F2 ∧ z_raise (nI sq) F2 = z_raise (nI sq) F ∧ (F2.2.1 = 0 ∨ F2.1 j = 0 ∨ nI sq ≤ z_cntr F2.1) ∧ (∀ q, q ≠ j → F2.1 q = F.1 q) ∧ (F.2.1 = 0 ∨ nI sq ≤ z_cntr F.1 → F2 = F) := by
  intro e
  induction e with
  | zero =>
    intro F hG he hz
    have hp : F.2.1 = 0 := he.resolve_left (by omega)
    exact ⟨F, rfl, hG, rfl, Or.inl hp, fun _ _ => rfl, fun _ => rfl⟩
  | succ e ih =>
    intro F hG he hz
    obtain ⟨q1, q2⟩ := br_plow (r := r) (i := j) hG (by omega)
    have s1 : (br_sim r F).2.1 = F.2.1 := by obtain ⟨f, p, a, st, n, k⟩ := F; rfl
    have s2 : (br_sim r F).1 = F.1 := by obtain ⟨f, p, a, st, n, k⟩ := F; rfl
    have v := br_cve hG.2.2
    rw [y_cfI, s1, s2, ← v]
    by_cases c1 : F.2.1 = 0
    · rw [if_pos c1]
      exact ⟨F, rfl, hG, rfl, Or.inl c1, fun _ _ => rfl, fun _ => rfl⟩
    · rw [if_neg c1]
      by_cases c2 : F.1 j = 0
      · rw [if_pos c2]
        exact ⟨F, rfl, hG, rfl, Or.inr (Or.inl c2), fun _ _ => rfl, fun _ => rfl⟩
      · rw [if_neg c2]
        by_cases c3 : nI sq ≤ z_cntr F.1
        · rw [if_pos c3]
          exact ⟨F, rfl, hG, rfl, Or.inr (Or.inr c3), fun _ _ => rfl, fun _ => rfl⟩
        · rw [if_neg c3, q1]
          have hz3 := (hz.resolve_left c1).resolve_left c3
          have hst := br_step hG hsq c1 hj1 hj2 hz3 c2 c3
          obtain ⟨b1, b2⟩ := hG.2.2 j (by omega)
          have h0 : zb F.1 j ≠ 0 := fun h => c2 (by rw [b1, h]; rfl)
          have h3 := br_tab3 _ b2 h0
          obtain ⟨d1, d2⟩ := br_plowC hG (i := j) (by omega) c1
          have he1 : zb (z_plow (nI j) F).1 j + 1 ≤ e ∨ (z_plow (nI j) F).2.1 = 0 := by
            rcases d1 with h | ⟨-, h⟩
            · exact Or.inr h
            · rcases he with he | he
              · exact Or.inl (by omega)
              · exact absurd he c1
          obtain ⟨F2, a1, a2, a3, a4, a5, -⟩ := ih (z_plow (nI j) F) q2 he1 (Or.inr (Or.inr (fun q x y => by rw [d2 q (by omega)]; exact hz3 q x y)))
          refine ⟨F2, a1, a2, a3.trans hst, a4, fun q hq => by rw [a5 q hq, d2 q hq], fun h => ?_⟩
          rcases h with h | h
          · exact absurd h c1
          · exact absurd h c3
theorem br_outer {k0 r : Int32} {sq : Nat} (hsq : sq ≤ 255) : ∀ d j F, j + d = 736 → 704 ≤ j → br_G k0 F → (F.2.1 = 0 ∨ nI sq ≤ z_cntr F.1 ∨ ∀ q, 704 ≤ q → q < j → F.1 q = 0) →
    y_cfO k0 (nI sq) d j (br_sim r F) = br_sim r (z_raise (nI sq) F) ∧ br_G k0 (z_raise (nI sq) F) := by
  intro d
  induction d with
  | zero =>
    intro j F hj hj1 hG hz
    have e : z_raise (nI sq) F = F := by
      rcases hz with h | h | h
      · exact br_offR h _
      · rw [z_raise, z_dist0 h]; rfl
      · obtain ⟨v1, -, -⟩ := br_cv hG.2.2
        have hC : br_C F.1 = 256 := br_zcA 32 (fun q hq => h (704 + q) (by omega) (by omega))
        rw [z_raise, v1, hC, br_dist (by omega) (by omega), show sq - 256 = 0 by omega]
        rfl
    rw [e]
    exact ⟨rfl, hG⟩
  | succ d ih =>
    intro j F hj hj1 hG hz
    have hb := (hG.2.2 j (by omega)).2
    obtain ⟨F2, a1, a2, a3, a4, a5, a6⟩ := br_inner (r := r) hj1 (by omega) hsq 257 F hG (Or.inl (by omega)) hz
    rw [y_cfO, a1, ← a3]
    refine ih (j + 1) F2 (by omega) (by omega) a2 ?_
    rcases hz with h | h | h
    · rw [a6 (Or.inl h)]; exact Or.inl h
    · rw [a6 (Or.inr h)]; exact Or.inr (Or.inl h)
    · rcases a4 with h4 | h4 | h4
      · exact Or.inl h4
      · refine Or.inr (Or.inr (fun q x y => ?_))
        by_cases hq : q = j
        · rw [hq]; exact h4
        · rw [a5 q hq]; exact h q x (by omega)
      · exact Or.inr (Or.inl h4)
theorem f_confirm {z z2 : Int32} {f f1 f2 : RW} {p a st n k rn p1 a1 s1 n1 k1 r1 p2 r2 l2 a2 : Int32} {tl : Nat} (hI : br_I f p st n tl rn) (hu : (z, f1, p1, a1, s1, n1, k1, r1) = c_confirm rn (f, p, a, st, n, k)) (hm : (z2, f2, p2, r2, l2, a2) = y_confirm k (f, p, rn, br_lf st n, a)) : (z2, f2, p2, r2, l2, a2, k) = (z, f1, p1, r1, br_lf s1 n1, a1, k1) ∧ br_I f1 p1 s1 n1 tl r1 := by
  obtain ⟨hB, hc, hp, hR, ht⟩ := id hI
  rw [c_confirm] at hu
  rw [y_confirm] at hm
  by_cases c0 : p = 0
  · rw [if_pos c0] at hu hm
    cases hu; cases hm
    exact ⟨rfl, hI⟩
  · rw [if_neg c0] at hu hm
    by_cases c1 : rn = -7
    · rw [if_pos c1] at hu hm
      cases hu; cases hm
      exact ⟨by rw [c1], hI⟩
    · rw [if_neg c1] at hu hm
      obtain ⟨j, hj, hrn⟩ := hR.resolve_left c1
      have hj2 : rn.toNatClampNeg = j := by rw [hrn]; exact nI_clamp (by omega)
      have hd : z_hd rn = nI (224 * j + 192) := by rw [hrn]; exact br_hd j hj
      rw [hd, br_conf hj] at hu
      rw [hj2] at hm
      by_cases c2 : y_conf f j = 0
      · rw [if_pos c2] at hu hm
        have hG := br_IG (a := a) (k := k) hI
        obtain ⟨e1, g1⟩ := br_progE (r := rn) (x := 0) (i0 := nI (224 * j + 192) + 7) (i := 224 * j + 192 + 7) hG (nI_add _ 7) (by omega)
        have eo : (z_prog (nI (224 * j + 192) + 7) 0 (f, p, a, st, n, k)).1 (224 * j + 192 + 1) = f (224 * j + 192 + 1) := by
          rw [show nI (224 * j + 192) + 7 = nI (224 * j + 192 + 7) from nI_add _ 7]
          exact (br_progC hG (by omega) c0).2 _ (by omega)
        have ea : z_at (z_prog (nI (224 * j + 192) + 7) 0 (f, p, a, st, n, k)).1 (nI (224 * j + 192) + 1) = nI (zb f (224 * j + 192 + 1)) := by
          rw [show nI (224 * j + 192) + 1 = nI (224 * j + 192 + 1) from nI_add _ 1, z_atIn (by omega), eo]
          exact (hB (224 * j + 192 + 1) (by omega)).1
        have hsq := (hB (224 * j + 192 + 1) (by omega)).2
        obtain ⟨e2, g2⟩ := br_outer (r := rn) (sq := zb f (224 * j + 192 + 1)) (by omega) 32 704 _ (by omega) (by omega) g1 (Or.inr (Or.inr (fun q x y => by omega)))
        rw [c_conf2, ea] at hu
        rw [← br_simE (k := k) hp, e1, (hB (224 * j + 192 + 1) (by omega)).1, e2] at hm
        generalize z_raise (nI (zb f (224 * j + 192 + 1))) (z_prog (nI (224 * j + 192) + 7) 0 (f, p, a, st, n, k)) = F1 at hu hm g2
        obtain ⟨f3, p3, a3, s3, n3, k3⟩ := F1
        obtain ⟨b1, b2, b3⟩ := br_Gi g2
        rw [c_conf3] at hu
        rw [br_sim, y_conf3] at hm
        cases hu; cases hm
        by_cases d1 : p1 = 0
        · have e : z_torn 1 p1 rn = (-2, -7) := if_pos d1
          rw [e, if_pos d1, if_pos d1, b1]
          exact ⟨rfl, b3, b2, fun _ => rfl, Or.inl rfl, ht⟩
        · have e : z_torn 1 p1 rn = (1, rn) := if_neg d1
          rw [e, if_neg d1, if_neg d1, b1]
          exact ⟨rfl, b3, b2, fun h => absurd h d1, hR, ht⟩
      · rw [if_neg c2] at hu hm
        cases hu; cases hm
        exact ⟨rfl, hI⟩
