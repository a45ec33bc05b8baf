-- the bridge, third piece: the face, method by method
def br_I (f : RW) (p st n : Int32) (tl : Nat) (rn : Int32) : Prop := zbOk f ∧ (¬ st = 0 → ¬ n < 0) ∧ (p = 0 → rn = -7) ∧ br_R rn ∧ tl ≤ 192
theorem br_IG {f : RW} {p a st n k rn : Int32} {tl : Nat} (h : br_I f p st n tl rn) : br_G k (f, p, a, st, n, k) := ⟨rfl, h.2.1, h.1⟩
theorem br_progE {r k0 x i0 : Int32} {F : FS} {i : Nat} (hG : br_G k0 F) (h0 : i0 = nI i) (hi : i < 768) : y_prog k0 i x (br_sim r F) = br_sim r (z_prog i0 x F) ∧ br_G k0 (z_prog i0 x F) := by
  rw [h0]; exact br_prog hG hi
theorem br_pwN {r k0 d b0 : Int32} {F : FS} {x : Nat} (hG : br_G k0 F) (hx : x < 2) (hb : b0 = nI (224 * x + 192 + 2)) : ∀ n, n ≤ 4 → y_pwN k0 x d (br_sim r F) n = br_sim r (z_pwN F b0 d n) ∧ br_G k0 (z_pwN F b0 d n) := by
  intro n
  induction n with
  | zero => intro _; exact ⟨rfl, hG⟩
  | succ n ih =>
    intro hn
    obtain ⟨e1, g1⟩ := ih (by omega)
    rw [y_pwN, z_pwN, e1, br_part d n (by omega)]
    exact br_progE g1 (by rw [hb, nI_add]) (by omega)
theorem br_name {r k0 len seq d h0 : Int32} {F : FS} {x : Nat} (hG : br_G k0 F) (hx : x < 2) (hh : h0 = nI (224 * x + 192)) : y_wh k0 x len seq d (br_sim r F) = br_sim r (z_name h0 len seq d F) ∧ br_G k0 (z_name h0 len seq d F) := by
  obtain ⟨e1, g1⟩ := br_progE (r := r) (x := len) (i0 := h0) (i := 224 * x + 192) hG hh (by omega)
  obtain ⟨e2, g2⟩ := br_progE (r := r) (x := seq) (i0 := h0 + 1) (i := 224 * x + 192 + 1) g1 (by rw [hh]; exact nI_add _ 1) (by omega)
  rw [y_wh, e1, e2, z_name]
  exact br_pwN g2 hx (by rw [hh]; exact nI_add _ 2) 4 (by omega)
theorem br_end {f : RW} {p a st n k k0 rn z : Int32} (hG : br_G k0 (f, p, a, st, n, k)) (hR : br_R rn) : y_fin z (br_sim rn (f, p, a, st, n, k)) = ((z_torn z p rn).1, f, p, (z_torn z p rn).2, br_lf st n, a, 0) ∧ br_I f p st n 0 (z_torn z p rn).2 := by
  obtain ⟨hk, h1, h2⟩ := br_Gi hG
  by_cases hp : p = 0
  · have e : z_torn z p rn = (-2, -7) := if_pos hp
    rw [br_sim, y_fin, e, if_pos hp, if_pos hp]
    exact ⟨rfl, h2, h1, fun _ => rfl, Or.inl rfl, Nat.zero_le _⟩
  · have e : z_torn z p rn = (z, rn) := if_neg hp
    rw [br_sim, y_fin, e, if_neg hp, if_neg hp]
    exact ⟨rfl, h2, h1, fun h => absurd h hp, hR, Nat.zero_le _⟩
theorem br_man3 {o f : RW} {p a st n k rn z : Int32} (hp : ¬ p = 0) : c_man3 z rn o (f, p, a, st, n, k) = (z, o, f, p, a, st, n, k, 0, rn) := by
  have e : z_torn z p rn = (z, rn) := if_neg hp
  rw [c_man3, e]
-- type
theorem br_addN (x : Int64) : ∀ m, m ≤ 8 → ∀ tb t, z_addN x m tb t = y_addN x m tb t := by
  intro m
  induction m with
  | zero => intro _ _ _; rfl
  | succ m ih => intro hm tb t; rw [z_addN, y_addN, br_tbyte x m (by omega)]; exact ih (by omega) _ _
theorem br_type {x : Int64} {y : Int32} {tb : RW} {tl : Nat} : c_type x y (tb, tl) = y_type x y (tb, tl) := by
  rw [c_type, y_type]
  by_cases c1 : y < 1
  · rw [if_pos c1, if_pos c1]
  · rw [if_neg c1, if_neg c1]
    by_cases c2 : y ≤ 8
    · obtain ⟨j, h1, h2, h3⟩ := z_natOf (m := 8) (n := 8) rfl (by decide) c1 c2
      rw [if_pos c2, if_pos c2, h3, nI_clamp (by omega), z_add]
      by_cases c3 : tl + j ≤ 192
      · rw [if_pos c3, if_pos c3, c_type2, if_neg (by decide), br_addN x j (by omega)]
      · rw [if_neg c3, if_neg c3, c_type2, if_pos rfl]
    · rw [if_neg c2, if_neg c2]
theorem br_type_le {x : Int64} {y z : Int32} {tb tb1 : RW} {tl t1 : Nat} (h : (z, tb1, t1) = c_type x y (tb, tl)) (ht : tl ≤ 192) : t1 ≤ 192 := by
  rw [br_type, y_type] at h
  split at h
  · cases h; exact ht
  · split at h
    · split at h
      · cases h; assumption
      · cases h; exact ht
    · cases h; exact ht
theorem f_type {x : Int64} {y z z2 : Int32} {tb tb1 tb2 f : RW} {p st n rn : Int32} {tl t1 t2 : Nat} (hI : br_I f p st n tl rn) (hu : (z, tb1, t1) = c_type x y (tb, tl)) (hm : (z2, tb2, t2) = y_type x y (tb, tl)) : (z2, tb2, t2) = (z, tb1, t1) ∧ br_I f p st n t1 rn := by
  refine ⟨by rw [hu, hm, br_type], hI.1, hI.2.1, hI.2.2.1, hI.2.2.2.1, br_type_le hu hI.2.2.2.2⟩
-- factory
theorem br_fact {r k0 x : Int32} {F : FS} {tb : RW} {tl : Nat} (hG : br_G k0 F) (ht : tl ≤ 192) : y_fact k0 x tb tl (br_sim r F) = br_sim r (z_fact x tb tl F) ∧ br_G k0 (z_fact x tb tl F) := by
  obtain ⟨e1, g1⟩ := br_eUp (r := r) (fp := 0) hG 7
  have ez : z_eImgN 0 F 7 = z_erase (0 + 6) (z_eImg 0 F) := rfl
  rw [ez] at e1 g1
  obtain ⟨e2, g2⟩ := br_erase (r := r) (pg := 22) g1
  obtain ⟨e3, g3⟩ := br_row (r := r) (b0 := 0) (len0 := nI tl) (b := 0) (len := tl) (rl := 192) (row := tb) (row' := tb) g2 rfl rfl ht (by omega) (by omega) (fun _ _ => rfl)
  obtain ⟨e4, g4⟩ := br_name (r := r) (len := nI tl) (seq := x) (d := z_rdigN 0 tb tl) (h0 := 192) (x := 0) g3 (by omega) rfl
  obtain ⟨e5, g5⟩ := br_progE (r := r) (x := 0) (i0 := 192 + 7) (i := 224 * 0 + 192 + 7) g4 rfl (by omega)
  obtain ⟨e6, g6⟩ := br_progE (r := r) (x := 0) (i0 := 192 + 8) (i := 224 * 0 + 192 + 8) g5 rfl (by omega)
  have ed : z_dig 0 tb 192 (nI tl) = z_rdigN 0 tb tl := br_dig ht (by omega) (fun _ _ => rfl)
  rw [y_fact, e1, e2, e3, e4, e5, e6, z_fact, ed]
  exact ⟨rfl, g6⟩
theorem f_factory {x z z2 : Int32} {tb f f1 f2 : RW} {p a st n k rn p1 a1 s1 n1 k1 r1 p2 r2 l2 a2 : Int32} {tl t1 t2 : Nat} (hI : br_I f p st n tl rn) (hu : (z, f1, p1, a1, s1, n1, k1, t1, r1) = c_factory x tb tl rn (f, p, a, st, n, k)) (hm : (z2, f2, p2, r2, l2, a2, t2) = y_factory k x tb tl (f, p, rn, br_lf st n, a)) : (z2, f2, p2, r2, l2, a2, t2, k) = (z, f1, p1, r1, br_lf s1 n1, a1, t1, k1) ∧ br_I f1 p1 s1 n1 t1 r1 := by
  have ht := hI.2.2.2.2
  rw [c_factory, z_isSeq] at hu
  rw [y_factory] at hm
  by_cases c0 : p = 0
  · rw [if_pos c0] at hu hm
    cases hu; cases hm
    exact ⟨rfl, hI⟩
  · rw [if_neg c0] at hu hm
    by_cases c1 : x < 1
    · rw [if_pos c1, if_pos rfl] at hu
      rw [if_pos c1] at hm
      cases hu; cases hm
      exact ⟨rfl, hI⟩
    · rw [if_neg c1] at hu hm
      by_cases c2 : 200 < x
      · rw [if_pos c2, if_pos rfl] at hu
        rw [if_pos c2] at hm
        cases hu; cases hm
        exact ⟨rfl, hI⟩
      · rw [if_neg c2, if_neg (by decide)] at hu
        rw [if_neg c2] at hm
        by_cases c3 : 1 ≤ tl
        · rw [if_pos c3] at hu hm
          obtain ⟨e1, g1⟩ := br_fact (r := -7) (x := x) (tb := tb) (br_IG (a := a) (k := k) hI) ht
          rw [← br_simE (k := k) (fun _ => rfl), e1] at hm
          generalize z_fact x tb tl (f, p, a, st, n, k) = F1 at hu hm g1
          obtain ⟨f3, p3, a3, s3, n3, k3⟩ := F1
          obtain ⟨e2, g2⟩ := br_end (z := 1) g1 (Or.inl rfl)
          rw [c_fact2] at hu
          rw [e2] at hm
          cases hu; cases hm
          exact ⟨by rw [(br_Gi g1).1], g2⟩
        · rw [if_neg c3] at hu hm
          cases hu; cases hm
          exact ⟨rfl, hI⟩
-- manifest
theorem br_stage {r k0 : Int32} {F : FS} {o tb : RW} (hG : br_G k0 F) (h : ∀ i, i < 20 → o i = tb i) : y_man k0 tb (br_sim r F) = br_sim r (z_stage o F) ∧ br_G k0 (z_stage o F) := by
  obtain ⟨e1, g1⟩ := br_erase (r := r) (pg := 21) hG
  obtain ⟨e2, g2⟩ := br_erase (r := r) (pg := 20) g1
  obtain ⟨e3, g3⟩ := br_eUp (r := r) (fp := 14) g2 6
  obtain ⟨e4, g4⟩ := br_row (r := r) (b0 := 640) (len0 := 20) (b := 640) (len := 20) (rl := 20) (row := o) (row' := tb) g3 rfl rfl (by omega) (by omega) (by omega) h
  rw [y_man, e1, e2, e3, e4, z_stage, br_eSt]
  exact ⟨rfl, g4⟩
theorem f_manifest {K ke : RW} {v z z2 : Int32} {tb ob o1 f f1 f2 : RW} {p a st n k rn p1 a1 s1 n1 k1 r1 p2 r2 l2 a2 : Int32} {tl t1 t2 : Nat} (hK : ∀ i, i < 8 → K i = ke i) (hI : br_I f p st n tl rn) (hu : (z, o1, f1, p1, a1, s1, n1, k1, t1, r1) = c_manifest K v tb tl ob rn (f, p, a, st, n, k)) (hm : (z2, f2, p2, r2, l2, a2, t2) = y_manifest ke v k tb tl (f, p, rn, br_lf st n, a)) : (z2, f2, p2, r2, l2, a2, t2, k) = (z, f1, p1, r1, br_lf s1 n1, a1, t1, k1) ∧ br_I f1 p1 s1 n1 t1 r1 := by
  obtain ⟨hB, hc, hp, hR, ht⟩ := id hI
  have hI0 : br_I f p st n 0 rn := ⟨hB, hc, hp, hR, Nat.zero_le _⟩
  rw [c_manifest, z_judge] at hu
  rw [y_manifest] at hm
  by_cases c0 : p = 0
  · rw [if_pos c0] at hu hm
    cases hu; cases hm
    exact ⟨rfl, hI⟩
  · rw [if_neg c0] at hu hm
    by_cases c1 : tl = 20
    · have eo : ∀ i, i < 20 → z_rdT tb ob i = y_mb 1 f tb i := br_rdT
      have et : ∀ i, i < 20 → z_rdT tb ob i = tb i := fun i hi => by rw [eo i hi, y_mb, if_neg (by decide)]
      rw [if_pos c1, z_judge2, br_rng eo, br_ours hK eo, br_old hB hR (eo 1 (by omega)).symm, br_stand et] at hu
      rw [if_pos c1] at hm
      by_cases c2 : y_rng 1 f tb = 0
      · rw [if_pos c2] at hu hm
        rw [c_man2, if_neg (by decide), br_man3 c0] at hu
        cases hu; cases hm
        exact ⟨rfl, hI0⟩
      · rw [if_neg c2] at hu hm
        by_cases c3 : y_tag 1 ke v f tb = 0
        · rw [if_pos c3] at hu hm
          rw [c_man2, if_neg (by decide), br_man3 c0] at hu
          cases hu; cases hm
          exact ⟨rfl, hI0⟩
        · rw [if_neg c3] at hu hm
          by_cases c4 : y_old 1 f tb rn = 0
          · rw [if_pos c4] at hu hm
            by_cases c5 : y_sameN f tb 20 = 0
            · rw [if_pos c5] at hu hm
              rw [c_man2, if_pos rfl] at hu
              obtain ⟨e1, g1⟩ := br_stage (r := rn) (br_IG (a := a) (k := k) hI) et
              rw [← br_simE (k := k) hp, e1] at hm
              generalize z_stage (z_rdT tb ob) (f, p, a, st, n, k) = F1 at hu hm g1
              obtain ⟨f3, p3, a3, s3, n3, k3⟩ := F1
              obtain ⟨e2, g2⟩ := br_end (z := 0) g1 hR
              rw [c_man3] at hu
              rw [e2] at hm
              cases hu; cases hm
              exact ⟨by rw [(br_Gi g1).1], g2⟩
            · rw [if_neg c5] at hu hm
              rw [c_man2, if_neg (by decide), br_man3 c0] at hu
              cases hu; cases hm
              exact ⟨rfl, hI0⟩
          · rw [if_neg c4] at hu hm
            rw [c_man2, if_neg (by decide), br_man3 c0] at hu
            cases hu; cases hm
            exact ⟨rfl, hI0⟩
    · rw [if_neg c1] at hu hm
      rw [c_man2, if_neg (by decide), br_man3 c0] at hu
      cases hu; cases hm
      exact ⟨rfl, hI0⟩
-- block
theorem br_rsm {K ke f ob tb : RW} {v : Int32} (hK : ∀ i, i < 8 → K i = ke i) : z_rsm K v f ob = (y_right ke v f tb, z_rdP f ob) := by
  have eo : ∀ i, i < 20 → z_rdP f ob i = y_mb 0 f tb i := br_rdP
  rw [z_rsm, z_rsm2, br_rng eo, br_ours hK eo, y_right]
  by_cases c1 : y_rng 0 f tb = 0
  · rw [if_pos c1, if_pos c1]
  · rw [if_neg c1, if_neg c1]
    by_cases c2 : y_tag 0 ke v f tb = 0
    · rw [if_pos c2, if_pos c2]
    · rw [if_neg c2, if_neg c2]
theorem br_blkLen {f o : RW} {j : Nat} (h6 : o 6 = f 646) (hs : f 646 = nI (zb f 646)) (h2 : zb f 646 ≤ 192) (hj : 16 * j < zb f 646) : z_blkLen o (nI j) = nI (y_many f j) ∧ y_many f j ≤ 16 := by
  have e1 : (16 : Int32) * nI j = nI (16 * j) := pk_mul 16 j
  have e2 : o 6 - 16 * nI j = nI (zb f 646 - 16 * j) := by rw [h6, hs, e1]; exact pk_sub (by omega)
  rw [z_blkLen, e2, y_many, y_blksN hs (by omega)]
  have e3 : nI (zb f 646 - 16 * j) < 16 ↔ zb f 646 - 16 * j < 16 := nI_ltI (b := 16) (by omega) (by omega)
  have e4 : nI ((zb f 646 + 15) / 16) ≤ nI (j + 1) ↔ (zb f 646 + 15) / 16 ≤ j + 1 := nI_leI (by omega) (by omega)
  by_cases c1 : zb f 646 - 16 * j < 16
  · rw [if_pos (e3.mpr c1), if_pos (e4.mpr (by omega))]
    exact ⟨rfl, by omega⟩
  · rw [if_neg (fun q => c1 (e3.mp q))]
    by_cases c2 : (zb f 646 + 15) / 16 ≤ j + 1
    · rw [if_pos (e4.mpr c2), show zb f 646 - 16 * j = 16 by omega]
      exact ⟨rfl, by omega⟩
    · rw [if_neg (fun q => c2 (e4.mp q))]
      exact ⟨rfl, by omega⟩
theorem f_block {K ke : RW} {v x z z2 : Int32} {tb ob o1 f f1 f2 : RW} {p a st n k rn p1 a1 s1 n1 k1 r1 p2 r2 l2 a2 : Int32} {tl t1 t2 : Nat} (hK : ∀ i, i < 8 → K i = ke i) (hI : br_I f p st n tl rn) (hu : (z, o1, f1, p1, a1, s1, n1, k1, t1, r1) = c_block K v x tb tl ob rn (f, p, a, st, n, k)) (hm : (z2, f2, p2, r2, l2, a2, t2) = y_block ke v k x tb tl (f, p, rn, br_lf st n, a)) : (z2, f2, p2, r2, l2, a2, t2, k) = (z, f1, p1, r1, br_lf s1 n1, a1, t1, k1) ∧ br_I f1 p1 s1 n1 t1 r1 := by
  obtain ⟨hB, hc, hp, hR, ht⟩ := id hI
  have hI0 : br_I f p st n 0 rn := ⟨hB, hc, hp, hR, Nat.zero_le _⟩
  have e6 : z_rdP f ob 6 = f 646 := by rw [br_rdP (tb := tb) 6 (by omega), y_mb, if_pos rfl]
  rw [c_block, br_rsm (tb := tb) hK] at hu
  rw [y_block] at hm
  by_cases c0 : p = 0
  · rw [if_pos c0] at hu hm
    cases hu; cases hm
    exact ⟨rfl, hI⟩
  · rw [if_neg c0] at hu hm
    rw [c_blk2] at hu
    by_cases c1 : y_right ke v f tb = 0
    · rw [if_pos c1] at hu hm
      cases hu; cases hm
      exact ⟨rfl, hI⟩
    · rw [if_neg c1] at hu hm
      rw [z_isBlk, br_blks e6] at hu
      by_cases c2 : x < 0
      · rw [if_pos c2, if_pos rfl] at hu
        rw [if_pos c2] at hm
        cases hu; cases hm
        exact ⟨rfl, hI⟩
      · rw [if_neg c2] at hu hm
        by_cases c3 : x < y_blks f
        · obtain ⟨j, j1, j2, rfl⟩ := y_blkIx c1 c2 c3
          obtain ⟨⟨q1, q2, q3⟩, -⟩ := y_rng6 (y_right0 c1)
          obtain ⟨b1, b2⟩ := br_blkLen e6 q1 q3 j2
          rw [if_neg (Int32.not_le.mpr c3), if_neg (by decide), b1, br_there (by omega)] at hu
          rw [if_pos c3, nI_clamp (by omega)] at hm
          by_cases c4 : tl = y_many f j
          · rw [if_pos (by rw [c4])] at hu
            rw [if_pos c4] at hm
            by_cases c5 : f (672 + j) = 0
            · rw [if_pos c5, if_neg (by decide), br_man3 c0] at hu
              rw [if_pos c5] at hm
              cases hu; cases hm
              exact ⟨rfl, hI0⟩
            · rw [if_neg c5, if_pos rfl] at hu
              rw [if_neg c5] at hm
              have ex : (16 : Int32) * nI j = nI (16 * j) := pk_mul 16 j
              have eb : (448 : Int32) + 16 * nI j = nI (448 + 16 * j) := by rw [ex]; exact nI_add 448 _
              obtain ⟨e1, g1⟩ := br_row (r := rn) (b0 := 448 + 16 * nI j) (len0 := nI tl) (b := 448 + 16 * j) (len := tl) (rl := 192) (row := tb) (row' := tb) (br_IG (a := a) (k := k) hI) eb rfl ht (by omega) (by omega) (fun _ _ => rfl)
              obtain ⟨e2, g2⟩ := br_progE (r := rn) (x := 0) (i0 := 672 + nI j) (i := 672 + j) g1 (nI_add 672 j) (by omega)
              rw [← br_simE (k := k) hp, y_blk, ← c4, e1, e2] at hm
              generalize z_prog (672 + nI j) 0 (z_row (448 + 16 * nI j) tb 192 (nI tl) (f, p, a, st, n, k)) = F1 at hu hm g2
              obtain ⟨f3, p3, a3, s3, n3, k3⟩ := F1
              obtain ⟨e3, g3⟩ := br_end (z := 1) g2 hR
              rw [c_man3] at hu
              rw [e3] at hm
              cases hu; cases hm
              exact ⟨by rw [(br_Gi g2).1], g3⟩
          · rw [if_neg (fun q => c4 ((nI_eq (by omega) (by omega)).mp q))] at hu
            rw [if_neg c4] at hm
            cases hu; cases hm
            exact ⟨rfl, hI⟩
        · rw [if_pos (Int32.not_lt.mp c3), if_pos rfl] at hu
          rw [if_neg c3] at hm
          cases hu; cases hm
          exact ⟨rfl, hI⟩
