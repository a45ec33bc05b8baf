-- the bridge, fourth piece: install, boot, confirm, crash and what only tells
theorem br_update {r k0 sq d : Int32} {F : FS} {im im' o : RW} {md x : Nat} (hG : br_G k0 F) (hx : x < 2) (hm : md ≤ 192) (h : ∀ j, j < md → im j = im' j) (h11 : nI md = o 11) (h1 : o 1 = sq) (h12 : z_mword o 12 = d) : y_upd k0 x md sq d im' (br_sim r F) = br_sim r (z_upd (7 * x) (nI (224 * x)) (nI (224 * x + 192)) im md o F) ∧ br_G k0 (z_upd (7 * x) (nI (224 * x)) (nI (224 * x + 192)) im md o F) := by
  obtain ⟨e1, g1⟩ := br_erase (r := r) (pg := 7 * x + 6) hG
  obtain ⟨e2, g2⟩ := br_eUp (r := r) (fp := 7 * x) g1 6
  obtain ⟨e3, g3⟩ := br_row (r := r) (b0 := nI (224 * x)) (len0 := nI md) (b := 224 * x) (len := md) (rl := 192) (row := im) (row' := im') g2 rfl rfl hm (by omega) (by omega) h
  obtain ⟨e4, g4⟩ := br_name (r := r) (len := nI md) (seq := sq) (d := d) (h0 := nI (224 * x + 192)) (x := x) g3 hx rfl
  obtain ⟨e5, g5⟩ := br_progE (r := r) (x := 15) (i0 := nI (224 * x + 192) + 6) (i := 224 * x + 192 + 6) g4 (nI_add _ 6) (by omega)
  obtain ⟨e6, g6⟩ := br_progE (r := r) (x := 0) (i0 := nI (224 * x + 192) + 8) (i := 224 * x + 192 + 8) g5 (nI_add _ 8) (by omega)
  obtain ⟨e7, g7⟩ := br_erase (r := r) (pg := 20) g6
  rw [y_upd, e1, e2, e3, e4, e5, e6, e7, z_upd, ← h11, h1, h12]
  exact ⟨rfl, g7⟩
def br_V (f o : RW) (Z Y : Int32 × RW × Nat) : Prop := (Z.1 = 0 ∧ (Y.1 = 0 ∨ ¬ z_rdigN 0 Y.2.1 Y.2.2 = y_four f 652)) ∨ (Z.1 = 1 ∧ Y.1 = 1 ∧ Y.2.2 = Z.2.2 ∧ Z.2.2 ≤ 192 ∧ (∀ j, j < Z.2.2 → Z.2.1 j = Y.2.1 j) ∧ nI Z.2.2 = o 11 ∧ z_rdigN 0 Y.2.1 Y.2.2 = y_four f 652)
theorem br_mk2 {f o : RW} (h11 : o 11 = f 651) (h12 : z_mword o 12 = y_four f 652) {U Y : Int32 × RW × Nat} (h : br_U f U Y) : br_V f o (z_mk2 o U) Y := by
  obtain ⟨r, im, md⟩ := U
  obtain ⟨t, im', md'⟩ := Y
  rcases h with ⟨h1, h2⟩ | ⟨h1, h2, h3, h4, h5⟩
  · have h1 : r = 0 := h1
    have h2 : t = 0 := h2
    rw [z_mk2, if_pos h1]
    exact Or.inl ⟨rfl, Or.inl h2⟩
  · have h1 : r = 1 := h1
    have h2 : md ≤ 192 := h2
    have h3 : md' = md := h3
    have h4 : ∀ j, j < md → im j = im' j := h4
    have h5 : t = if nI md = f 651 then 1 else 0 := h5
    have ed : z_dig 0 im 192 (nI md) = z_rdigN 0 im' md := br_dig h2 (by omega) h4
    rw [z_mk2, if_neg (by rw [h1]; decide), h11, h12, ed]
    by_cases c1 : nI md = f 651
    · rw [if_pos c1] at h5
      rw [if_pos c1]
      by_cases c2 : z_rdigN 0 im' md = y_four f 652
      · rw [if_pos c2]
        exact Or.inr ⟨rfl, h5, h3, h2, h4, c1.trans h11.symm, by show z_rdigN 0 im' md' = _; rw [h3]; exact c2⟩
      · rw [if_neg c2]
        exact Or.inl ⟨rfl, Or.inr (by show ¬ z_rdigN 0 im' md' = _; rw [h3]; exact c2)⟩
    · rw [if_neg c1] at h5
      rw [if_neg c1]
      exact Or.inl ⟨rfl, Or.inl h5⟩
theorem br_mk {f o im im' : RW} {md md' j : Nat} (hB : zbOk f) (hj : j < 2) (ho : ∀ i, i < 20 → o i = f (640 + i)) (hs : zb f 646 ≤ 192) (h5 : f 651 = nI (zb f 651)) (h5b : zb f 651 ≤ 192) : br_V f o (z_mk (224 * j) (224 * j + 192) (nI (224 * j + 192)) f o (im, md)) (y_mk j f (im', md')) := by
  have w7 : z_mword o 7 = y_four f 647 := br_mword (fun i hi => by rw [ho (7 + i) (by omega)]; congr 1; omega)
  have w2 : z_mword o 2 = y_four f 642 := br_mword (fun i hi => by rw [ho (2 + i) (by omega)]; congr 1; omega)
  have w12 : z_mword o 12 = y_four f 652 := br_mword (fun i hi => by rw [ho (12 + i) (by omega)]; congr 1; omega)
  have e6 : o 6 = f 646 := ho 6 (by omega)
  have e11 : o 11 = f 651 := ho 11 (by omega)
  have b6 : zb o 6 = zb f 646 := by rw [zb, e6, zb]
  have ww : z_word f (nI (224 * j + 192) + 2) = y_four f (224 * j + 192 + 2) := by
    rw [show nI (224 * j + 192) + 2 = nI (224 * j + 192 + 2) from nI_add _ 2]
    exact br_word (by omega)
  have ed : z_digO f 448 (o 6) = y_digN f 448 (zb f 646) := by
    rw [z_digO, e6]
    exact br_digN (b := 448) (zb f 646) (by omega)
  have hbl := (hB (224 * j + 192) (by omega)).2
  rw [z_mk, y_mk, ed, w7, w2, ww, b6]
  by_cases c1 : y_digN f 448 (zb f 646) = y_four f 647
  · rw [if_pos c1, if_pos c1]
    by_cases c2 : y_four f 642 = 0
    · rw [if_pos c2, if_pos c2]
      exact br_mk2 e11 w12 (br_unf hB hs h5 h5b (by omega) (by omega) im im')
    · rw [if_neg c2, if_neg c2]
      by_cases c3 : y_four f 642 = y_four f (224 * j + 192 + 2)
      · rw [if_pos c3, if_pos c3]
        exact br_mk2 e11 w12 (br_unf hB hs h5 h5b (by omega) (by omega) im im')
      · rw [if_neg c3, if_neg c3]
        exact Or.inl ⟨rfl, Or.inl rfl⟩
  · rw [if_neg c1, if_neg c1]
    exact Or.inl ⟨rfl, Or.inl rfl⟩
theorem br_mkL {f im' : RW} {md' j : Nat} (hB : zbOk f) (hmd : md' < 1000000) : (y_mk j f (im', md')).2.2 < 1000000 := by
  rw [y_mk]
  have h : ∀ bl, (y_pat f (224 * j) bl im').2.2 < 1000000 := by
    intro bl
    generalize hq : y_pat f (224 * j) bl im' = q
    obtain ⟨t, im1, md1⟩ := q
    have h1 := y_patI hB hq.symm
    show md1 < 1000000
    omega
  repeat' split
  · exact h _
  · exact h _
  · exact hmd
  · exact hmd
theorem br_ins3 {k0 rn : Int32} {o f : RW} {p a st n k : Int32} {j : Nat} (hj : j < 2) (hrn : rn = nI j) (Z : Int32 × RW × Nat) : c_ins3 rn o (f, p, a, st, n, k) Z = if Z.1 = 0 then (-6, o, f, p, a, st, n, k, Z.2.1, Z.2.2, rn) else c_ins4 rn o Z.2.1 Z.2.2 (z_upd (7 * (1 - j)) (nI (224 * (1 - j))) (nI (224 * (1 - j) + 192)) Z.2.1 Z.2.2 o (f, p, a, st, n, k)) := by
  obtain ⟨t, im, md⟩ := Z
  rw [c_ins3]
  rcases (show j = 0 ∨ j = 1 by omega) with rfl | rfl
  · rw [hrn, if_neg (show ¬ (1 : Int32) - nI 0 = 0 by decide)]
    rfl
  · rw [hrn, if_pos (show (1 : Int32) - nI 1 = 0 by decide)]
    rfl
theorem f_install {K ke : RW} {v z z2 : Int32} {tb ob o1 f f1 f2 im im1 im' im2 : RW} {p a st n k rn p1 a1 s1 n1 k1 r1 p2 r2 l2 a2 : Int32} {tl md md1 md' md2 : Nat} (hK : ∀ i, i < 8 → K i = ke i) (hI : br_I f p st n tl rn) (hmd : md' < 1000000) (hu : (z, o1, f1, p1, a1, s1, n1, k1, im1, md1, r1) = c_install K v ob im md rn (f, p, a, st, n, k)) (hm : (z2, f2, p2, r2, l2, a2, im2, md2) = y_install ke v k tb im' md' (f, p, rn, br_lf st n, a)) : (z2, f2, p2, r2, l2, a2, k) = (z, f1, p1, r1, br_lf s1 n1, a1, k1) ∧ br_I f1 p1 s1 n1 tl r1 ∧ md2 < 1000000 := by
  obtain ⟨hB, hc, hp, hR, ht⟩ := id hI
  have eo : ∀ i, i < 20 → z_rdP f ob i = f (640 + i) := fun i hi => by rw [br_rdP (tb := tb) i hi, y_mb, if_pos rfl]
  have w12 : z_mword (z_rdP f ob) 12 = y_four f 652 := br_mword (fun i hi => by rw [eo (12 + i) (by omega), show 640 + (12 + i) = 652 + i by omega])
  rw [c_install, br_rsm (tb := tb) hK] at hu
  rw [y_install] at hm
  by_cases c0 : p = 0
  · rw [if_pos c0] at hu hm
    cases hu; cases hm
    exact ⟨rfl, hI, hmd⟩
  · rw [if_neg c0] at hu hm
    rw [c_ins2] at hu
    by_cases c1 : y_right ke v f tb = 0
    · rw [if_pos c1] at hu hm
      cases hu; cases hm
      exact ⟨rfl, hI, hmd⟩
    · rw [if_neg c1] at hu hm
      rw [br_old (tb := tb) hB hR (br_rdP (tb := tb) 1 (by omega)).symm] at hu
      by_cases c2 : y_old 0 f tb rn = 0
      · rw [if_pos c2] at hu hm
        obtain ⟨j, hj, hrn⟩ := hR.resolve_left (y_old_r c2)
        obtain ⟨⟨q1, q2, q3⟩, q4, q5, q6⟩ := y_rng6 (y_right0 c1)
        rw [br_stgd (eo 6 (by omega)) q1 (by omega)] at hu
        by_cases c3 : y_stgd f = 0
        · rw [if_pos c3] at hu hm
          cases hu; cases hm
          exact ⟨rfl, hI, hmd⟩
        · rw [if_neg c3] at hu hm
          have es : (if rn = 0 then c_ins3 rn (z_rdP f ob) (f, p, a, st, n, k) (z_mk 0 192 192 f (z_rdP f ob) (im, md)) else c_ins3 rn (z_rdP f ob) (f, p, a, st, n, k) (z_mk 224 416 416 f (z_rdP f ob) (im, md))) = c_ins3 rn (z_rdP f ob) (f, p, a, st, n, k) (z_mk (224 * j) (224 * j + 192) (nI (224 * j + 192)) f (z_rdP f ob) (im, md)) := by
            rcases (show j = 0 ∨ j = 1 by omega) with h | h
            · rw [if_pos (by rw [hrn, h]; decide), h]; rfl
            · rw [if_neg (by rw [hrn, h]; decide), h]; rfl
          have hV := br_mk (im := im) (im' := im') (md := md) (md' := md') hB hj eo q3 q4 q6
          have hL := br_mkL (f := f) (im' := im') (md' := md') (j := j) hB hmd
          have hj2 : rn.toNatClampNeg = j := by rw [hrn]; exact nI_clamp (by omega)
          rw [es, br_ins3 (k0 := k) hj hrn] at hu
          rw [hj2] at hm
          generalize z_mk (224 * j) (224 * j + 192) (nI (224 * j + 192)) f (z_rdP f ob) (im, md) = Z at hu hV
          generalize y_mk j f (im', md') = Y at hm hV hL
          obtain ⟨t, im3, md3⟩ := Z
          obtain ⟨t', im4, md4⟩ := Y
          rw [y_ins3] at hm
          rcases hV with ⟨v1, v2⟩ | ⟨v1, v2, v3, v4, v5, v6, v7⟩
          · rw [if_pos v1] at hu
            have hm3 : (z2, f2, p2, r2, l2, a2, im2, md2) = (-6, f, p, rn, br_lf st n, a, im4, md4) := by
              rw [hm]
              by_cases d1 : t' = 0
              · rw [if_pos d1]
              · rw [if_neg d1, if_neg (v2.resolve_left d1)]
            cases hu; cases hm3
            exact ⟨rfl, hI, hL⟩
          · have v1 : t = 1 := v1
            have v2 : t' = 1 := v2
            have v3 : md4 = md3 := v3
            have v4 : md3 ≤ 192 := v4
            have v5 : ∀ i, i < md3 → im3 i = im4 i := v5
            have v6 : nI md3 = z_rdP f ob 11 := v6
            have v7 : z_rdigN 0 im4 md4 = y_four f 652 := v7
            rw [if_neg (show ¬ t = 0 by rw [v1]; decide)] at hu
            rw [if_neg (show ¬ t' = 0 by rw [v2]; decide), if_pos v7, v7, v3] at hm
            obtain ⟨e1, g1⟩ := br_update (r := rn) (sq := f 641) (x := 1 - j) (br_IG (a := a) (k := k) hI) (by omega) v4 v5 v6 (eo 1 (by omega)) w12
            rw [← br_simE (k := k) hp, e1] at hm
            have hu : (z, o1, f1, p1, a1, s1, n1, k1, im1, md1, r1) = c_ins4 rn (z_rdP f ob) im3 md3 (z_upd (7 * (1 - j)) (nI (224 * (1 - j))) (nI (224 * (1 - j) + 192)) im3 md3 (z_rdP f ob) (f, p, a, st, n, k)) := hu
            generalize z_upd (7 * (1 - j)) (nI (224 * (1 - j))) (nI (224 * (1 - j) + 192)) im3 md3 (z_rdP f ob) (f, p, a, st, n, k) = F1 at hu hm g1
            obtain ⟨f3, p3, a3, s3, n3, k3⟩ := F1
            obtain ⟨b1, b2, b3⟩ := br_Gi g1
            rw [c_ins4] at hu
            rw [br_sim, y_ins4] at hm
            cases hu; cases hm
            by_cases d1 : p1 = 0
            · have e : z_torn 1 p1 rn = (-2, -7) := if_pos d1
              rw [e, if_pos d1, if_pos d1, b1]
              exact ⟨rfl, ⟨b3, b2, fun _ => rfl, Or.inl rfl, ht⟩, by omega⟩
            · have e : z_torn 1 p1 rn = (1, rn) := if_neg d1
              rw [e, if_neg d1, if_neg d1, b1]
              exact ⟨rfl, ⟨b3, b2, fun h => absurd h d1, hR, ht⟩, by omega⟩
      · rw [if_neg c2] at hu hm
        cases hu; cases hm
        exact ⟨rfl, hI, hmd⟩
-- boot
theorem br_plow {r k0 : Int32} {F : FS} {i : Nat} (hG : br_G k0 F) (hi : i < 768) : y_prog k0 i (y_less (F.1 i)) (br_sim r F) = br_sim r (z_plow (nI i) F) ∧ br_G k0 (z_plow (nI i) F) := by
  obtain ⟨f, p, a, st, n, k⟩ := F
  obtain ⟨b1, b2⟩ := (br_Gi hG).2.2 i hi
  obtain ⟨t1, t2, -⟩ := br_tab2 _ b2
  have e1 : z_at f (nI i) &&& (z_at f (nI i) - 1) = y_less (f i) := by
    rw [z_atIn hi, b1, t1, t2]
  rw [z_plow, e1]
  exact br_prog hG hi
theorem f_boot {z z2 : Int32} {f f1 f2 : RW} {p a st n k rn p1 a1 s1 n1 k1 r1 p2 r2 l2 a2 : Int32} {tl : Nat} (hI : br_I f p st n tl rn) (hu : (z, f1, p1, a1, s1, n1, k1, r1) = c_boot (f, p, a, st, n, k)) (hm : (z2, f2, p2, r2, l2, a2) = y_boot k (f, p, rn, br_lf st n, a)) : (z2, f2, p2, r2, l2, a2, k) = (z, f1, p1, r1, br_lf s1 n1, a1, k1) ∧ br_I f1 p1 s1 n1 tl r1 := by
  obtain ⟨hB, hc, hp, hR, ht⟩ := id hI
  rw [c_boot, br_onTrial hB, br_onConf hB] at hu
  rw [y_boot] at hm
  by_cases c1 : y_best 0 f = -7
  · rw [if_pos c1] at hu hm
    cases hu; cases hm
    exact ⟨rfl, hB, hc, fun h => absurd h (by decide), y_best_val 1 f 2, ht⟩
  · rw [if_neg c1] at hu hm
    obtain ⟨j, hj, hw⟩ := y_best_nat c1
    have hw : y_best 0 f = nI j := hw
    have es : (if y_best 0 f = 0 then c_boot2 (y_best 0 f) (z_plow (192 + 6) (f, 1, a, st, n, k)) else c_boot2 (y_best 0 f) (z_plow (416 + 6) (f, 1, a, st, n, k))) = c_boot2 (nI j) (z_plow (nI (224 * j + 192 + 6)) (f, 1, a, st, n, k)) := by
      rw [hw]
      rcases (show j = 0 ∨ j = 1 by omega) with h | h
      · rw [h]; rfl
      · rw [h]; rfl
    have hG : br_G k (f, 1, a, st, n, k) := ⟨rfl, hc, hB⟩
    obtain ⟨e1, g1⟩ := br_plow (r := -7) (i := 224 * j + 192 + 6) hG (by omega)
    have e1 : y_prog k (224 * j + 192 + 6) (y_less (f (224 * j + 192 + 6))) (br_sim (-7) (f, 1, a, st, n, k)) = br_sim (-7) (z_plow (nI (224 * j + 192 + 6)) (f, 1, a, st, n, k)) := e1
    rw [es] at hu
    rw [hw, nI_clamp (by omega), ← br_simE (k := k) (fun _ => rfl), e1] at hm
    generalize z_plow (nI (224 * j + 192 + 6)) (f, 1, a, st, n, k) = F1 at hu hm g1
    obtain ⟨f3, p3, a3, s3, n3, k3⟩ := F1
    obtain ⟨b1, b2, b3⟩ := br_Gi g1
    rw [c_boot2] at hu
    rw [br_sim, y_boot2] at hm
    cases hu
    by_cases d1 : p1 = 0
    · have e : z_torn (nI j) p1 (nI j) = (-2, -7) := if_pos d1
      rw [if_pos d1] at hm
      cases hm
      rw [e, b1]
      exact ⟨rfl, b3, b2, fun _ => rfl, Or.inl rfl, ht⟩
    · have e : z_torn (nI j) p1 (nI j) = (nI j, nI j) := if_neg d1
      rw [if_neg d1] at hm
      cases hm
      rw [e, b1]
      exact ⟨rfl, b3, b2, fun h => absurd h d1, Or.inr ⟨j, by omega, rfl⟩, ht⟩
-- crash and what only tells
theorem f_crash {x y z z2 : Int32} {f f1 : RW} {p a st n k rn p1 a1 s1 n1 k1 l2 k2 : Int32} {tl : Nat} (hI : br_I f p st n tl rn) (hu : (z, f1, p1, a1, s1, n1, k1) = c_crash x y (f, p, a, st, n, k)) (hm : (z2, l2, k2) = y_crash x y (br_lf st n) k) : (z2, f, p, l2, a, k2) = (z, f1, p1, br_lf s1 n1, a1, k1) ∧ br_I f1 p1 s1 n1 tl rn := by
  obtain ⟨hB, hc, hp, hR, ht⟩ := id hI
  rw [c_crash] at hu
  rw [y_crash] at hm
  by_cases c1 : y < 0
  · rw [if_pos c1] at hu hm
    cases hu; cases hm
    exact ⟨rfl, hI⟩
  · rw [if_neg c1] at hu hm
    by_cases c2 : y ≤ 255
    · rw [if_pos c2] at hu hm
      by_cases c3 : x < 0
      · have ez : z_set x y (f, p, a, st, n, k) = (f, p, a, 0, x, y) := by rw [z_set, if_pos c3]
        rw [ez, c_crash2] at hu
        rw [if_neg (Int32.not_le.mpr c3)] at hm
        cases hu; cases hm
        exact ⟨rfl, hB, fun h => absurd rfl h, hp, hR, ht⟩
      · have ez : z_set x y (f, p, a, st, n, k) = (f, p, a, 1, x, y) := by rw [z_set, if_neg c3]
        rw [ez, c_crash2] at hu
        rw [if_pos (Int32.not_lt.mp c3)] at hm
        cases hu; cases hm
        exact ⟨rfl, hB, fun _ => c3, hp, hR, ht⟩
    · rw [if_neg c2] at hu hm
      cases hu; cases hm
      exact ⟨rfl, hI⟩
theorem f_byte {f : RW} {x : Int32} : z_at f x = y_byte f x := by
  rw [z_at, y_byte]
  by_cases c1 : x < 0
  · rw [if_pos c1, if_pos c1]
  · rw [if_neg c1, if_neg c1]
    obtain ⟨j, hj, rfl⟩ := nI_of c1
    have e1 : (768 : Int32) ≤ nI j ↔ 768 ≤ j := nI_leI (a := 768) (by omega) hj
    have e2 : nI j ≤ (767 : Int32) ↔ j ≤ 767 := nI_leI (b := 767) hj (by omega)
    by_cases c2 : 768 ≤ j
    · rw [if_pos (e1.mpr c2), if_neg (fun q => by have := e2.mp q; omega)]
    · rw [if_neg (fun q => c2 (e1.mp q)), if_pos (e2.mpr (by omega))]
theorem f_good {f : RW} {x : Int32} (hB : zbOk f) : c_good f x = y_goodF f x := by
  rw [c_good, y_goodF]
  by_cases c1 : x < 0
  · rw [if_pos c1, if_neg (fun q => by rw [q] at c1; exact absurd c1 (by decide)), if_neg (fun q => by rw [q] at c1; exact absurd c1 (by decide))]
  · rw [if_neg c1]
    by_cases c2 : x ≤ 1
    · obtain ⟨j, hj, rfl⟩ := y_nat01 c1 c2
      rw [if_pos c2, nI_clamp (by omega), ← br_good hB hj]
      rcases (show j = 0 ∨ j = 1 by omega) with rfl | rfl
      · rfl
      · rw [if_neg (by decide), if_pos (by decide)]; rfl
    · rw [if_neg c2, if_neg (fun q => by rw [q] at c2; exact absurd (by decide) c2), if_neg (fun q => by rw [q] at c2; exact absurd (by decide) c2)]
