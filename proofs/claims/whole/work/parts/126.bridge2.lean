-- the bridge, second piece: what is read: slots, manifests, staged blocks, the patch
theorem br_one : ((1 : Int32) = 0) = False := eq_false (by decide)
theorem br_e01 : ((0 : Int32) = 1) = False := eq_false (by decide)
def br_R (r : Int32) : Prop := r = -7 ∨ ∃ j : Nat, j < 2 ∧ r = nI j
theorem br_hd : ∀ j, j < 2 → z_hd (nI j) = nI (224 * j + 192) := by decide
theorem br_at {f : RW} {x : Int32} {i : Nat} (hx : x = nI i) (hi : i < 768) : z_at f x = f i := by rw [hx]; exact z_atIn hi
theorem br_good {f : RW} (hB : zbOk f) {j : Nat} (hj : j < 2) : z_sGood (nI (224 * j)) (nI (224 * j + 192)) f (z_cntr f) = y_good f j := by
  have a0 : z_at f (nI (224 * j + 192)) = f (224 * j + 192) := z_atIn (by omega)
  have a1 : z_at f (nI (224 * j + 192) + 1) = f (224 * j + 192 + 1) := br_at (nI_add _ 1) (by omega)
  have a8 : z_at f (nI (224 * j + 192) + 8) = f (224 * j + 192 + 8) := br_at (nI_add _ 8) (by omega)
  have hb := (hB (224 * j + 192) (by omega)).2
  have ad : z_digO f (nI (224 * j)) (f (224 * j + 192)) = y_digN f (224 * j) (zb f (224 * j + 192)) := br_digN (zb f (224 * j + 192)) (by omega)
  have aw : z_word f (nI (224 * j + 192) + 2) = y_four f (224 * j + 192 + 2) := by
    rw [show nI (224 * j + 192) + 2 = nI (224 * j + 192 + 2) from nI_add _ 2]
    exact br_word (by omega)
  rw [z_sGood, z_sWhole, a0, a1, a8, z_isLen, ad, aw, y_good, br_cve hB]
  by_cases c1 : f (224 * j + 192 + 8) = 0 <;> by_cases c2 : f (224 * j + 192) < 1 <;> by_cases c3 : 192 < f (224 * j + 192) <;> by_cases c4 : f (224 * j + 192 + 1) < y_cv f <;> by_cases c5 : y_digN f (224 * j) (zb f (224 * j + 192)) = y_four f (224 * j + 192 + 2) <;> simp only [c1, c2, c3, c4, c5, br_one, if_true, if_false]
theorem br_conf {f : RW} {j : Nat} (hj : j < 2) : z_sConf (nI (224 * j + 192)) f = y_conf f j := by
  have a7 : z_at f (nI (224 * j + 192) + 7) = f (224 * j + 192 + 7) := br_at (nI_add _ 7) (by omega)
  rw [z_sConf, a7, y_conf]
theorem br_canT {f : RW} (hB : zbOk f) {j : Nat} (hj : j < 2) : z_canT (nI (224 * j)) (nI (224 * j + 192)) f = y_may 0 f j := by
  have a6 : z_at f (nI (224 * j + 192) + 6) = f (224 * j + 192 + 6) := br_at (nI_add _ 6) (by omega)
  rw [z_canT, br_good hB hj, z_sTrial, br_conf hj, a6, y_may]
  by_cases c1 : y_good f j = 0 <;> by_cases c2 : y_conf f j = 0 <;> by_cases c3 : f (224 * j + 192 + 6) = 0 <;> simp only [c1, c2, c3, br_one, if_true, if_false]
theorem br_canC {f : RW} (hB : zbOk f) {j : Nat} (hj : j < 2) : z_canC (nI (224 * j)) (nI (224 * j + 192)) f = y_may 1 f j := by
  rw [z_canC, br_good hB hj, br_conf hj, y_may, y_conf]
  by_cases c1 : y_good f j = 0 <;> by_cases c2 : f (224 * j + 192 + 7) = 0 <;> simp only [c1, c2, br_one, br_e01, if_true, if_false]
theorem br_later {f : RW} {t : Int32} : z_later f (y_may t f 0) (y_may t f 1) = y_best t f := by
  have a0 : z_at f (192 + 1) = f (224 * 0 + 192 + 1) := br_at (i := 193) rfl (by omega)
  have a1 : z_at f (416 + 1) = f (224 * 1 + 192 + 1) := br_at (i := 417) rfl (by omega)
  have e0 : y_bestN t f 1 = if y_may t f 0 = 0 then (-7) else 0 := by
    rw [y_bestN, y_bestN]
    by_cases c : y_may t f 0 = 0
    · rw [if_pos c, if_pos c]
    · rw [if_neg c, if_neg c, if_pos rfl]; rfl
  rw [z_later, y_best, y_bestN, e0, a0, a1]
  by_cases c0 : y_may t f 0 = 0
  · rw [if_pos c0, if_pos rfl, if_pos c0]
    rfl
  · rw [if_neg c0, if_neg (show ¬ (0 : Int32) = -7 by decide), if_neg c0]
    rfl
theorem br_onTrial {f : RW} (hB : zbOk f) : z_onTrial f = y_best 0 f := by
  rw [← br_later, ← br_canT hB (j := 0) (by omega), ← br_canT hB (j := 1) (by omega)]
  rfl
theorem br_onConf {f : RW} (hB : zbOk f) : z_onConf f = y_best 1 f := by
  rw [← br_later, ← br_canC hB (j := 0) (by omega), ← br_canC hB (j := 1) (by omega)]
  rfl
theorem br_old {f tb : RW} (hB : zbOk f) {r x t : Int32} (hr : br_R r) (hx : y_mb t f tb 1 = x) : z_old f r x = y_old t f tb r := by
  rw [z_old, y_old, hx, br_cve hB]
  rcases hr with h | ⟨j, hj, h⟩
  · rw [if_pos h, if_pos h]
  · have a1 : z_at f (z_hd r + 1) = f (224 * r.toNatClampNeg + 192 + 1) := by
      rw [h, br_hd j hj, nI_clamp (by omega)]
      exact br_at (nI_add _ 1) (by omega)
    rw [a1]
-- a manifest: o are its twenty bytes, wherever they stand
theorem br_rng {o f tb : RW} {t : Int32} (h : ∀ i, i < 20 → o i = y_mb t f tb i) : z_mRange o = y_rng t f tb := by
  rw [z_mRange, y_rng, h 1 (by omega), h 6 (by omega), h 11 (by omega), z_isSeq, z_isLen, z_isLen, y_isIn, y_isIn, y_isIn]
theorem br_mdN {o f tb : RW} {t d : Int32} : ∀ n, (∀ i, i < n → o i = y_mb t f tb i) → z_rdigN d o n = y_mdN t f tb d n := by
  intro n
  induction n with
  | zero => intro _; rfl
  | succ n ih => intro h; rw [z_rdigN, y_mdN, ih (fun i hi => h i (by omega)), h n (by omega)]
theorem br_ours {o f tb K ke : RW} {v t : Int32} (hK : ∀ i, i < 8 → K i = ke i) (h : ∀ i, i < 20 → o i = y_mb t f tb i) : z_ours o K v = y_tag t ke v f tb := by
  have e1 : z_dig 0 K 8 8 = z_rdigN 0 ke 8 := br_dig (n := 8) (rl := 8) (by omega) (by omega) hK
  have e2 : z_dig (z_dig 0 K 8 8) o 20 16 = y_mdN t f tb (z_rdigN 0 ke 8) 16 := by
    rw [e1, ← br_mdN 16 (fun i hi => h i (by omega))]
    exact br_dig (n := 16) (rl := 20) (by omega) (by omega) (fun _ _ => rfl)
  have e3 : z_mword o 16 = y_mf t f tb 16 := br_mf (fun i hi => h (16 + i) (by omega))
  rw [z_ours, z_mTag, e2, e3, h 0 (by omega), y_tag]
  by_cases c1 : y_mdN t f tb (z_rdigN 0 ke 8) 16 = y_mf t f tb 16
  · rw [if_pos c1, if_pos c1, if_neg (by decide)]
  · rw [if_neg c1, if_neg c1, if_pos rfl]
theorem br_rdPN {f ob : RW} : ∀ n, n ≤ 20 → ∀ i, i < n → z_rdPN f ob n i = f (640 + i) := by
  intro n
  induction n with
  | zero => intro _ i hi; omega
  | succ n ih =>
    intro hn i hi
    rw [z_rdPN]
    by_cases h : i = n
    · rw [h, pk_us]; exact z_atIn (by omega)
    · rw [pk_un h]; exact ih (by omega) i (by omega)
theorem br_rdP {f ob tb : RW} : ∀ i, i < 20 → z_rdP f ob i = y_mb 0 f tb i := fun i hi => by
  rw [z_rdP, br_rdPN 20 (by omega) i hi, y_mb, if_pos rfl]
theorem br_rdT {f ob tb : RW} : ∀ i, i < 20 → z_rdT tb ob i = y_mb 1 f tb i := fun i hi => by
  rw [z_rdT, y_mb, if_neg (by decide), show (0 : Int32).toNatClampNeg = 0 from rfl, show (20 : Int32).toNatClampNeg = 20 from rfl, pk_cpy_in (Nat.zero_le _) (show i < 0 + 20 by omega)]
  congr 1
  omega
theorem br_sameN {f tb : RW} : ∀ n, (y_sameN f tb n = 1 ∧ ∀ i, i < n → f (640 + i) = tb i) ∨ (y_sameN f tb n = 0 ∧ ∃ i, i < n ∧ ¬ f (640 + i) = tb i) := by
  intro n
  induction n with
  | zero => exact Or.inl ⟨rfl, fun i hi => by omega⟩
  | succ n ih =>
    rw [y_sameN]
    rcases ih with ⟨h1, h2⟩ | ⟨h1, i, h2, h3⟩
    · rw [if_neg (by rw [h1]; decide)]
      by_cases c : f (640 + n) = tb n
      · rw [if_pos c]
        refine Or.inl ⟨rfl, fun i hi => ?_⟩
        by_cases h : i = n
        · rw [h]; exact c
        · exact h2 i (by omega)
      · rw [if_neg c]
        exact Or.inr ⟨rfl, n, by omega, c⟩
    · rw [if_pos h1]
      exact Or.inr ⟨rfl, i, by omega, h3⟩
theorem br_standN {f o tb : RW} (h : ∀ i, i < 20 → o i = tb i) : ∀ d i, i + d = 20 → (z_standN f o d i = 1 ∧ ∀ q, i ≤ q → q < 20 → f (640 + q) = tb q) ∨ (z_standN f o d i = 0 ∧ ∃ q, q < 20 ∧ ¬ f (640 + q) = tb q) := by
  intro d
  induction d with
  | zero => intro i hi; exact Or.inl ⟨rfl, fun q h1 h2 => by omega⟩
  | succ d ih =>
    intro i hi
    rw [z_standN, z_atIn (by omega), h i (by omega)]
    by_cases c : tb i = f (640 + i)
    · rw [if_pos c]
      rcases ih (i + 1) (by omega) with ⟨h1, h2⟩ | ⟨h1, h2⟩
      · refine Or.inl ⟨h1, fun q a b => ?_⟩
        by_cases hq : q = i
        · rw [hq]; exact c.symm
        · exact h2 q (by omega) b
      · exact Or.inr ⟨h1, h2⟩
    · rw [if_neg c]
      exact Or.inr ⟨rfl, i, by omega, fun q => c q.symm⟩
theorem br_stand {f o tb : RW} (h : ∀ i, i < 20 → o i = tb i) : z_stand f o = y_sameN f tb 20 := by
  rw [z_stand]
  rcases br_standN (f := f) h 20 0 (by omega) with ⟨a1, a2⟩ | ⟨a1, q, a2, a3⟩ <;> rcases br_sameN (f := f) (tb := tb) 20 with ⟨b1, b2⟩ | ⟨b1, i, b2, b3⟩
  · rw [a1, b1]
  · exact absurd (a2 i (by omega) b2) b3
  · exact absurd (b2 q a2) a3
  · rw [a1, b1]
theorem br_there {f : RW} {j : Nat} (hj : j < 96) : z_there f (nI j) = if f (672 + j) = 0 then 1 else 0 := by
  have e : z_at f (672 + nI j) = f (672 + j) := br_at (nI_add 672 j) (by omega)
  rw [z_there, e]
theorem br_stgN {f : RW} : ∀ d i, i + d ≤ 96 → z_stgN f d i = y_stgN f d i := by
  intro d
  induction d with
  | zero => intro i _; rfl
  | succ d ih =>
    intro i hi
    rw [z_stgN, y_stgN, br_there (by omega), ih (i + 1) (by omega)]
    by_cases c : f (672 + i) = 0
    · rw [if_pos c, if_pos c, if_neg (by decide)]
    · rw [if_neg c, if_neg c, if_pos rfl]
theorem br_blks {f : RW} {x : Int32} (hx : x = f 646) : z_blks x = y_blks f := by
  rw [z_blks, y_blks, hx]
  congr 1
  rw [Int32.sub_eq_add_neg, Int32.add_assoc]
  rfl
theorem br_stgd {f o : RW} (h6 : o 6 = f 646) (hs : f 646 = nI (zb f 646)) (hs2 : zb f 646 ≤ 255) : z_stgd f o = y_stgd f := by
  have h1 := y_blksC hs hs2
  rw [z_stgd, y_stgd, br_blks h6]
  exact br_stgN _ _ (by omega)
-- the patch
theorem br_ad {f : RW} {fr md : Nat} {im im' : RW} (h : ∀ j, j < md → im j = im' j) : ∀ ct, md + ct ≤ 192 → fr + ct ≤ 768 → ∃ im1, y_adN f fr (im', md) ct = (im1, md + ct) ∧ ∀ j, j < md + ct → z_takeN f fr im md ct j = im1 j := by
  intro ct
  induction ct with
  | zero => intro _ _; exact ⟨im', rfl, h⟩
  | succ ct ih =>
    intro h1 h2
    obtain ⟨im1, e1, e2⟩ := ih (by omega) (by omega)
    refine ⟨upd im1 (md + ct) (f (fr + ct)), ?_, fun j hj => ?_⟩
    · rw [y_adN, e1, y_add, if_neg (by omega)]
      rfl
    · rw [z_takeN, z_atIn (by omega)]
      by_cases hq : j = md + ct
      · rw [hq, pk_us, pk_us]
      · rw [pk_un hq, pk_un hq]
        exact e2 j (by omega)
theorem br_patM {f : RW} {bs bl : Nat} : ∀ (g i md : Nat) (im : RW), md ≤ (y_patN f bs bl g i (im, md)).2.2 := by
  intro g
  induction g with
  | zero => intro i md im; exact Nat.le_refl _
  | succ g ih =>
    intro i md im
    rw [y_patN]
    have hX := y_adL (f := f) (b := 448 + i + 1) (P := (im, md)) (zb f (448 + i) + 1)
    have hY := y_adL (f := f) (b := bs + zb f (448 + i + 1)) (P := (im, md)) (zb f (448 + i) - 127)
    generalize y_adN f (448 + i + 1) (im, md) (zb f (448 + i) + 1) = X at hX ⊢
    generalize y_adN f (bs + zb f (448 + i + 1)) (im, md) (zb f (448 + i) - 127) = Y at hY ⊢
    obtain ⟨X1, X2⟩ := X
    obtain ⟨Y1, Y2⟩ := Y
    have hX : X2 = md + (zb f (448 + i) + 1) := hX
    have hY : Y2 = md + (zb f (448 + i) - 127) := hY
    have hXi := ih (i + zb f (448 + i) + 2) X2 X1
    have hYi := ih (i + 2) Y2 Y1
    repeat' split
    all_goals first | exact Nat.le_refl _ | exact Nat.le_trans (by omega) hXi | exact Nat.le_trans (by omega) hYi
theorem br_pat0 {f : RW} {bs bl L : Nat} (hB : zbOk f) (h5 : f 651 = nI L) (hL : L ≤ 192) {g i md : Nat} {im : RW} (h1 : 192 < md) (h2 : md ≤ 128 * i) (h3 : i ≤ 600) : (y_patN f bs bl g i (im, md)).1 = 0 := by
  have a3 := br_patM (f := f) (bs := bs) (bl := bl) g i md im
  generalize hq : y_patN f bs bl g i (im, md) = q at a3 ⊢
  obtain ⟨t, im1, md1⟩ := q
  have a3 : md ≤ md1 := a3
  show t = 0
  by_cases ht : t = 0
  · exact ht
  · have a1 := y_patN1 g i md md1 im im1 t hq.symm ht
    have a2 := y_patL hB g i md md1 im im1 t hq.symm h2 h3
    rw [h5] at a1
    have a4 := (nI_eq (by omega) (by omega)).mp a1
    omega
def br_U (f : RW) (U Y : Int32 × RW × Nat) : Prop := (U.1 = 0 ∧ Y.1 = 0) ∨ (U.1 = 1 ∧ U.2.2 ≤ 192 ∧ Y.2.2 = U.2.2 ∧ (∀ j, j < U.2.2 → U.2.1 j = Y.2.1 j) ∧ Y.1 = if nI U.2.2 = f 651 then 1 else 0)
theorem br_unfN {f : RW} {bs bl L : Nat} (hB : zbOk f) (hs : zb f 646 ≤ 192) (h5 : f 651 = nI L) (hL : L ≤ 192) (hbs : bs ≤ 224) (hbl : bl ≤ 255) : ∀ (g i md : Nat) (im im' : RW), (∀ j, j < md → im j = im' j) → md ≤ 192 → md ≤ 128 * i → i ≤ 600 → br_U f (z_unfN f (zb f 646) bs bl g i (im, md)) (y_patN f bs bl g i (im', md)) := by
  intro g
  induction g with
  | zero => intro i md im im' _ _ _ _; exact Or.inl ⟨rfl, rfl⟩
  | succ g ih =>
    intro i md im im' h h1 h2 h3
    rw [z_unfN, y_patN]
    by_cases c0 : zb f 646 ≤ i
    · rw [if_pos c0, if_pos c0]
      refine Or.inr ⟨rfl, h1, ?_, ?_, ?_⟩
      · show (if nI md = f 651 then ((1 : Int32), im', md) else (0, im', md)).2.2 = md
        split <;> rfl
      · intro j hj
        show im j = (if nI md = f 651 then ((1 : Int32), im', md) else (0, im', md)).2.1 j
        rw [h j hj]
        split <;> rfl
      · show (if nI md = f 651 then ((1 : Int32), im', md) else (0, im', md)).1 = if nI md = f 651 then 1 else 0
        split <;> rfl
    · rw [if_neg c0, if_neg c0]
      have hb := (hB (448 + i) (by omega)).2
      by_cases c1 : zb f (448 + i) < 128
      · rw [if_pos c1, if_pos c1]
        by_cases c2 : zb f 646 < i + (1 + (zb f (448 + i) + 1))
        · rw [if_pos c2, if_neg (by omega)]
          exact Or.inl ⟨rfl, rfl⟩
        · rw [if_neg c2, if_pos (by omega), show i + zb f (448 + i) + 2 = i + (1 + (zb f (448 + i) + 1)) by omega]
          by_cases c3 : md + (zb f (448 + i) + 1) ≤ 192
          · obtain ⟨im1, e1, e2⟩ := br_ad (f := f) (fr := 448 + i + 1) h (zb f (448 + i) + 1) c3 (by omega)
            rw [z_take, if_pos c3, e1]
            simp only [br_one, if_false]
            exact ih _ _ _ _ e2 c3 (by omega) (by omega)
          · have hX := y_adL (f := f) (b := 448 + i + 1) (P := (im', md)) (zb f (448 + i) + 1)
            rw [z_take, if_neg c3]
            simp only [if_true]
            generalize y_adN f (448 + i + 1) (im', md) (zb f (448 + i) + 1) = X at hX ⊢
            obtain ⟨X1, X2⟩ := X
            have hX : X2 = md + (zb f (448 + i) + 1) := hX
            exact Or.inl ⟨rfl, br_pat0 hB h5 hL (by omega) (by omega) (by omega)⟩
      · rw [if_neg c1, if_neg c1]
        by_cases c2 : zb f 646 < i + 2
        · rw [if_pos c2, if_neg (by omega)]
          exact Or.inl ⟨rfl, rfl⟩
        · rw [if_neg c2, if_pos (by omega)]
          have hp := (hB (448 + i + 1) (by omega)).2
          have hct : zb f (448 + i) - 128 + 1 = zb f (448 + i) - 127 := by omega
          rw [z_takeB, hct]
          by_cases c4 : bl < zb f (448 + i + 1) + (zb f (448 + i) - 127)
          · rw [if_pos c4, if_neg (by omega)]
            simp only [if_true]
            exact Or.inl ⟨rfl, rfl⟩
          · rw [if_neg c4, if_pos (by omega)]
            by_cases c3 : md + (zb f (448 + i) - 127) ≤ 192
            · obtain ⟨im1, e1, e2⟩ := br_ad (f := f) (fr := bs + zb f (448 + i + 1)) h (zb f (448 + i) - 127) c3 (by omega)
              rw [z_take, if_pos c3, e1, z_takeB2, if_neg (by decide)]
              simp only [br_one, if_false]
              exact ih _ _ _ _ e2 c3 (by omega) (by omega)
            · have hX := y_adL (f := f) (b := bs + zb f (448 + i + 1)) (P := (im', md)) (zb f (448 + i) - 127)
              rw [z_take, if_neg c3, z_takeB2, if_pos rfl]
              simp only [if_true]
              generalize y_adN f (bs + zb f (448 + i + 1)) (im', md) (zb f (448 + i) - 127) = X at hX ⊢
              obtain ⟨X1, X2⟩ := X
              have hX : X2 = md + (zb f (448 + i) - 127) := hX
              exact Or.inl ⟨rfl, br_pat0 hB h5 hL (by omega) (by omega) (by omega)⟩
theorem br_unf {f : RW} {bs bl L : Nat} (hB : zbOk f) (hs : zb f 646 ≤ 192) (h5 : f 651 = nI L) (hL : L ≤ 192) (hbs : bs ≤ 224) (hbl : bl ≤ 255) (im im' : RW) : br_U f (z_unf f (zb f 646) bs bl im) (y_pat f bs bl im') :=
  br_unfN hB hs h5 hL hbs hbl _ _ _ _ _ (fun j hj => absurd hj (Nat.not_lt_zero j)) (by omega) (by omega) (by omega)
