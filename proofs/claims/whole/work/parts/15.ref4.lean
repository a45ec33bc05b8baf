abbrev rm_X6_best : Room := { frames := 3, cells := 0, slots := 0, locals := 69 }
set_option maxRecDepth 20000 in
theorem qX6_best_1 : (Cond.fieldLink RX6 7 "FlashBootModel" "flash" "[I" : Cond) ∈ wsX6_best := List.mem_of_getElem? (i := 1) rfl
set_option maxRecDepth 20000 in
theorem iX6_best_X6 : ∀ w ∈ wsX60, w ∈ wsX6_best := by decide +kernel
set_option maxHeartbeats 4000000 in
set_option maxRecDepth 100000 in
theorem k_X6_best (l : Launch) (D : va_G) (cI : ClassId) (am : Nat → Nat) (ke : RW) (ve : Int32) (f : RW) (tb : RW) (tl : Nat) (p : Int32) (r : Int32) (lf : Int32) (k : Int32) (a : Int32) (im : RW) (md : Nat) (t : Int32)  : zMR l D cI yX6_best wsX6_best rm_X6_best [.ref (am 0), .int t] (mW cI am ke ve f tb tl p r lf k a im md) (.int (y_best t f)) := by
  refine zEntR (cc := cX6_best) (maxL := 5) (ret := (some .int)) (own := RX6) (lvs := [(0, .ref (am 0)), (1, .int t)]) (by decide) rfl rfl rfl rfl (Nat.le_of_ble_eq_true rfl) rfl ?_
  intro p0 e s m args below meth c Q ls hx hb hml hts hown hP hK hN hl hret hretA
  refine lv_bipush (v := (-7)) hx hb dX6_best_0 (by decide) ?_
  refine lv_istore_n (lv' := [(2, .int (-7)), (0, .ref (am 0)), (1, .int t)]) hx hb dX6_best_2 rfl hl (by decide) rfl (fun ls hl => ?_)
  refine lv_iconst (v := 0) hx hb dX6_best_3 (by decide) ?_
  refine lv_istore_n (lv' := [(3, .int 0), (2, .int (-7)), (0, .ref (am 0)), (1, .int t)]) hx hb dX6_best_4 rfl hl (by decide) rfl (fun ls hl => ?_)
  have lp_5 : ∀ (g_5 : Nat) (i : Nat) (ls : Array Slot), i ≤ 2 → 2 - i < g_5 → lv_has ls 5 [(0, .ref (am 0)), (1, .int t), (2, .int (y_bestN t f i)), (3, .int (nI i))] → W p0 l e rm_X6_best s m args below meth c s.heap [] 0 0 Q (F0 m 5 ls []) := by
    intro g_5
    induction g_5 with
    | zero => intro i ls h1 h9_5; exact absurd h9_5 (Nat.not_lt_zero _)
    | succ g_5 ih_5 =>
      intro i ls h1 h9_5 hl
      refine lv_iload_n hx hb dX6_best_5 rfl (lv_at hl 3 rfl) ?_
      refine lv_iconst (v := 2) hx hb dX6_best_6 (by decide) ?_
      refine z_icmp_ge (tgt := 89) hx hb dX6_best_7 (by decide) i 2 rfl rfl (by omega) (by omega) (fun c_7 => ?_) (fun c_7 => ?_)
      · -- 7 t
        refine lv_iload_n hx hb dX6_best_89 rfl (lv_at hl 2 rfl) ?_
        exact hret 90 ls (y_bestN t f i) _ dX6_best_90 rfl rfl (congrArg Value.int (by rw [y_best, show 2 = i by omega]))
      · -- 7 f
        refine lv_aload_n hx hb dX6_best_10 rfl (lv_at hl 0 rfl) ?_
        refine lv_iload_n hx hb dX6_best_11 rfl (lv_at hl 3 rfl) ?_
        refine zVR (As := [.int (nI i)]) (rest := []) ⟨hx, hb, hml, hown, hts⟩ (k_X6_isGood l D cI am ke ve f tb tl p r lf k a im md i (by omega)) (cwV 1 hts gX6_best_X6_isGood rfl rfl rfl (by decide +kernel) ⟨Nat.le_of_ble_eq_true rfl, Nat.le_of_ble_eq_true rfl⟩) hP hK hN [0, 1, 2, 3, 4] rfl (va_recv hK hP (ci := 6) (q0 := 0) rfl rfl) rfl hl.1 rfl (Nat.le_of_ble_eq_true rfl) dX6_best_12 ⟨Nat.zero_le _, Nat.zero_le _⟩ ?_
        refine lv_if_eq (tgt := 50) hx hb dX6_best_15 (by decide) (fun c_15 => ?_) (fun c_15 => ?_)
        · -- 15 t
          refine lv_iconst (v := 0) hx hb dX6_best_50 (by decide) ?_
          refine lv_istore (lv' := [(4, .int 0), (0, .ref (am 0)), (1, .int t), (2, .int (y_bestN t f i)), (3, .int (nI i))]) hx hb dX6_best_51 hl (by decide) rfl (fun ls hl => ?_)
          refine lv_iload hx hb dX6_best_53 (lv_at hl 0 rfl) ?_
          refine lv_if_eq (tgt := 81) hx hb dX6_best_55 (by decide) (fun c_55 => ?_) (fun c_55 => ?_)
          · -- 55 t
            refine lv_iload_n hx hb dX6_best_81 rfl (lv_at hl 3 rfl) ?_
            have hm9 : y_may t f i = 0 := by simp only [y_may, if_pos c_15]
            refine z_top (v := y_bestN t f (i + 1)) (by rw [y_bestN, if_pos hm9]) ?_
            refine lv_istore_n (lv' := [(2, .int (y_bestN t f (i + 1))), (4, .int 0), (0, .ref (am 0)), (1, .int t), (3, .int (nI i))]) hx hb dX6_best_82 rfl hl (by decide) rfl (fun ls hl => ?_)
            refine lv_iinc (v := (nI (i + 1))) (lv' := [(3, .int (nI (i + 1))), (2, .int (y_bestN t f (i + 1))), (4, .int 0), (0, .ref (am 0)), (1, .int t)]) hx hb dX6_best_83 hl (k := 4) rfl (z_inc _ _ rfl) (by decide) rfl (fun ls hl => ?_)
            refine lv_goto (tgt := 5) hx hb dX6_best_86 (by decide) ?_
            exact ih_5 (i + 1) _ (by omega) (by omega) (lv_sub hl [3, 4, 1, 0] rfl)
          · -- 55 f
            exact absurd (by decide) c_55
        · -- 15 f
          refine lv_aload_n hx hb dX6_best_18 rfl (lv_at hl 0 rfl) ?_
          refine lv_iload_n hx hb dX6_best_19 rfl (lv_at hl 3 rfl) ?_
          refine zVR (As := [.int (nI i)]) (rest := []) ⟨hx, hb, hml, hown, hts⟩ (k_X6_isConfirmed l D cI am ke ve f tb tl p r lf k a im md i (by omega)) (cwV 1 hts gX6_best_X6_isConfirmed rfl rfl rfl (by decide +kernel) ⟨Nat.le_of_ble_eq_true rfl, Nat.le_of_ble_eq_true rfl⟩) hP hK hN [0, 1, 2, 3, 4] rfl (va_recv hK hP (ci := 6) (q0 := 0) rfl rfl) rfl hl.1 rfl (Nat.le_of_ble_eq_true rfl) dX6_best_20 ⟨Nat.zero_le _, Nat.zero_le _⟩ ?_
          refine lv_iload_n hx hb dX6_best_23 rfl (lv_at hl 1 rfl) ?_
          refine lv_icmp_ne (tgt := 50) hx hb dX6_best_24 (by decide) (fun c_24 => ?_) (fun c_24 => ?_)
          · -- 24 t
            refine lv_iconst (v := 0) hx hb dX6_best_50 (by decide) ?_
            refine lv_istore (lv' := [(4, .int 0), (0, .ref (am 0)), (1, .int t), (2, .int (y_bestN t f i)), (3, .int (nI i))]) hx hb dX6_best_51 hl (by decide) rfl (fun ls hl => ?_)
            refine lv_iload hx hb dX6_best_53 (lv_at hl 0 rfl) ?_
            refine lv_if_eq (tgt := 81) hx hb dX6_best_55 (by decide) (fun c_55 => ?_) (fun c_55 => ?_)
            · -- 55 t
              refine lv_iload_n hx hb dX6_best_81 rfl (lv_at hl 3 rfl) ?_
              have hm9 : y_may t f i = 0 := by simp only [y_may, if_neg c_15, if_neg c_24]
              refine z_top (v := y_bestN t f (i + 1)) (by rw [y_bestN, if_pos hm9]) ?_
              refine lv_istore_n (lv' := [(2, .int (y_bestN t f (i + 1))), (4, .int 0), (0, .ref (am 0)), (1, .int t), (3, .int (nI i))]) hx hb dX6_best_82 rfl hl (by decide) rfl (fun ls hl => ?_)
              refine lv_iinc (v := (nI (i + 1))) (lv' := [(3, .int (nI (i + 1))), (2, .int (y_bestN t f (i + 1))), (4, .int 0), (0, .ref (am 0)), (1, .int t)]) hx hb dX6_best_83 hl (k := 4) rfl (z_inc _ _ rfl) (by decide) rfl (fun ls hl => ?_)
              refine lv_goto (tgt := 5) hx hb dX6_best_86 (by decide) ?_
              exact ih_5 (i + 1) _ (by omega) (by omega) (lv_sub hl [3, 4, 1, 0] rfl)
            · -- 55 f
              exact absurd (by decide) c_55
          · -- 24 f
            refine lv_iload_n hx hb dX6_best_27 rfl (lv_at hl 1 rfl) ?_
            refine lv_if_ne (tgt := 46) hx hb dX6_best_28 (by decide) (fun c_28 => ?_) (fun c_28 => ?_)
            · -- 28 t
              refine lv_iconst (v := 1) hx hb dX6_best_46 (by decide) ?_
              refine lv_goto (tgt := 51) hx hb dX6_best_47 (by decide) ?_
              refine lv_istore (lv' := [(4, .int 1), (0, .ref (am 0)), (1, .int t), (2, .int (y_bestN t f i)), (3, .int (nI i))]) hx hb dX6_best_51 hl (by decide) rfl (fun ls hl => ?_)
              refine lv_iload hx hb dX6_best_53 (lv_at hl 0 rfl) ?_
              refine lv_if_eq (tgt := 81) hx hb dX6_best_55 (by decide) (fun c_55 => ?_) (fun c_55 => ?_)
              · -- 55 t
                exact absurd c_55 (by decide)
              · -- 55 f
                refine lv_iload_n hx hb dX6_best_58 rfl (lv_at hl 3 rfl) ?_
                refine lv_bipush (v := (-7)) hx hb dX6_best_59 (by decide) ?_
                refine lv_icmp_eq (tgt := 77) hx hb dX6_best_61 (by decide) (fun c_61 => ?_) (fun c_61 => ?_)
                · -- 61 t
                  refine lv_iload_n hx hb dX6_best_77 rfl (lv_at hl 4 rfl) ?_
                  refine lv_goto (tgt := 82) hx hb dX6_best_78 (by decide) ?_
                  have hm9 : y_may t f i = 1 := by simp only [y_may, if_neg c_15, if_pos c_24, if_neg c_28]
                  refine z_top (v := y_bestN t f (i + 1)) (by rw [y_bestN, if_neg (by rw [hm9]; decide), if_pos c_61]) ?_
                  refine lv_istore_n (lv' := [(2, .int (y_bestN t f (i + 1))), (4, .int 1), (0, .ref (am 0)), (1, .int t), (3, .int (nI i))]) hx hb dX6_best_82 rfl hl (by decide) rfl (fun ls hl => ?_)
                  refine lv_iinc (v := (nI (i + 1))) (lv' := [(3, .int (nI (i + 1))), (2, .int (y_bestN t f (i + 1))), (4, .int 1), (0, .ref (am 0)), (1, .int t)]) hx hb dX6_best_83 hl (k := 4) rfl (z_inc _ _ rfl) (by decide) rfl (fun ls hl => ?_)
                  refine lv_goto (tgt := 5) hx hb dX6_best_86 (by decide) ?_
                  exact ih_5 (i + 1) _ (by omega) (by omega) (lv_sub hl [3, 4, 1, 0] rfl)
                · -- 61 f
                  obtain ⟨wj, hwj, hw⟩ := y_best_nat c_61
                  refine lv_aload_n hx hb dX6_best_64 rfl (lv_at hl 1 rfl) ?_
                  refine lv_iload_n hx hb dX6_best_65 rfl (lv_at hl 4 rfl) ?_
                  refine zVR (As := [.int (nI i)]) (rest := []) ⟨hx, hb, hml, hown, hts⟩ (k_X6_sequenceOf l D cI am ke ve f tb tl p r lf k a im md i (by omega)) (cwV 1 hts gX6_best_X6_sequenceOf rfl rfl rfl (by decide +kernel) ⟨Nat.le_of_ble_eq_true rfl, Nat.le_of_ble_eq_true rfl⟩) hP hK hN [0, 1, 2, 3, 4] rfl (va_recv hK hP (ci := 6) (q0 := 0) rfl rfl) rfl hl.1 rfl (Nat.le_of_ble_eq_true rfl) dX6_best_66 ⟨Nat.zero_le _, Nat.zero_le _⟩ ?_
                  refine lv_aload_n hx hb dX6_best_69 rfl (lv_at hl 1 rfl) ?_
                  refine lv_iload_n hx hb dX6_best_70 rfl (lv_at hl 3 rfl) ?_
                  refine z_top (v := nI wj) (hw) ?_
                  refine zVR (As := [.int (nI wj)]) (rest := [.int (f (224 * i + 192 + 1))]) ⟨hx, hb, hml, hown, hts⟩ (k_X6_sequenceOf l D cI am ke ve f tb tl p r lf k a im md wj (by omega)) (cwV 1 hts gX6_best_X6_sequenceOf rfl rfl rfl (by decide +kernel) ⟨Nat.le_of_ble_eq_true rfl, Nat.le_of_ble_eq_true rfl⟩) hP hK hN [0, 1, 2, 3, 4] rfl (va_recv hK hP (ci := 6) (q0 := 0) rfl rfl) rfl hl.1 rfl (Nat.le_of_ble_eq_true rfl) dX6_best_71 ⟨Nat.zero_le _, Nat.zero_le _⟩ ?_
                  refine lv_icmp_le (tgt := 81) hx hb dX6_best_74 (by decide) (fun c_74 => ?_) (fun c_74 => ?_)
                  · -- 74 t
                    refine lv_iload_n hx hb dX6_best_81 rfl (lv_at hl 3 rfl) ?_
                    have hm9 : y_may t f i = 1 := by simp only [y_may, if_neg c_15, if_pos c_24, if_neg c_28]
                    refine z_top (v := y_bestN t f (i + 1)) (by rw [y_bestN, if_neg (by rw [hm9]; decide), if_neg c_61, hw, nI_clamp (show wj < 2 ^ 31 by omega), if_pos c_74]) ?_
                    refine lv_istore_n (lv' := [(2, .int (y_bestN t f (i + 1))), (4, .int 1), (0, .ref (am 0)), (1, .int t), (3, .int (nI i))]) hx hb dX6_best_82 rfl hl (by decide) rfl (fun ls hl => ?_)
                    refine lv_iinc (v := (nI (i + 1))) (lv' := [(3, .int (nI (i + 1))), (2, .int (y_bestN t f (i + 1))), (4, .int 1), (0, .ref (am 0)), (1, .int t)]) hx hb dX6_best_83 hl (k := 4) rfl (z_inc _ _ rfl) (by decide) rfl (fun ls hl => ?_)
                    refine lv_goto (tgt := 5) hx hb dX6_best_86 (by decide) ?_
                    exact ih_5 (i + 1) _ (by omega) (by omega) (lv_sub hl [3, 4, 1, 0] rfl)
                  · -- 74 f
                    refine lv_iload_n hx hb dX6_best_77 rfl (lv_at hl 4 rfl) ?_
                    refine lv_goto (tgt := 82) hx hb dX6_best_78 (by decide) ?_
                    have hm9 : y_may t f i = 1 := by simp only [y_may, if_neg c_15, if_pos c_24, if_neg c_28]
                    refine z_top (v := y_bestN t f (i + 1)) (by rw [y_bestN, if_neg (by rw [hm9]; decide), if_neg c_61, hw, nI_clamp (show wj < 2 ^ 31 by omega), if_neg c_74]) ?_
                    refine lv_istore_n (lv' := [(2, .int (y_bestN t f (i + 1))), (4, .int 1), (0, .ref (am 0)), (1, .int t), (3, .int (nI i))]) hx hb dX6_best_82 rfl hl (by decide) rfl (fun ls hl => ?_)
                    refine lv_iinc (v := (nI (i + 1))) (lv' := [(3, .int (nI (i + 1))), (2, .int (y_bestN t f (i + 1))), (4, .int 1), (0, .ref (am 0)), (1, .int t)]) hx hb dX6_best_83 hl (k := 4) rfl (z_inc _ _ rfl) (by decide) rfl (fun ls hl => ?_)
                    refine lv_goto (tgt := 5) hx hb dX6_best_86 (by decide) ?_
                    exact ih_5 (i + 1) _ (by omega) (by omega) (lv_sub hl [3, 4, 1, 0] rfl)
            · -- 28 f
              refine lv_aload_n hx hb dX6_best_31 rfl (lv_at hl 0 rfl) ?_
              refine va_get (D := D) (ci := 6) (v := .ref (am 1)) (C := RX6) (T := TX6) (N := 13) hx hb hts iX6_best_X6 hown hK hP 0 rfl rfl 1 (by decide) (hts _ qX6_best_1) (fun _ h9 => h9) rfl dX6_best_32 ?_
              refine lv_iload_n hx hb dX6_best_35 rfl (lv_at hl 3 rfl) ?_
              refine zSR (As := [.int (nI i)]) (rest := [.ref (am 1)]) ⟨hx, hb, hml, hown, hts⟩ (k_X6_headerAt l D cI i) (va_cwS 1 hts gX6_best_X6_headerAt rfl rfl rfl (by decide +kernel) ⟨Nat.le_of_ble_eq_true rfl, Nat.le_of_ble_eq_true rfl⟩) hP hK hN [] rfl rfl hl.1 rfl (Nat.le_of_ble_eq_true rfl) dX6_best_36 ⟨Nat.zero_le _, Nat.zero_le _⟩ ?_
              refine lv_bipush (v := 6) hx hb dX6_best_39 (by decide) ?_
              refine lv_iadd hx hb dX6_best_41 ?_
              refine z_top (v := nI ((224 * i + 192) + 6)) (nI_add (224 * i + 192) 6) ?_
              refine z_iald hx hb hK hP 1 0 rfl rfl ((224 * i + 192) + 6) rfl (by omega) (by decide) dX6_best_42 ?_
              refine lv_if_eq (tgt := 50) hx hb dX6_best_43 (by decide) (fun c_43 => ?_) (fun c_43 => ?_)
              · -- 43 t
                refine lv_iconst (v := 0) hx hb dX6_best_50 (by decide) ?_
                refine lv_istore (lv' := [(4, .int 0), (0, .ref (am 0)), (1, .int t), (2, .int (y_bestN t f i)), (3, .int (nI i))]) hx hb dX6_best_51 hl (by decide) rfl (fun ls hl => ?_)
                refine lv_iload hx hb dX6_best_53 (lv_at hl 0 rfl) ?_
                refine lv_if_eq (tgt := 81) hx hb dX6_best_55 (by decide) (fun c_55 => ?_) (fun c_55 => ?_)
                · -- 55 t
                  refine lv_iload_n hx hb dX6_best_81 rfl (lv_at hl 3 rfl) ?_
                  have hm9 : y_may t f i = 0 := by simp only [y_may, if_neg c_15, if_pos c_24, if_pos c_28, if_pos c_43]
                  refine z_top (v := y_bestN t f (i + 1)) (by rw [y_bestN, if_pos hm9]) ?_
                  refine lv_istore_n (lv' := [(2, .int (y_bestN t f (i + 1))), (4, .int 0), (0, .ref (am 0)), (1, .int t), (3, .int (nI i))]) hx hb dX6_best_82 rfl hl (by decide) rfl (fun ls hl => ?_)
                  refine lv_iinc (v := (nI (i + 1))) (lv' := [(3, .int (nI (i + 1))), (2, .int (y_bestN t f (i + 1))), (4, .int 0), (0, .ref (am 0)), (1, .int t)]) hx hb dX6_best_83 hl (k := 4) rfl (z_inc _ _ rfl) (by decide) rfl (fun ls hl => ?_)
                  refine lv_goto (tgt := 5) hx hb dX6_best_86 (by decide) ?_
                  exact ih_5 (i + 1) _ (by omega) (by omega) (lv_sub hl [3, 4, 1, 0] rfl)
                · -- 55 f
                  exact absurd (by decide) c_55
              · -- 43 f
                refine lv_iconst (v := 1) hx hb dX6_best_46 (by decide) ?_
                refine lv_goto (tgt := 51) hx hb dX6_best_47 (by decide) ?_
                refine lv_istore (lv' := [(4, .int 1), (0, .ref (am 0)), (1, .int t), (2, .int (y_bestN t f i)), (3, .int (nI i))]) hx hb dX6_best_51 hl (by decide) rfl (fun ls hl => ?_)
                refine lv_iload hx hb dX6_best_53 (lv_at hl 0 rfl) ?_
                refine lv_if_eq (tgt := 81) hx hb dX6_best_55 (by decide) (fun c_55 => ?_) (fun c_55 => ?_)
                · -- 55 t
                  exact absurd c_55 (by decide)
                · -- 55 f
                  refine lv_iload_n hx hb dX6_best_58 rfl (lv_at hl 3 rfl) ?_
                  refine lv_bipush (v := (-7)) hx hb dX6_best_59 (by decide) ?_
                  refine lv_icmp_eq (tgt := 77) hx hb dX6_best_61 (by decide) (fun c_61 => ?_) (fun c_61 => ?_)
                  · -- 61 t
                    refine lv_iload_n hx hb dX6_best_77 rfl (lv_at hl 4 rfl) ?_
                    refine lv_goto (tgt := 82) hx hb dX6_best_78 (by decide) ?_
                    have hm9 : y_may t f i = 1 := by simp only [y_may, if_neg c_15, if_pos c_24, if_pos c_28, if_neg c_43]
                    refine z_top (v := y_bestN t f (i + 1)) (by rw [y_bestN, if_neg (by rw [hm9]; decide), if_pos c_61]) ?_
                    refine lv_istore_n (lv' := [(2, .int (y_bestN t f (i + 1))), (4, .int 1), (0, .ref (am 0)), (1, .int t), (3, .int (nI i))]) hx hb dX6_best_82 rfl hl (by decide) rfl (fun ls hl => ?_)
                    refine lv_iinc (v := (nI (i + 1))) (lv' := [(3, .int (nI (i + 1))), (2, .int (y_bestN t f (i + 1))), (4, .int 1), (0, .ref (am 0)), (1, .int t)]) hx hb dX6_best_83 hl (k := 4) rfl (z_inc _ _ rfl) (by decide) rfl (fun ls hl => ?_)
                    refine lv_goto (tgt := 5) hx hb dX6_best_86 (by decide) ?_
                    exact ih_5 (i + 1) _ (by omega) (by omega) (lv_sub hl [3, 4, 1, 0] rfl)
                  · -- 61 f
                    obtain ⟨wj, hwj, hw⟩ := y_best_nat c_61
                    refine lv_aload_n hx hb dX6_best_64 rfl (lv_at hl 1 rfl) ?_
                    refine lv_iload_n hx hb dX6_best_65 rfl (lv_at hl 4 rfl) ?_
                    refine zVR (As := [.int (nI i)]) (rest := []) ⟨hx, hb, hml, hown, hts⟩ (k_X6_sequenceOf l D cI am ke ve f tb tl p r lf k a im md i (by omega)) (cwV 1 hts gX6_best_X6_sequenceOf rfl rfl rfl (by decide +kernel) ⟨Nat.le_of_ble_eq_true rfl, Nat.le_of_ble_eq_true rfl⟩) hP hK hN [0, 1, 2, 3, 4] rfl (va_recv hK hP (ci := 6) (q0 := 0) rfl rfl) rfl hl.1 rfl (Nat.le_of_ble_eq_true rfl) dX6_best_66 ⟨Nat.zero_le _, Nat.zero_le _⟩ ?_
                    refine lv_aload_n hx hb dX6_best_69 rfl (lv_at hl 1 rfl) ?_
                    refine lv_iload_n hx hb dX6_best_70 rfl (lv_at hl 3 rfl) ?_
                    refine z_top (v := nI wj) (hw) ?_
                    refine zVR (As := [.int (nI wj)]) (rest := [.int (f (224 * i + 192 + 1))]) ⟨hx, hb, hml, hown, hts⟩ (k_X6_sequenceOf l D cI am ke ve f tb tl p r lf k a im md wj (by omega)) (cwV 1 hts gX6_best_X6_sequenceOf rfl rfl rfl (by decide +kernel) ⟨Nat.le_of_ble_eq_true rfl, Nat.le_of_ble_eq_true rfl⟩) hP hK hN [0, 1, 2, 3, 4] rfl (va_recv hK hP (ci := 6) (q0 := 0) rfl rfl) rfl hl.1 rfl (Nat.le_of_ble_eq_true rfl) dX6_best_71 ⟨Nat.zero_le _, Nat.zero_le _⟩ ?_
                    refine lv_icmp_le (tgt := 81) hx hb dX6_best_74 (by decide) (fun c_74 => ?_) (fun c_74 => ?_)
                    · -- 74 t
                      refine lv_iload_n hx hb dX6_best_81 rfl (lv_at hl 3 rfl) ?_
                      have hm9 : y_may t f i = 1 := by simp only [y_may, if_neg c_15, if_pos c_24, if_pos c_28, if_neg c_43]
                      refine z_top (v := y_bestN t f (i + 1)) (by rw [y_bestN, if_neg (by rw [hm9]; decide), if_neg c_61, hw, nI_clamp (show wj < 2 ^ 31 by omega), if_pos c_74]) ?_
                      refine lv_istore_n (lv' := [(2, .int (y_bestN t f (i + 1))), (4, .int 1), (0, .ref (am 0)), (1, .int t), (3, .int (nI i))]) hx hb dX6_best_82 rfl hl (by decide) rfl (fun ls hl => ?_)
                      refine lv_iinc (v := (nI (i + 1))) (lv' := [(3, .int (nI (i + 1))), (2, .int (y_bestN t f (i + 1))), (4, .int 1), (0, .ref (am 0)), (1, .int t)]) hx hb dX6_best_83 hl (k := 4) rfl (z_inc _ _ rfl) (by decide) rfl (fun ls hl => ?_)
                      refine lv_goto (tgt := 5) hx hb dX6_best_86 (by decide) ?_
                      exact ih_5 (i + 1) _ (by omega) (by omega) (lv_sub hl [3, 4, 1, 0] rfl)
                    · -- 74 f
                      refine lv_iload_n hx hb dX6_best_77 rfl (lv_at hl 4 rfl) ?_
                      refine lv_goto (tgt := 82) hx hb dX6_best_78 (by decide) ?_
                      have hm9 : y_may t f i = 1 := by simp only [y_may, if_neg c_15, if_pos c_24, if_pos c_28, if_neg c_43]
                      refine z_top (v := y_bestN t f (i + 1)) (by rw [y_bestN, if_neg (by rw [hm9]; decide), if_neg c_61, hw, nI_clamp (show wj < 2 ^ 31 by omega), if_neg c_74]) ?_
                      refine lv_istore_n (lv' := [(2, .int (y_bestN t f (i + 1))), (4, .int 1), (0, .ref (am 0)), (1, .int t), (3, .int (nI i))]) hx hb dX6_best_82 rfl hl (by decide) rfl (fun ls hl => ?_)
                      refine lv_iinc (v := (nI (i + 1))) (lv' := [(3, .int (nI (i + 1))), (2, .int (y_bestN t f (i + 1))), (4, .int 1), (0, .ref (am 0)), (1, .int t)]) hx hb dX6_best_83 hl (k := 4) rfl (z_inc _ _ rfl) (by decide) rfl (fun ls hl => ?_)
                      refine lv_goto (tgt := 5) hx hb dX6_best_86 (by decide) ?_
                      exact ih_5 (i + 1) _ (by omega) (by omega) (lv_sub hl [3, 4, 1, 0] rfl)
  exact lp_5 _ 0 _ (by omega) (Nat.lt_succ_self _) (lv_sub hl [2, 3, 1, 0] rfl)
abbrev rm_X6_boot : Room := { frames := 4, cells := 0, slots := 0, locals := 93 }
set_option maxRecDepth 20000 in
theorem qX6_boot_1 : (Cond.fieldLink RX6 36 "FlashBootModel" "thrown" "I" : Cond) ∈ wsX6_boot := List.mem_of_getElem? (i := 1) rfl
set_option maxRecDepth 20000 in
theorem iX6_boot_X6 : ∀ w ∈ wsX60, w ∈ wsX6_boot := by decide +kernel
set_option maxRecDepth 20000 in
theorem qX6_boot_2 : (Cond.fieldLink RX6 19 "FlashBootModel" "power" "Z" : Cond) ∈ wsX6_boot := List.mem_of_getElem? (i := 2) rfl
set_option maxRecDepth 20000 in
theorem qX6_boot_3 : (Cond.fieldLink RX6 23 "FlashBootModel" "runs" "I" : Cond) ∈ wsX6_boot := List.mem_of_getElem? (i := 3) rfl
set_option maxRecDepth 20000 in
theorem qX6_boot_4 : (Cond.fieldLink RX6 7 "FlashBootModel" "flash" "[I" : Cond) ∈ wsX6_boot := List.mem_of_getElem? (i := 4) rfl
set_option maxHeartbeats 4000000 in
set_option maxRecDepth 100000 in
theorem k_X6_boot (l : Launch) (D : va_G) (cI : ClassId) (am : Nat → Nat) (ke : RW) (ve : Int32) (f : RW) (tb : RW) (tl : Nat) (p : Int32) (r : Int32) (lf : Int32) (k : Int32) (a : Int32) (im : RW) (md : Nat)   : zMW (S := Int32 × RW × Int32 × Int32 × Int32 × Int32) l D cI yX6_boot wsX6_boot rm_X6_boot [.ref (am 0)] (mW cI am ke ve f tb tl p r lf k a im md) (y_boot k (f, p, r, lf, a)) (fun u => some (.int u.1)) (fun u => mW cI am ke ve u.2.1 tb tl u.2.2.1 u.2.2.2.1 u.2.2.2.2.1 k u.2.2.2.2.2 im md) := by
  refine zEntW (cc := cX6_boot) (maxL := 3) (ret := (some .int)) (own := RX6) (lvs := [(0, .ref (am 0))]) (by decide) rfl rfl (Nat.le_of_ble_eq_true rfl) rfl ?_
  intro p0 e s m args below meth c Q ls A hx hb hml hts hown hP hK hN hD hS hA hl hret hretV
  refine lv_aload_n hx hb dX6_boot_0 rfl (lv_at hl 0 rfl) ?_
  refine lv_iconst (v := 0) hx hb dX6_boot_1 (by decide) ?_
  refine va_put (D := D) (ci := 6) (v := .int 0) (ty := .int) (C := RX6) (T := TX6) (N := 13) hx hb hts iX6_boot_X6 tyX6 tyX6_ok nmX6 hown hK hP hD hS 0 rfl rfl 0 (by decide) (hts _ qX6_boot_1) (fun _ h9 => h9) rfl (by decide +kernel) rfl rfl (Nat.le_of_ble_eq_true rfl) dX6_boot_2 (fun H locs hP hD hS => ?_)
  have hP : va_P D vwCl (mW cI am ke ve f tb tl p r lf k a im md) _ := hP
  have hD : va_D A (mW cI am ke ve f tb tl p r lf k a im md) := hD
  refine lv_aload_n hx hb dX6_boot_5 rfl (lv_at hl 0 rfl) ?_
  refine lv_iconst (v := 1) hx hb dX6_boot_6 (by decide) ?_
  refine va_put (D := D) (ci := 6) (v := .int 1) (ty := .boolean) (C := RX6) (T := TX6) (N := 13) hx hb hts iX6_boot_X6 tyX6 tyX6_ok nmX6 hown hK hP hD hS 0 rfl rfl 6 (by decide) (hts _ qX6_boot_2) (fun _ h9 => h9) rfl (by decide +kernel) rfl rfl (Nat.le_of_ble_eq_true rfl) dX6_boot_7 (fun H locs hP hD hS => ?_)
  have hP : va_P D vwCl (mW cI am ke ve f tb tl 1 r lf k a im md) _ := hP
  have hD : va_D A (mW cI am ke ve f tb tl 1 r lf k a im md) := hD
  refine lv_aload_n hx hb dX6_boot_10 rfl (lv_at hl 0 rfl) ?_
  refine lv_bipush (v := (-7)) hx hb dX6_boot_11 (by decide) ?_
  refine va_put (D := D) (ci := 6) (v := .int (-7)) (ty := .int) (C := RX6) (T := TX6) (N := 13) hx hb hts iX6_boot_X6 tyX6 tyX6_ok nmX6 hown hK hP hD hS 0 rfl rfl 7 (by decide) (hts _ qX6_boot_3) (fun _ h9 => h9) rfl (by decide +kernel) rfl rfl (Nat.le_of_ble_eq_true rfl) dX6_boot_13 (fun H locs hP hD hS => ?_)
  have hP : va_P D vwCl (mW cI am ke ve f tb tl 1 (-7) lf k a im md) _ := hP
  have hD : va_D A (mW cI am ke ve f tb tl 1 (-7) lf k a im md) := hD
  refine lv_aload_n hx hb dX6_boot_16 rfl (lv_at hl 0 rfl) ?_
  refine lv_iconst (v := 0) hx hb dX6_boot_17 (by decide) ?_
  refine zVR (As := [.int 0]) (rest := []) ⟨hx, hb, hml, hown, hts⟩ (k_X6_best l D cI am ke ve f tb tl 1 (-7) lf k a im md 0) (cwV 1 hts gX6_boot_X6_best rfl rfl rfl (by decide +kernel) ⟨Nat.le_of_ble_eq_true rfl, Nat.le_of_ble_eq_true rfl⟩) hP hK hN [0, 1, 2, 3, 4] rfl (va_recv hK hP (ci := 6) (q0 := 0) rfl rfl) rfl hl.1 rfl (Nat.le_of_ble_eq_true rfl) dX6_boot_18 ⟨Nat.zero_le _, Nat.zero_le _⟩ ?_
  refine lv_istore_n (lv' := [(1, .int (y_best 0 f)), (0, .ref (am 0))]) hx hb dX6_boot_21 rfl hl (by decide) rfl (fun ls hl => ?_)
  refine lv_iload_n hx hb dX6_boot_22 rfl (lv_at hl 0 rfl) ?_
  refine lv_bipush (v := (-7)) hx hb dX6_boot_23 (by decide) ?_
  refine lv_icmp_eq (tgt := 81) hx hb dX6_boot_25 (by decide) (fun c_25 => ?_) (fun c_25 => ?_)
  · -- 25 t
    refine lv_aload_n hx hb dX6_boot_81 rfl (lv_at hl 1 rfl) ?_
    refine lv_aload_n hx hb dX6_boot_82 rfl (lv_at hl 1 rfl) ?_
    refine lv_iconst (v := 1) hx hb dX6_boot_83 (by decide) ?_
    refine zVR (As := [.int 1]) (rest := [.ref (am 0)]) ⟨hx, hb, hml, hown, hts⟩ (k_X6_best l D cI am ke ve f tb tl 1 (-7) lf k a im md 1) (cwV 1 hts gX6_boot_X6_best rfl rfl rfl (by decide +kernel) ⟨Nat.le_of_ble_eq_true rfl, Nat.le_of_ble_eq_true rfl⟩) hP hK hN [0, 1, 2, 3, 4] rfl (va_recv hK hP (ci := 6) (q0 := 0) rfl rfl) rfl hl.1 rfl (Nat.le_of_ble_eq_true rfl) dX6_boot_84 ⟨Nat.zero_le _, Nat.zero_le _⟩ ?_
    refine va_put (D := D) (ci := 6) (v := .int (y_best 1 f)) (ty := .int) (C := RX6) (T := TX6) (N := 13) hx hb hts iX6_boot_X6 tyX6 tyX6_ok nmX6 hown hK hP hD hS 0 rfl rfl 7 (by decide) (hts _ qX6_boot_3) (fun _ h9 => h9) rfl (by decide +kernel) rfl rfl (Nat.le_of_ble_eq_true rfl) dX6_boot_87 (fun H locs hP hD hS => ?_)
    have hP : va_P D vwCl (mW cI am ke ve f tb tl 1 (y_best 1 f) lf k a im md) _ := hP
    have hD : va_D A (mW cI am ke ve f tb tl 1 (y_best 1 f) lf k a im md) := hD
    refine lv_aload_n hx hb dX6_boot_90 rfl (lv_at hl 1 rfl) ?_
    refine va_get (D := D) (ci := 6) (v := .int (y_best 1 f)) (C := RX6) (T := TX6) (N := 13) hx hb hts iX6_boot_X6 hown hK hP 0 rfl rfl 7 (by decide) (hts _ qX6_boot_3) (fun _ h9 => h9) rfl dX6_boot_91 ?_
    exact hret 94 ls _ _ (y_best 1 f, f, 1, y_best 1 f, lf, a) (y_best 1 f) _ dX6_boot_94 rfl rfl rfl (by simp only [y_boot, if_pos c_25]) hP hS
  · -- 25 f
    obtain ⟨wj, hwj, hw⟩ := y_best_nat c_25
    refine lv_iload_n hx hb dX6_boot_28 rfl (lv_at hl 0 rfl) ?_
    refine z_top (v := nI wj) (hw) ?_
    refine zSR (As := [.int (nI wj)]) (rest := []) ⟨hx, hb, hml, hown, hts⟩ (k_X6_headerAt l D cI wj) (va_cwS 1 hts gX6_boot_X6_headerAt rfl rfl rfl (by decide +kernel) ⟨Nat.le_of_ble_eq_true rfl, Nat.le_of_ble_eq_true rfl⟩) hP hK hN [] rfl rfl hl.1 rfl (Nat.le_of_ble_eq_true rfl) dX6_boot_29 ⟨Nat.zero_le _, Nat.zero_le _⟩ ?_
    refine lv_bipush (v := 6) hx hb dX6_boot_32 (by decide) ?_
    refine lv_iadd hx hb dX6_boot_34 ?_
    refine z_top (v := nI ((224 * wj + 192) + 6)) (nI_add (224 * wj + 192) 6) ?_
    refine lv_istore_n (lv' := [(2, .int (nI ((224 * wj + 192) + 6))), (1, .int (y_best 0 f)), (0, .ref (am 0))]) hx hb dX6_boot_35 rfl hl (by decide) rfl (fun ls hl => ?_)
    refine lv_aload_n hx hb dX6_boot_36 rfl (lv_at hl 2 rfl) ?_
    refine lv_iload_n hx hb dX6_boot_37 rfl (lv_at hl 0 rfl) ?_
    refine lv_aload_n hx hb dX6_boot_38 rfl (lv_at hl 2 rfl) ?_
    refine va_get (D := D) (ci := 6) (v := .ref (am 1)) (C := RX6) (T := TX6) (N := 13) hx hb hts iX6_boot_X6 hown hK hP 0 rfl rfl 1 (by decide) (hts _ qX6_boot_4) (fun _ h9 => h9) rfl dX6_boot_39 ?_
    refine lv_iload_n hx hb dX6_boot_42 rfl (lv_at hl 0 rfl) ?_
    refine z_iald hx hb hK hP 1 0 rfl rfl ((224 * wj + 192) + 6) rfl (by omega) (by decide) dX6_boot_43 ?_
    refine zSR (As := [.int (f ((224 * wj + 192) + 6))]) (rest := [.int (nI ((224 * wj + 192) + 6)), .ref (am 0)]) ⟨hx, hb, hml, hown, hts⟩ (k_X6_lessOne l D cI (f ((224 * wj + 192) + 6))) (va_cwS 1 hts gX6_boot_X6_lessOne rfl rfl rfl (by decide +kernel) ⟨Nat.le_of_ble_eq_true rfl, Nat.le_of_ble_eq_true rfl⟩) hP hK hN [] rfl rfl hl.1 rfl (Nat.le_of_ble_eq_true rfl) dX6_boot_44 ⟨Nat.zero_le _, Nat.zero_le _⟩ ?_
    refine zVW (ws' := fun u => mW cI am ke ve u.1 tb tl u.2.1 u.2.2.1 u.2.2.2.1 k u.2.2.2.2 im md) (As := [.int (nI ((224 * wj + 192) + 6)), .int (y_less (f ((224 * wj + 192) + 6)))]) (rest := []) ⟨hx, hb, hml, hown, hts⟩ (k_X6_program l D cI am ke ve f tb tl 1 (-7) lf k a im md ((224 * wj + 192) + 6) (y_less (f ((224 * wj + 192) + 6))) (by omega)) (cwV 2 hts gX6_boot_X6_program rfl rfl rfl (by decide +kernel) ⟨Nat.le_of_ble_eq_true rfl, Nat.le_of_ble_eq_true rfl⟩) hP hK hN hD hS hA [0, 1, 2, 3, 4] [] [] rfl (by decide) rfl (fun _ => rfl) (fun _ => rfl) (fun _ => rfl) rfl (va_recv hK hP (ci := 6) (q0 := 0) rfl rfl) rfl hl.1 rfl (Nat.le_of_ble_eq_true rfl) dX6_boot_47 ⟨Nat.zero_le _, Nat.zero_le _⟩ (fun u_47 H locs hu_47 hP hD hS => ?_)
    obtain ⟨f_47, p_47, r_47, lf_47, a_47⟩ := u_47
    have hP : va_P D vwCl (mW cI am ke ve f_47 tb tl p_47 r_47 lf_47 k a_47 im md) _ := hP
    have hD : va_D A (mW cI am ke ve f_47 tb tl p_47 r_47 lf_47 k a_47 im md) := hD
    refine W.eq (g2 := F0 m 50 ls []) rfl ?_
    refine lv_aload_n hx hb dX6_boot_50 rfl (lv_at hl 2 rfl) ?_
    refine lv_aload_n hx hb dX6_boot_51 rfl (lv_at hl 2 rfl) ?_
    refine va_get (D := D) (ci := 6) (v := .int p_47) (C := RX6) (T := TX6) (N := 13) hx hb hts iX6_boot_X6 hown hK hP 0 rfl rfl 6 (by decide) (hts _ qX6_boot_2) (fun _ h9 => h9) rfl dX6_boot_52 ?_
    refine lv_if_eq (tgt := 62) hx hb dX6_boot_55 (by decide) (fun c_55 => ?_) (fun c_55 => ?_)
    · -- 55 t
      refine lv_bipush (v := (-7)) hx hb dX6_boot_62 (by decide) ?_
      refine va_put (D := D) (ci := 6) (v := .int (-7)) (ty := .int) (C := RX6) (T := TX6) (N := 13) hx hb hts iX6_boot_X6 tyX6 tyX6_ok nmX6 hown hK hP hD hS 0 rfl rfl 7 (by decide) (hts _ qX6_boot_3) (fun _ h9 => h9) rfl (by decide +kernel) rfl rfl (Nat.le_of_ble_eq_true rfl) dX6_boot_64 (fun H locs hP hD hS => ?_)
      have hP : va_P D vwCl (mW cI am ke ve f_47 tb tl p_47 (-7) lf_47 k a_47 im md) _ := hP
      have hD : va_D A (mW cI am ke ve f_47 tb tl p_47 (-7) lf_47 k a_47 im md) := hD
      refine lv_aload_n hx hb dX6_boot_67 rfl (lv_at hl 2 rfl) ?_
      refine va_get (D := D) (ci := 6) (v := .int p_47) (C := RX6) (T := TX6) (N := 13) hx hb hts iX6_boot_X6 hown hK hP 0 rfl rfl 6 (by decide) (hts _ qX6_boot_2) (fun _ h9 => h9) rfl dX6_boot_68 ?_
      refine lv_if_eq (tgt := 78) hx hb dX6_boot_71 (by decide) (fun c_71 => ?_) (fun c_71 => ?_)
      · -- 71 t
        refine lv_bipush (v := (-2)) hx hb dX6_boot_78 (by decide) ?_
        exact hret 80 ls _ _ ((-2), f_47, p_47, (-7), lf_47, a_47) (-2) _ dX6_boot_80 rfl rfl rfl (by simp only [y_boot, if_neg c_25]; rw [show y_best 0 f = nI wj from hw, nI_clamp (show wj < 2 ^ 31 by omega), ← hu_47]; simp only [y_boot2, if_pos c_71]) hP hS
      · -- 71 f
        refine lv_iload_n hx hb dX6_boot_74 rfl (lv_at hl 1 rfl) ?_
        refine lv_goto (tgt := 80) hx hb dX6_boot_75 (by decide) ?_
        exact hret 80 ls _ _ (y_best 0 f, f_47, p_47, (-7), lf_47, a_47) (y_best 0 f) _ dX6_boot_80 rfl rfl rfl (absurd c_55 c_71) hP hS
    · -- 55 f
      refine lv_iload_n hx hb dX6_boot_58 rfl (lv_at hl 1 rfl) ?_
      refine lv_goto (tgt := 64) hx hb dX6_boot_59 (by decide) ?_
      refine va_put (D := D) (ci := 6) (v := .int (y_best 0 f)) (ty := .int) (C := RX6) (T := TX6) (N := 13) hx hb hts iX6_boot_X6 tyX6 tyX6_ok nmX6 hown hK hP hD hS 0 rfl rfl 7 (by decide) (hts _ qX6_boot_3) (fun _ h9 => h9) rfl (by decide +kernel) rfl rfl (Nat.le_of_ble_eq_true rfl) dX6_boot_64 (fun H locs hP hD hS => ?_)
      have hP : va_P D vwCl (mW cI am ke ve f_47 tb tl p_47 (y_best 0 f) lf_47 k a_47 im md) _ := hP
      have hD : va_D A (mW cI am ke ve f_47 tb tl p_47 (y_best 0 f) lf_47 k a_47 im md) := hD
      refine lv_aload_n hx hb dX6_boot_67 rfl (lv_at hl 2 rfl) ?_
      refine va_get (D := D) (ci := 6) (v := .int p_47) (C := RX6) (T := TX6) (N := 13) hx hb hts iX6_boot_X6 hown hK hP 0 rfl rfl 6 (by decide) (hts _ qX6_boot_2) (fun _ h9 => h9) rfl dX6_boot_68 ?_
      refine lv_if_eq (tgt := 78) hx hb dX6_boot_71 (by decide) (fun c_71 => ?_) (fun c_71 => ?_)
      · -- 71 t
        refine lv_bipush (v := (-2)) hx hb dX6_boot_78 (by decide) ?_
        exact hret 80 ls _ _ ((-2), f_47, p_47, y_best 0 f, lf_47, a_47) (-2) _ dX6_boot_80 rfl rfl rfl (absurd c_71 c_55) hP hS
      · -- 71 f
        refine lv_iload_n hx hb dX6_boot_74 rfl (lv_at hl 1 rfl) ?_
        refine lv_goto (tgt := 80) hx hb dX6_boot_75 (by decide) ?_
        exact hret 80 ls _ _ (y_best 0 f, f_47, p_47, y_best 0 f, lf_47, a_47) (y_best 0 f) _ dX6_boot_80 rfl rfl rfl (by simp only [y_boot, if_neg c_25]; rw [show y_best 0 f = nI wj from hw, nI_clamp (show wj < 2 ^ 31 by omega), ← hu_47]; simp only [y_boot2, if_neg c_71]) hP hS
abbrev rm_X6_confirm : Room := { frames := 2, cells := 0, slots := 0, locals := 44 }
set_option maxRecDepth 20000 in
theorem qX6_confirm_1 : (Cond.fieldLink RX6 36 "FlashBootModel" "thrown" "I" : Cond) ∈ wsX6_confirm := List.mem_of_getElem? (i := 1) rfl
set_option maxRecDepth 20000 in
theorem iX6_confirm_X6 : ∀ w ∈ wsX60, w ∈ wsX6_confirm := by decide +kernel
set_option maxRecDepth 20000 in
theorem qX6_confirm_2 : (Cond.fieldLink RX6 19 "FlashBootModel" "power" "Z" : Cond) ∈ wsX6_confirm := List.mem_of_getElem? (i := 2) rfl
set_option maxRecDepth 20000 in
theorem qX6_confirm_3 : (Cond.fieldLink RX6 23 "FlashBootModel" "runs" "I" : Cond) ∈ wsX6_confirm := List.mem_of_getElem? (i := 3) rfl
set_option maxRecDepth 20000 in
theorem qX6_confirm_4 : (Cond.fieldLink RX6 7 "FlashBootModel" "flash" "[I" : Cond) ∈ wsX6_confirm := List.mem_of_getElem? (i := 4) rfl
set_option maxHeartbeats 4000000 in
set_option maxRecDepth 100000 in
theorem k_X6_confirm (l : Launch) (D : va_G) (cI : ClassId) (am : Nat → Nat) (ke : RW) (ve : Int32) (f : RW) (tb : RW) (tl : Nat) (p : Int32) (r : Int32) (lf : Int32) (k : Int32) (a : Int32) (im : RW) (md : Nat)  (hr : r = -7 ∨ ∃ j : Nat, j < 2 ∧ r = nI j) (hB : zbOk f) : zMW (S := Int32 × RW × Int32 × Int32 × Int32 × Int32) l D cI yX6_confirm wsX6_confirm rm_X6_confirm [.ref (am 0)] (mW cI am ke ve f tb tl p r lf k a im md) (y_confirm k (f, p, r, lf, a)) (fun u => some (.int u.1)) (fun u => mW cI am ke ve u.2.1 tb tl u.2.2.1 u.2.2.2.1 u.2.2.2.2.1 k u.2.2.2.2.2 im md) := by
  refine zEntW (cc := cX6_confirm) (maxL := 3) (ret := (some .int)) (own := RX6) (lvs := [(0, .ref (am 0))]) (by decide) rfl rfl (Nat.le_of_ble_eq_true rfl) rfl ?_
  intro p0 e s m args below meth c Q ls A hx hb hml hts hown hP hK hN hD hS hA hl hret hretV
  refine lv_aload_n hx hb dX6_confirm_0 rfl (lv_at hl 0 rfl) ?_
  refine lv_iconst (v := 0) hx hb dX6_confirm_1 (by decide) ?_
  refine va_put (D := D) (ci := 6) (v := .int 0) (ty := .int) (C := RX6) (T := TX6) (N := 13) hx hb hts iX6_confirm_X6 tyX6 tyX6_ok nmX6 hown hK hP hD hS 0 rfl rfl 0 (by decide) (hts _ qX6_confirm_1) (fun _ h9 => h9) rfl (by decide +kernel) rfl rfl (Nat.le_of_ble_eq_true rfl) dX6_confirm_2 (fun H locs hP hD hS => ?_)
  have hP : va_P D vwCl (mW cI am ke ve f tb tl p r lf k a im md) _ := hP
  have hD : va_D A (mW cI am ke ve f tb tl p r lf k a im md) := hD
  refine lv_aload_n hx hb dX6_confirm_5 rfl (lv_at hl 0 rfl) ?_
  refine va_get (D := D) (ci := 6) (v := .int p) (C := RX6) (T := TX6) (N := 13) hx hb hts iX6_confirm_X6 hown hK hP 0 rfl rfl 6 (by decide) (hts _ qX6_confirm_2) (fun _ h9 => h9) rfl dX6_confirm_6 ?_
  refine lv_if_ne (tgt := 15) hx hb dX6_confirm_9 (by decide) (fun c_9 => ?_) (fun c_9 => ?_)
  · -- 9 t
    refine lv_aload_n hx hb dX6_confirm_15 rfl (lv_at hl 0 rfl) ?_
    refine va_get (D := D) (ci := 6) (v := .int r) (C := RX6) (T := TX6) (N := 13) hx hb hts iX6_confirm_X6 hown hK hP 0 rfl rfl 7 (by decide) (hts _ qX6_confirm_3) (fun _ h9 => h9) rfl dX6_confirm_16 ?_
    refine lv_bipush (v := (-7)) hx hb dX6_confirm_19 (by decide) ?_
    refine lv_icmp_ne (tgt := 27) hx hb dX6_confirm_21 (by decide) (fun c_21 => ?_) (fun c_21 => ?_)
    · -- 21 t
      obtain ⟨rj, hj, rfl⟩ := hr.resolve_left c_21
      refine lv_aload_n hx hb dX6_confirm_27 rfl (lv_at hl 0 rfl) ?_
      refine lv_aload_n hx hb dX6_confirm_28 rfl (lv_at hl 0 rfl) ?_
      refine va_get (D := D) (ci := 6) (v := .int (nI rj)) (C := RX6) (T := TX6) (N := 13) hx hb hts iX6_confirm_X6 hown hK hP 0 rfl rfl 7 (by decide) (hts _ qX6_confirm_3) (fun _ h9 => h9) rfl dX6_confirm_29 ?_
      refine zVR (As := [.int (nI rj)]) (rest := []) ⟨hx, hb, hml, hown, hts⟩ (k_X6_isConfirmed l D cI am ke ve f tb tl p (nI rj) lf k a im md rj (by omega)) (cwV 1 hts gX6_confirm_X6_isConfirmed rfl rfl rfl (by decide +kernel) ⟨Nat.le_of_ble_eq_true rfl, Nat.le_of_ble_eq_true rfl⟩) hP hK hN [0, 1, 2, 3, 4] rfl (va_recv hK hP (ci := 6) (q0 := 0) rfl rfl) rfl hl.1 rfl (Nat.le_of_ble_eq_true rfl) dX6_confirm_32 ⟨Nat.zero_le _, Nat.zero_le _⟩ ?_
      refine lv_if_eq (tgt := 40) hx hb dX6_confirm_35 (by decide) (fun c_35 => ?_) (fun c_35 => ?_)
      · -- 35 t
        refine lv_aload_n hx hb dX6_confirm_40 rfl (lv_at hl 0 rfl) ?_
        refine lv_aload_n hx hb dX6_confirm_41 rfl (lv_at hl 0 rfl) ?_
        refine va_get (D := D) (ci := 6) (v := .int (nI rj)) (C := RX6) (T := TX6) (N := 13) hx hb hts iX6_confirm_X6 hown hK hP 0 rfl rfl 7 (by decide) (hts _ qX6_confirm_3) (fun _ h9 => h9) rfl dX6_confirm_42 ?_
        refine zVR (As := [.int (nI rj)]) (rest := []) ⟨hx, hb, hml, hown, hts⟩ (k_X6_sequenceOf l D cI am ke ve f tb tl p (nI rj) lf k a im md rj (by omega)) (cwV 1 hts gX6_confirm_X6_sequenceOf rfl rfl rfl (by decide +kernel) ⟨Nat.le_of_ble_eq_true rfl, Nat.le_of_ble_eq_true rfl⟩) hP hK hN [0, 1, 2, 3, 4] rfl (va_recv hK hP (ci := 6) (q0 := 0) rfl rfl) rfl hl.1 rfl (Nat.le_of_ble_eq_true rfl) dX6_confirm_45 ⟨Nat.zero_le _, Nat.zero_le _⟩ ?_
        refine lv_istore_n (lv' := [(1, .int (f (224 * rj + 192 + 1))), (0, .ref (am 0))]) hx hb dX6_confirm_48 rfl hl (by decide) rfl (fun ls hl => ?_)
        refine lv_aload_n hx hb dX6_confirm_49 rfl (lv_at hl 1 rfl) ?_
        refine lv_aload_n hx hb dX6_confirm_50 rfl (lv_at hl 1 rfl) ?_
        refine va_get (D := D) (ci := 6) (v := .int (nI rj)) (C := RX6) (T := TX6) (N := 13) hx hb hts iX6_confirm_X6 hown hK hP 0 rfl rfl 7 (by decide) (hts _ qX6_confirm_3) (fun _ h9 => h9) rfl dX6_confirm_51 ?_
        refine zSR (As := [.int (nI rj)]) (rest := [.ref (am 0)]) ⟨hx, hb, hml, hown, hts⟩ (k_X6_headerAt l D cI rj) (va_cwS 1 hts gX6_confirm_X6_headerAt rfl rfl rfl (by decide +kernel) ⟨Nat.le_of_ble_eq_true rfl, Nat.le_of_ble_eq_true rfl⟩) hP hK hN [] rfl rfl hl.1 rfl (Nat.le_of_ble_eq_true rfl) dX6_confirm_54 ⟨Nat.zero_le _, Nat.zero_le _⟩ ?_
        refine lv_bipush (v := 7) hx hb dX6_confirm_57 (by decide) ?_
        refine lv_iadd hx hb dX6_confirm_59 ?_
        refine z_top (v := nI ((224 * rj + 192) + 7)) (nI_add (224 * rj + 192) 7) ?_
        refine lv_iconst (v := 0) hx hb dX6_confirm_60 (by decide) ?_
        refine zVW (ws' := fun u => mW cI am ke ve u.1 tb tl u.2.1 u.2.2.1 u.2.2.2.1 k u.2.2.2.2 im md) (As := [.int (nI ((224 * rj + 192) + 7)), .int 0]) (rest := []) ⟨hx, hb, hml, hown, hts⟩ (k_X6_program l D cI am ke ve f tb tl p (nI rj) lf k a im md ((224 * rj + 192) + 7) 0 (by omega)) (cwV 2 hts gX6_confirm_X6_program rfl rfl rfl (by decide +kernel) ⟨Nat.le_of_ble_eq_true rfl, Nat.le_of_ble_eq_true rfl⟩) hP hK hN hD hS hA [0, 1, 2, 3, 4] [] [] rfl (by decide) rfl (fun _ => rfl) (fun _ => rfl) (fun _ => rfl) rfl (va_recv hK hP (ci := 6) (q0 := 0) rfl rfl) rfl hl.1 rfl (Nat.le_of_ble_eq_true rfl) dX6_confirm_61 ⟨Nat.zero_le _, Nat.zero_le _⟩ (fun u_61 H locs hu_61 hP hD hS => ?_)
        obtain ⟨f_61, p_61, r_61, lf_61, a_61⟩ := u_61
        have hP : va_P D vwCl (mW cI am ke ve f_61 tb tl p_61 r_61 lf_61 k a_61 im md) _ := hP
        have hD : va_D A (mW cI am ke ve f_61 tb tl p_61 r_61 lf_61 k a_61 im md) := hD
        refine W.eq (g2 := F0 m 64 ls []) rfl ?_
        refine lv_sipush (v := 704) hx hb dX6_confirm_64 (by decide) ?_
        refine lv_istore_n (lv' := [(2, .int 704), (1, .int (f (224 * rj + 192 + 1))), (0, .ref (am 0))]) hx hb dX6_confirm_67 rfl hl (by decide) rfl (fun ls hl => ?_)
        have lp_68 : ∀ (g_68 : Nat) (d : Nat) (i : Nat) (f9 : RW) (p9 : Int32) (r9 : Int32) (l9 : Int32) (a9 : Int32) (H : Heap) (locs : List Loc) (ls : Array Slot), i + d = 736 → zbOk f9 → y_cfO k (f (224 * rj + 192 + 1)) d i (f9, p9, r9, l9, a9) = y_cfO k (f (224 * rj + 192 + 1)) 32 704 (y_prog k (224 * rj + 192 + 7) 0 (f, p, nI rj, lf, a)) → d < g_68 → va_P D vwCl (mW cI am ke ve f9 tb tl p9 r9 l9 k a9 im md) H → va_D A (mW cI am ke ve f9 tb tl p9 r9 l9 k a9 im md) → va_S A s.heap H locs → lv_has ls 3 [(0, .ref (am 0)), (1, .int (f (224 * rj + 192 + 1))), (2, .int (nI i))] → W p0 l e rm_X6_confirm s m args below meth c H locs 0 0 Q (F0 m 68 ls []) := by
          intro g_68
          induction g_68 with
          | zero => intro d i f9 p9 r9 l9 a9 H locs ls h1 hB9 hy h9_68; exact absurd h9_68 (Nat.not_lt_zero _)
          | succ g_68 ih_68 =>
            intro d i f9 p9 r9 l9 a9 H locs ls h1 hB9 hy h9_68 hP hD hS hl
            refine lv_iload_n hx hb dX6_confirm_68 rfl (lv_at hl 2 rfl) ?_
            refine lv_sipush (v := 736) hx hb dX6_confirm_69 (by decide) ?_
            refine z_icmp_ge (tgt := 122) hx hb dX6_confirm_72 (by decide) i 736 rfl rfl (by omega) (by omega) (fun c_72 => ?_) (fun c_72 => ?_)
            · -- 72 t
              obtain rfl : d = 0 := by omega
              have hy9 : (f9, p9, r9, l9, a9) = y_cfO k (f (224 * rj + 192 + 1)) 32 704 (y_prog k (224 * rj + 192 + 7) 0 (f, p, nI rj, lf, a)) := hy
              refine lv_aload_n hx hb dX6_confirm_122 rfl (lv_at hl 0 rfl) ?_
              refine va_get (D := D) (ci := 6) (v := .int p9) (C := RX6) (T := TX6) (N := 13) hx hb hts iX6_confirm_X6 hown hK hP 0 rfl rfl 6 (by decide) (hts _ qX6_confirm_2) (fun _ h9 => h9) rfl dX6_confirm_123 ?_
              refine lv_if_eq (tgt := 133) hx hb dX6_confirm_126 (by decide) (fun c_126 => ?_) (fun c_126 => ?_)
              · -- 126 t
                refine lv_bipush (v := (-2)) hx hb dX6_confirm_133 (by decide) ?_
                exact hret 135 ls _ _ ((-2), f9, p9, r9, l9, a9) (-2) _ dX6_confirm_135 rfl rfl rfl (by simp only [y_confirm, if_neg c_9, if_neg c_21, nI_clamp (show rj < 2 ^ 31 by omega), if_pos c_35, ← hy9, y_conf3, if_pos c_126]) hP hS
              · -- 126 f
                refine lv_iconst (v := 1) hx hb dX6_confirm_129 (by decide) ?_
                refine lv_goto (tgt := 135) hx hb dX6_confirm_130 (by decide) ?_
                exact hret 135 ls _ _ (1, f9, p9, r9, l9, a9) 1 _ dX6_confirm_135 rfl rfl rfl (by simp only [y_confirm, if_neg c_9, if_neg c_21, nI_clamp (show rj < 2 ^ 31 by omega), if_pos c_35, ← hy9, y_conf3, if_neg c_126]) hP hS
            · -- 72 f
              obtain ⟨d, rfl⟩ : ∃ d1, d = d1 + 1 := ⟨d - 1, by omega⟩
              have lp_75 : ∀ (g_75 : Nat) (e1 : Nat) (f8 : RW) (p8 : Int32) (r8 : Int32) (l8 : Int32) (a8 : Int32) (H : Heap) (locs : List Loc) (ls : Array Slot), y_meas i (f8, p8, r8, l8, a8) + 1 ≤ e1 → zbOk f8 → y_cfI k (f (224 * rj + 192 + 1)) i e1 (f8, p8, r8, l8, a8) = y_cfI k (f (224 * rj + 192 + 1)) i 257 (f9, p9, r9, l9, a9) → e1 < g_75 → va_P D vwCl (mW cI am ke ve f8 tb tl p8 r8 l8 k a8 im md) H → va_D A (mW cI am ke ve f8 tb tl p8 r8 l8 k a8 im md) → va_S A s.heap H locs → lv_has ls 3 [(0, .ref (am 0)), (1, .int (f (224 * rj + 192 + 1))), (2, .int (nI i))] → W p0 l e rm_X6_confirm s m args below meth c H locs 0 0 Q (F0 m 75 ls []) := by
                intro g_75
                induction g_75 with
                | zero => intro e1 f8 p8 r8 l8 a8 H locs ls g1 hB8 hz h9_75; exact absurd h9_75 (Nat.not_lt_zero _)
                | succ g_75 ih_75 =>
                  intro e1 f8 p8 r8 l8 a8 H locs ls g1 hB8 hz h9_75 hP hD hS hl
                  refine lv_aload_n hx hb dX6_confirm_75 rfl (lv_at hl 0 rfl) ?_
                  obtain ⟨e1, rfl⟩ : ∃ q, e1 = q + 1 := ⟨e1 - 1, by omega⟩
                  refine va_get (D := D) (ci := 6) (v := .int p8) (C := RX6) (T := TX6) (N := 13) hx hb hts iX6_confirm_X6 hown hK hP 0 rfl rfl 6 (by decide) (hts _ qX6_confirm_2) (fun _ h9 => h9) rfl dX6_confirm_76 ?_
                  refine lv_if_eq (tgt := 116) hx hb dX6_confirm_79 (by decide) (fun c_79 => ?_) (fun c_79 => ?_)
                  · -- 79 t
                    refine lv_iinc (v := (nI (i + 1))) (lv' := [(2, .int (nI (i + 1))), (0, .ref (am 0)), (1, .int (f (224 * rj + 192 + 1)))]) hx hb dX6_confirm_116 hl (k := 2) rfl (z_inc _ _ rfl) (by decide) rfl (fun ls hl => ?_)
                    refine lv_goto (tgt := 68) hx hb dX6_confirm_119 (by decide) ?_
                    exact ih_68 d (i + 1) f8 p8 r8 l8 a8 _ _ _ (by omega) hB8 (by rw [← hy, y_cfO, ← hz, y_cfI]; simp only [if_pos c_79]) (by omega) hP hD hS (lv_sub hl [1, 2, 0] rfl)
                  · -- 79 f
                    refine lv_aload_n hx hb dX6_confirm_82 rfl (lv_at hl 0 rfl) ?_
                    refine va_get (D := D) (ci := 6) (v := .ref (am 1)) (C := RX6) (T := TX6) (N := 13) hx hb hts iX6_confirm_X6 hown hK hP 0 rfl rfl 1 (by decide) (hts _ qX6_confirm_4) (fun _ h9 => h9) rfl dX6_confirm_83 ?_
                    refine lv_iload_n hx hb dX6_confirm_86 rfl (lv_at hl 2 rfl) ?_
                    refine z_iald hx hb hK hP 1 0 rfl rfl i rfl (by omega) (by decide) dX6_confirm_87 ?_
                    refine lv_if_eq (tgt := 116) hx hb dX6_confirm_88 (by decide) (fun c_88 => ?_) (fun c_88 => ?_)
                    · -- 88 t
                      refine lv_iinc (v := (nI (i + 1))) (lv' := [(2, .int (nI (i + 1))), (0, .ref (am 0)), (1, .int (f (224 * rj + 192 + 1)))]) hx hb dX6_confirm_116 hl (k := 2) rfl (z_inc _ _ rfl) (by decide) rfl (fun ls hl => ?_)
                      refine lv_goto (tgt := 68) hx hb dX6_confirm_119 (by decide) ?_
                      exact ih_68 d (i + 1) f8 p8 r8 l8 a8 _ _ _ (by omega) hB8 (by rw [← hy, y_cfO, ← hz, y_cfI]; simp only [if_neg c_79, if_pos c_88]) (by omega) hP hD hS (lv_sub hl [1, 2, 0] rfl)
                    · -- 88 f
                      refine lv_aload_n hx hb dX6_confirm_91 rfl (lv_at hl 0 rfl) ?_
                      refine zVR (As := []) (rest := []) ⟨hx, hb, hml, hown, hts⟩ (k_X6_counterValue l D cI am ke ve f8 tb tl p8 r8 l8 k a8 im md) (cwV 0 hts gX6_confirm_X6_counterValue rfl rfl rfl (by decide +kernel) ⟨Nat.le_of_ble_eq_true rfl, Nat.le_of_ble_eq_true rfl⟩) hP hK hN [0, 1, 2, 3, 4] rfl (va_recv hK hP (ci := 6) (q0 := 0) rfl rfl) rfl hl.1 rfl (Nat.le_of_ble_eq_true rfl) dX6_confirm_92 ⟨Nat.zero_le _, Nat.zero_le _⟩ ?_
                      refine lv_iload_n hx hb dX6_confirm_95 rfl (lv_at hl 1 rfl) ?_
                      refine lv_icmp_ge (tgt := 116) hx hb dX6_confirm_96 (by decide) (fun c_96 => ?_) (fun c_96 => ?_)
                      · -- 96 t
                        refine lv_iinc (v := (nI (i + 1))) (lv' := [(2, .int (nI (i + 1))), (0, .ref (am 0)), (1, .int (f (224 * rj + 192 + 1)))]) hx hb dX6_confirm_116 hl (k := 2) rfl (z_inc _ _ rfl) (by decide) rfl (fun ls hl => ?_)
                        refine lv_goto (tgt := 68) hx hb dX6_confirm_119 (by decide) ?_
                        exact ih_68 d (i + 1) f8 p8 r8 l8 a8 _ _ _ (by omega) hB8 (by rw [← hy, y_cfO, ← hz, y_cfI]; simp only [if_neg c_79, if_neg c_88, if_pos c_96]) (by omega) hP hD hS (lv_sub hl [1, 2, 0] rfl)
                      · -- 96 f
                        refine lv_aload_n hx hb dX6_confirm_99 rfl (lv_at hl 0 rfl) ?_
                        refine lv_iload_n hx hb dX6_confirm_100 rfl (lv_at hl 2 rfl) ?_
                        refine lv_aload_n hx hb dX6_confirm_101 rfl (lv_at hl 0 rfl) ?_
                        refine va_get (D := D) (ci := 6) (v := .ref (am 1)) (C := RX6) (T := TX6) (N := 13) hx hb hts iX6_confirm_X6 hown hK hP 0 rfl rfl 1 (by decide) (hts _ qX6_confirm_4) (fun _ h9 => h9) rfl dX6_confirm_102 ?_
                        refine lv_iload_n hx hb dX6_confirm_105 rfl (lv_at hl 2 rfl) ?_
                        refine z_iald hx hb hK hP 1 0 rfl rfl i rfl (by omega) (by decide) dX6_confirm_106 ?_
                        refine zSR (As := [.int (f8 i)]) (rest := [.int (nI i), .ref (am 0)]) ⟨hx, hb, hml, hown, hts⟩ (k_X6_lessOne l D cI (f8 i)) (va_cwS 1 hts gX6_confirm_X6_lessOne rfl rfl rfl (by decide +kernel) ⟨Nat.le_of_ble_eq_true rfl, Nat.le_of_ble_eq_true rfl⟩) hP hK hN [] rfl rfl hl.1 rfl (Nat.le_of_ble_eq_true rfl) dX6_confirm_107 ⟨Nat.zero_le _, Nat.zero_le _⟩ ?_
                        refine zVW (ws' := fun u => mW cI am ke ve u.1 tb tl u.2.1 u.2.2.1 u.2.2.2.1 k u.2.2.2.2 im md) (As := [.int (nI i), .int (y_less (f8 i))]) (rest := []) ⟨hx, hb, hml, hown, hts⟩ (k_X6_program l D cI am ke ve f8 tb tl p8 r8 l8 k a8 im md i (y_less (f8 i)) (by omega)) (cwV 2 hts gX6_confirm_X6_program rfl rfl rfl (by decide +kernel) ⟨Nat.le_of_ble_eq_true rfl, Nat.le_of_ble_eq_true rfl⟩) hP hK hN hD hS hA [0, 1, 2, 3, 4] [] [] rfl (by decide) rfl (fun _ => rfl) (fun _ => rfl) (fun _ => rfl) rfl (va_recv hK hP (ci := 6) (q0 := 0) rfl rfl) rfl hl.1 rfl (Nat.le_of_ble_eq_true rfl) dX6_confirm_110 ⟨Nat.zero_le _, Nat.zero_le _⟩ (fun u_110 H locs hu_110 hP hD hS => ?_)
                        obtain ⟨f_110, p_110, r_110, lf_110, a_110⟩ := u_110
                        have hP : va_P D vwCl (mW cI am ke ve f_110 tb tl p_110 r_110 lf_110 k a_110 im md) _ := hP
                        have hD : va_D A (mW cI am ke ve f_110 tb tl p_110 r_110 lf_110 k a_110 im md) := hD
                        refine W.eq (g2 := F0 m 113 ls []) rfl ?_
                        refine lv_goto (tgt := 75) hx hb dX6_confirm_113 (by decide) ?_
                        exact ih_75 e1 f_110 p_110 r_110 lf_110 a_110 _ _ _ (y_meas_dec hB8 (by omega) c_79 c_88 hu_110 g1) (y_prog_ok hB8 hu_110 (by omega)) (by rw [← hz, hu_110, y_cfI, if_neg c_79, if_neg c_88, if_neg c_96]) (by omega) hP hD hS (lv_sub hl [0, 1, 2] rfl)
              exact lp_75 _ 257 f9 p9 r9 l9 a9 _ _ _ (y_meas_le hB9 (by omega)) hB9 rfl (Nat.lt_succ_self _) hP hD hS (lv_sub hl [0, 1, 2] rfl)
        exact lp_68 _ 32 704 f_61 p_61 r_61 lf_61 a_61 _ _ _ (by omega) (y_prog_ok hB hu_61 (by omega)) (by rw [hu_61]) (Nat.lt_succ_self _) hP hD hS (lv_sub hl [2, 1, 0] rfl)
      · -- 35 f
        refine lv_iconst (v := 0) hx hb dX6_confirm_38 (by decide) ?_
        exact hret 39 ls _ _ (0, f, p, nI rj, lf, a) 0 _ dX6_confirm_39 rfl rfl rfl (by simp only [y_confirm, if_neg c_9, if_neg c_21, nI_clamp (show rj < 2 ^ 31 by omega), if_neg c_35]) hP hS
    · -- 21 f
      refine lv_bipush (v := (-7)) hx hb dX6_confirm_24 (by decide) ?_
      exact hret 26 ls _ _ ((-7), f, p, r, lf, a) (-7) _ dX6_confirm_26 rfl rfl rfl (by simp only [y_confirm, if_neg c_9, if_pos c_21]) hP hS
  · -- 9 f
    refine lv_bipush (v := (-2)) hx hb dX6_confirm_12 (by decide) ?_
    exact hret 14 ls _ _ ((-2), f, p, r, lf, a) (-2) _ dX6_confirm_14 rfl rfl rfl (by simp only [y_confirm, if_pos c_9]) hP hS
abbrev rm_X6_crash : Room := { frames := 0, cells := 0, slots := 0, locals := 0 }
set_option maxRecDepth 20000 in
theorem qX6_crash_1 : (Cond.fieldLink RX6 36 "FlashBootModel" "thrown" "I" : Cond) ∈ wsX6_crash := List.mem_of_getElem? (i := 1) rfl
set_option maxRecDepth 20000 in
theorem iX6_crash_X6 : ∀ w ∈ wsX60, w ∈ wsX6_crash := by decide +kernel
set_option maxRecDepth 20000 in
theorem qX6_crash_2 : (Cond.fieldLink RX6 27 "FlashBootModel" "left" "I" : Cond) ∈ wsX6_crash := List.mem_of_getElem? (i := 2) rfl
set_option maxRecDepth 20000 in
theorem qX6_crash_3 : (Cond.fieldLink RX6 46 "FlashBootModel" "mask" "I" : Cond) ∈ wsX6_crash := List.mem_of_getElem? (i := 3) rfl
set_option maxHeartbeats 4000000 in
set_option maxRecDepth 100000 in
theorem k_X6_crash (l : Launch) (D : va_G) (cI : ClassId) (am : Nat → Nat) (ke : RW) (ve : Int32) (f : RW) (tb : RW) (tl : Nat) (p : Int32) (r : Int32) (lf : Int32) (k : Int32) (a : Int32) (im : RW) (md : Nat) (x : Int32) (y : Int32)  : zMW (S := Int32 × Int32 × Int32) l D cI yX6_crash wsX6_crash rm_X6_crash [.ref (am 0), .int x, .int y] (mW cI am ke ve f tb tl p r lf k a im md) (y_crash x y lf k) (fun u => some (.int u.1)) (fun u => mW cI am ke ve f tb tl p r u.2.1 u.2.2 a im md) := by
  refine zEntW (cc := cX6_crash) (maxL := 3) (ret := (some .int)) (own := RX6) (lvs := [(0, .ref (am 0)), (1, .int x), (2, .int y)]) (by decide) rfl rfl (Nat.le_of_ble_eq_true rfl) rfl ?_
  intro p0 e s m args below meth c Q ls A hx hb hml hts hown hP hK hN hD hS hA hl hret hretV
  refine lv_aload_n hx hb dX6_crash_0 rfl (lv_at hl 0 rfl) ?_
  refine lv_iconst (v := 0) hx hb dX6_crash_1 (by decide) ?_
  refine va_put (D := D) (ci := 6) (v := .int 0) (ty := .int) (C := RX6) (T := TX6) (N := 13) hx hb hts iX6_crash_X6 tyX6 tyX6_ok nmX6 hown hK hP hD hS 0 rfl rfl 0 (by decide) (hts _ qX6_crash_1) (fun _ h9 => h9) rfl (by decide +kernel) rfl rfl (Nat.le_of_ble_eq_true rfl) dX6_crash_2 (fun H locs hP hD hS => ?_)
  have hP : va_P D vwCl (mW cI am ke ve f tb tl p r lf k a im md) _ := hP
  have hD : va_D A (mW cI am ke ve f tb tl p r lf k a im md) := hD
  refine lv_iload_n hx hb dX6_crash_5 rfl (lv_at hl 2 rfl) ?_
  refine lv_if_lt (tgt := 16) hx hb dX6_crash_6 (by decide) (fun c_6 => ?_) (fun c_6 => ?_)
  · -- 6 t
    refine lv_iconst (v := (-1)) hx hb dX6_crash_16 (by decide) ?_
    exact hret 17 ls _ _ ((-1), lf, k) (-1) _ dX6_crash_17 rfl rfl rfl (by simp only [y_crash, if_pos c_6]) hP hS
  · -- 6 f
    refine lv_iload_n hx hb dX6_crash_9 rfl (lv_at hl 2 rfl) ?_
    refine lv_sipush (v := 255) hx hb dX6_crash_10 (by decide) ?_
    refine lv_icmp_le (tgt := 18) hx hb dX6_crash_13 (by decide) (fun c_13 => ?_) (fun c_13 => ?_)
    · -- 13 t
      refine lv_aload_n hx hb dX6_crash_18 rfl (lv_at hl 0 rfl) ?_
      refine lv_iload_n hx hb dX6_crash_19 rfl (lv_at hl 1 rfl) ?_
      refine lv_if_ge (tgt := 27) hx hb dX6_crash_20 (by decide) (fun c_20 => ?_) (fun c_20 => ?_)
      · -- 20 t
        refine lv_iload_n hx hb dX6_crash_27 rfl (lv_at hl 1 rfl) ?_
        refine va_put (D := D) (ci := 6) (v := .int x) (ty := .int) (C := RX6) (T := TX6) (N := 13) hx hb hts iX6_crash_X6 tyX6 tyX6_ok nmX6 hown hK hP hD hS 0 rfl rfl 8 (by decide) (hts _ qX6_crash_2) (fun _ h9 => h9) rfl (by decide +kernel) rfl rfl (Nat.le_of_ble_eq_true rfl) dX6_crash_28 (fun H locs hP hD hS => ?_)
        have hP : va_P D vwCl (mW cI am ke ve f tb tl p r x k a im md) _ := hP
        have hD : va_D A (mW cI am ke ve f tb tl p r x k a im md) := hD
        refine lv_aload_n hx hb dX6_crash_31 rfl (lv_at hl 0 rfl) ?_
        refine lv_iload_n hx hb dX6_crash_32 rfl (lv_at hl 2 rfl) ?_
        refine va_put (D := D) (ci := 6) (v := .int y) (ty := .int) (C := RX6) (T := TX6) (N := 13) hx hb hts iX6_crash_X6 tyX6 tyX6_ok nmX6 hown hK hP hD hS 0 rfl rfl 9 (by decide) (hts _ qX6_crash_3) (fun _ h9 => h9) rfl (by decide +kernel) rfl rfl (Nat.le_of_ble_eq_true rfl) dX6_crash_33 (fun H locs hP hD hS => ?_)
        have hP : va_P D vwCl (mW cI am ke ve f tb tl p r x y a im md) _ := hP
        have hD : va_D A (mW cI am ke ve f tb tl p r x y a im md) := hD
        refine lv_iconst (v := 1) hx hb dX6_crash_36 (by decide) ?_
        exact hret 37 ls _ _ (1, x, y) 1 _ dX6_crash_37 rfl rfl rfl (by simp only [y_crash, if_neg c_6, if_pos c_13, if_pos c_20]) hP hS
      · -- 20 f
        refine lv_iconst (v := (-1)) hx hb dX6_crash_23 (by decide) ?_
        refine lv_goto (tgt := 28) hx hb dX6_crash_24 (by decide) ?_
        refine va_put (D := D) (ci := 6) (v := .int (-1)) (ty := .int) (C := RX6) (T := TX6) (N := 13) hx hb hts iX6_crash_X6 tyX6 tyX6_ok nmX6 hown hK hP hD hS 0 rfl rfl 8 (by decide) (hts _ qX6_crash_2) (fun _ h9 => h9) rfl (by decide +kernel) rfl rfl (Nat.le_of_ble_eq_true rfl) dX6_crash_28 (fun H locs hP hD hS => ?_)
        have hP : va_P D vwCl (mW cI am ke ve f tb tl p r (-1) k a im md) _ := hP
        have hD : va_D A (mW cI am ke ve f tb tl p r (-1) k a im md) := hD
        refine lv_aload_n hx hb dX6_crash_31 rfl (lv_at hl 0 rfl) ?_
        refine lv_iload_n hx hb dX6_crash_32 rfl (lv_at hl 2 rfl) ?_
        refine va_put (D := D) (ci := 6) (v := .int y) (ty := .int) (C := RX6) (T := TX6) (N := 13) hx hb hts iX6_crash_X6 tyX6 tyX6_ok nmX6 hown hK hP hD hS 0 rfl rfl 9 (by decide) (hts _ qX6_crash_3) (fun _ h9 => h9) rfl (by decide +kernel) rfl rfl (Nat.le_of_ble_eq_true rfl) dX6_crash_33 (fun H locs hP hD hS => ?_)
        have hP : va_P D vwCl (mW cI am ke ve f tb tl p r (-1) y a im md) _ := hP
        have hD : va_D A (mW cI am ke ve f tb tl p r (-1) y a im md) := hD
        refine lv_iconst (v := 1) hx hb dX6_crash_36 (by decide) ?_
        exact hret 37 ls _ _ (1, (-1), y) 1 _ dX6_crash_37 rfl rfl rfl (by simp only [y_crash, if_neg c_6, if_pos c_13, if_neg c_20]) hP hS
    · -- 13 f
      refine lv_iconst (v := (-1)) hx hb dX6_crash_16 (by decide) ?_
      exact hret 17 ls _ _ ((-1), lf, k) (-1) _ dX6_crash_17 rfl rfl rfl (by simp only [y_crash, if_neg c_6, if_neg c_13]) hP hS
abbrev rm_X6_running : Room := { frames := 0, cells := 0, slots := 0, locals := 0 }
set_option maxRecDepth 20000 in
theorem qX6_running_1 : (Cond.fieldLink RX6 36 "FlashBootModel" "thrown" "I" : Cond) ∈ wsX6_running := List.mem_of_getElem? (i := 1) rfl
set_option maxRecDepth 20000 in
theorem iX6_running_X6 : ∀ w ∈ wsX60, w ∈ wsX6_running := by decide +kernel
set_option maxRecDepth 20000 in
theorem qX6_running_2 : (Cond.fieldLink RX6 23 "FlashBootModel" "runs" "I" : Cond) ∈ wsX6_running := List.mem_of_getElem? (i := 2) rfl
set_option maxHeartbeats 4000000 in
set_option maxRecDepth 100000 in
theorem k_X6_running (l : Launch) (D : va_G) (cI : ClassId) (am : Nat → Nat) (ke : RW) (ve : Int32) (f : RW) (tb : RW) (tl : Nat) (p : Int32) (r : Int32) (lf : Int32) (k : Int32) (a : Int32) (im : RW) (md : Nat)   : zMW (S := Int32) l D cI yX6_running wsX6_running rm_X6_running [.ref (am 0)] (mW cI am ke ve f tb tl p r lf k a im md) (r) (fun u => some (.int u)) (fun u => mW cI am ke ve f tb tl p r lf k a im md) := by
  refine zEntW (cc := cX6_running) (maxL := 1) (ret := (some .int)) (own := RX6) (lvs := [(0, .ref (am 0))]) (by decide) rfl rfl (Nat.le_of_ble_eq_true rfl) rfl ?_
  intro p0 e s m args below meth c Q ls A hx hb hml hts hown hP hK hN hD hS hA hl hret hretV
  refine lv_aload_n hx hb dX6_running_0 rfl (lv_at hl 0 rfl) ?_
  refine lv_iconst (v := 0) hx hb dX6_running_1 (by decide) ?_
  refine va_put (D := D) (ci := 6) (v := .int 0) (ty := .int) (C := RX6) (T := TX6) (N := 13) hx hb hts iX6_running_X6 tyX6 tyX6_ok nmX6 hown hK hP hD hS 0 rfl rfl 0 (by decide) (hts _ qX6_running_1) (fun _ h9 => h9) rfl (by decide +kernel) rfl rfl (Nat.le_of_ble_eq_true rfl) dX6_running_2 (fun H locs hP hD hS => ?_)
  have hP : va_P D vwCl (mW cI am ke ve f tb tl p r lf k a im md) _ := hP
  have hD : va_D A (mW cI am ke ve f tb tl p r lf k a im md) := hD
  refine lv_aload_n hx hb dX6_running_5 rfl (lv_at hl 0 rfl) ?_
  refine va_get (D := D) (ci := 6) (v := .int r) (C := RX6) (T := TX6) (N := 13) hx hb hts iX6_running_X6 hown hK hP 0 rfl rfl 7 (by decide) (hts _ qX6_running_2) (fun _ h9 => h9) rfl dX6_running_6 ?_
  exact hret 9 ls _ _ (r) r _ dX6_running_9 rfl rfl rfl (by rfl) hP hS
abbrev rm_X6_counter : Room := { frames := 2, cells := 0, slots := 0, locals := 44 }
set_option maxRecDepth 20000 in
theorem qX6_counter_1 : (Cond.fieldLink RX6 36 "FlashBootModel" "thrown" "I" : Cond) ∈ wsX6_counter := List.mem_of_getElem? (i := 1) rfl
set_option maxRecDepth 20000 in
theorem iX6_counter_X6 : ∀ w ∈ wsX60, w ∈ wsX6_counter := by decide +kernel
set_option maxHeartbeats 4000000 in
set_option maxRecDepth 100000 in
theorem k_X6_counter (l : Launch) (D : va_G) (cI : ClassId) (am : Nat → Nat) (ke : RW) (ve : Int32) (f : RW) (tb : RW) (tl : Nat) (p : Int32) (r : Int32) (lf : Int32) (k : Int32) (a : Int32) (im : RW) (md : Nat)   : zMW (S := Int32) l D cI yX6_counter wsX6_counter rm_X6_counter [.ref (am 0)] (mW cI am ke ve f tb tl p r lf k a im md) (y_cv f) (fun u => some (.int u)) (fun u => mW cI am ke ve f tb tl p r lf k a im md) := by
  refine zEntW (cc := cX6_counter) (maxL := 1) (ret := (some .int)) (own := RX6) (lvs := [(0, .ref (am 0))]) (by decide) rfl rfl (Nat.le_of_ble_eq_true rfl) rfl ?_
  intro p0 e s m args below meth c Q ls A hx hb hml hts hown hP hK hN hD hS hA hl hret hretV
  refine lv_aload_n hx hb dX6_counter_0 rfl (lv_at hl 0 rfl) ?_
  refine lv_iconst (v := 0) hx hb dX6_counter_1 (by decide) ?_
  refine va_put (D := D) (ci := 6) (v := .int 0) (ty := .int) (C := RX6) (T := TX6) (N := 13) hx hb hts iX6_counter_X6 tyX6 tyX6_ok nmX6 hown hK hP hD hS 0 rfl rfl 0 (by decide) (hts _ qX6_counter_1) (fun _ h9 => h9) rfl (by decide +kernel) rfl rfl (Nat.le_of_ble_eq_true rfl) dX6_counter_2 (fun H locs hP hD hS => ?_)
  have hP : va_P D vwCl (mW cI am ke ve f tb tl p r lf k a im md) _ := hP
  have hD : va_D A (mW cI am ke ve f tb tl p r lf k a im md) := hD
  refine lv_aload_n hx hb dX6_counter_5 rfl (lv_at hl 0 rfl) ?_
  refine zVR (As := []) (rest := []) ⟨hx, hb, hml, hown, hts⟩ (k_X6_counterValue l D cI am ke ve f tb tl p r lf k a im md) (cwV 0 hts gX6_counter_X6_counterValue rfl rfl rfl (by decide +kernel) ⟨Nat.le_of_ble_eq_true rfl, Nat.le_of_ble_eq_true rfl⟩) hP hK hN [0, 1, 2, 3, 4] rfl (va_recv hK hP (ci := 6) (q0 := 0) rfl rfl) rfl hl.1 rfl (Nat.le_of_ble_eq_true rfl) dX6_counter_6 ⟨Nat.zero_le _, Nat.zero_le _⟩ ?_
  exact hret 9 ls _ _ (y_cv f) (y_cv f) _ dX6_counter_9 rfl rfl rfl (by rfl) hP hS
abbrev rm_X6_acts : Room := { frames := 0, cells := 0, slots := 0, locals := 0 }
set_option maxRecDepth 20000 in
theorem qX6_acts_1 : (Cond.fieldLink RX6 36 "FlashBootModel" "thrown" "I" : Cond) ∈ wsX6_acts := List.mem_of_getElem? (i := 1) rfl
set_option maxRecDepth 20000 in
theorem iX6_acts_X6 : ∀ w ∈ wsX60, w ∈ wsX6_acts := by decide +kernel
set_option maxRecDepth 20000 in
theorem qX6_acts_2 : (Cond.fieldLink RX6 39 "FlashBootModel" "acts" "I" : Cond) ∈ wsX6_acts := List.mem_of_getElem? (i := 2) rfl
set_option maxHeartbeats 4000000 in
set_option maxRecDepth 100000 in
theorem k_X6_acts (l : Launch) (D : va_G) (cI : ClassId) (am : Nat → Nat) (ke : RW) (ve : Int32) (f : RW) (tb : RW) (tl : Nat) (p : Int32) (r : Int32) (lf : Int32) (k : Int32) (a : Int32) (im : RW) (md : Nat)   : zMW (S := Int32) l D cI yX6_acts wsX6_acts rm_X6_acts [.ref (am 0)] (mW cI am ke ve f tb tl p r lf k a im md) (a) (fun u => some (.int u)) (fun u => mW cI am ke ve f tb tl p r lf k a im md) := by
  refine zEntW (cc := cX6_acts) (maxL := 1) (ret := (some .int)) (own := RX6) (lvs := [(0, .ref (am 0))]) (by decide) rfl rfl (Nat.le_of_ble_eq_true rfl) rfl ?_
  intro p0 e s m args below meth c Q ls A hx hb hml hts hown hP hK hN hD hS hA hl hret hretV
  refine lv_aload_n hx hb dX6_acts_0 rfl (lv_at hl 0 rfl) ?_
  refine lv_iconst (v := 0) hx hb dX6_acts_1 (by decide) ?_
  refine va_put (D := D) (ci := 6) (v := .int 0) (ty := .int) (C := RX6) (T := TX6) (N := 13) hx hb hts iX6_acts_X6 tyX6 tyX6_ok nmX6 hown hK hP hD hS 0 rfl rfl 0 (by decide) (hts _ qX6_acts_1) (fun _ h9 => h9) rfl (by decide +kernel) rfl rfl (Nat.le_of_ble_eq_true rfl) dX6_acts_2 (fun H locs hP hD hS => ?_)
  have hP : va_P D vwCl (mW cI am ke ve f tb tl p r lf k a im md) _ := hP
  have hD : va_D A (mW cI am ke ve f tb tl p r lf k a im md) := hD
  refine lv_aload_n hx hb dX6_acts_5 rfl (lv_at hl 0 rfl) ?_
  refine va_get (D := D) (ci := 6) (v := .int a) (C := RX6) (T := TX6) (N := 13) hx hb hts iX6_acts_X6 hown hK hP 0 rfl rfl 10 (by decide) (hts _ qX6_acts_2) (fun _ h9 => h9) rfl dX6_acts_6 ?_
  exact hret 9 ls _ _ (a) a _ dX6_acts_9 rfl rfl rfl (by rfl) hP hS
abbrev rm_X6_byteOf : Room := { frames := 0, cells := 0, slots := 0, locals := 0 }
set_option maxRecDepth 20000 in
theorem qX6_byteOf_1 : (Cond.fieldLink RX6 36 "FlashBootModel" "thrown" "I" : Cond) ∈ wsX6_byteOf := List.mem_of_getElem? (i := 1) rfl
set_option maxRecDepth 20000 in
theorem iX6_byteOf_X6 : ∀ w ∈ wsX60, w ∈ wsX6_byteOf := by decide +kernel
set_option maxRecDepth 20000 in
theorem qX6_byteOf_2 : (Cond.fieldLink RX6 7 "FlashBootModel" "flash" "[I" : Cond) ∈ wsX6_byteOf := List.mem_of_getElem? (i := 2) rfl
set_option maxHeartbeats 4000000 in
set_option maxRecDepth 100000 in
theorem k_X6_byteOf (l : Launch) (D : va_G) (cI : ClassId) (am : Nat → Nat) (ke : RW) (ve : Int32) (f : RW) (tb : RW) (tl : Nat) (p : Int32) (r : Int32) (lf : Int32) (k : Int32) (a : Int32) (im : RW) (md : Nat) (x : Int32)  : zMW (S := Int32) l D cI yX6_byteOf wsX6_byteOf rm_X6_byteOf [.ref (am 0), .int x] (mW cI am ke ve f tb tl p r lf k a im md) (y_byte f x) (fun u => some (.int u)) (fun u => mW cI am ke ve f tb tl p r lf k a im md) := by
  refine zEntW (cc := cX6_byteOf) (maxL := 2) (ret := (some .int)) (own := RX6) (lvs := [(0, .ref (am 0)), (1, .int x)]) (by decide) rfl rfl (Nat.le_of_ble_eq_true rfl) rfl ?_
  intro p0 e s m args below meth c Q ls A hx hb hml hts hown hP hK hN hD hS hA hl hret hretV
  refine lv_aload_n hx hb dX6_byteOf_0 rfl (lv_at hl 0 rfl) ?_
  refine lv_iconst (v := 0) hx hb dX6_byteOf_1 (by decide) ?_
  refine va_put (D := D) (ci := 6) (v := .int 0) (ty := .int) (C := RX6) (T := TX6) (N := 13) hx hb hts iX6_byteOf_X6 tyX6 tyX6_ok nmX6 hown hK hP hD hS 0 rfl rfl 0 (by decide) (hts _ qX6_byteOf_1) (fun _ h9 => h9) rfl (by decide +kernel) rfl rfl (Nat.le_of_ble_eq_true rfl) dX6_byteOf_2 (fun H locs hP hD hS => ?_)
  have hP : va_P D vwCl (mW cI am ke ve f tb tl p r lf k a im md) _ := hP
  have hD : va_D A (mW cI am ke ve f tb tl p r lf k a im md) := hD
  refine lv_iload_n hx hb dX6_byteOf_5 rfl (lv_at hl 1 rfl) ?_
  refine lv_if_lt (tgt := 16) hx hb dX6_byteOf_6 (by decide) (fun c_6 => ?_) (fun c_6 => ?_)
  · -- 6 t
    refine lv_iconst (v := (-1)) hx hb dX6_byteOf_16 (by decide) ?_
    refine lv_goto (tgt := 26) hx hb dX6_byteOf_17 (by decide) ?_
    exact hret 26 ls _ _ ((-1)) (-1) _ dX6_byteOf_26 rfl rfl rfl (by simp only [y_byte, if_pos c_6]) hP hS
  · -- 6 f
    refine lv_iload_n hx hb dX6_byteOf_9 rfl (lv_at hl 1 rfl) ?_
    refine lv_sipush (v := 767) hx hb dX6_byteOf_10 (by decide) ?_
    refine lv_icmp_le (tgt := 20) hx hb dX6_byteOf_13 (by decide) (fun c_13 => ?_) (fun c_13 => ?_)
    · -- 13 t
      refine lv_aload_n hx hb dX6_byteOf_20 rfl (lv_at hl 0 rfl) ?_
      refine va_get (D := D) (ci := 6) (v := .ref (am 1)) (C := RX6) (T := TX6) (N := 13) hx hb hts iX6_byteOf_X6 hown hK hP 0 rfl rfl 1 (by decide) (hts _ qX6_byteOf_2) (fun _ h9 => h9) rfl dX6_byteOf_21 ?_
      refine lv_iload_n hx hb dX6_byteOf_24 rfl (lv_at hl 1 rfl) ?_
      refine va_iald hx hb hK hP 1 0 rfl rfl (y_vp767 c_6 c_13) dX6_byteOf_25 ?_
      exact hret 26 ls _ _ (f (x).toNatClampNeg) (f (x).toNatClampNeg) _ dX6_byteOf_26 rfl rfl rfl (by simp only [y_byte, if_neg c_6, if_pos c_13]) hP hS
    · -- 13 f
      refine lv_iconst (v := (-1)) hx hb dX6_byteOf_16 (by decide) ?_
      refine lv_goto (tgt := 26) hx hb dX6_byteOf_17 (by decide) ?_
      exact hret 26 ls _ _ ((-1)) (-1) _ dX6_byteOf_26 rfl rfl rfl (by simp only [y_byte, if_neg c_6, if_neg c_13]) hP hS
abbrev rm_X6_good : Room := { frames := 3, cells := 0, slots := 0, locals := 69 }
set_option maxRecDepth 20000 in
theorem qX6_good_1 : (Cond.fieldLink RX6 36 "FlashBootModel" "thrown" "I" : Cond) ∈ wsX6_good := List.mem_of_getElem? (i := 1) rfl
set_option maxRecDepth 20000 in
theorem iX6_good_X6 : ∀ w ∈ wsX60, w ∈ wsX6_good := by decide +kernel
set_option maxHeartbeats 4000000 in
set_option maxRecDepth 100000 in
theorem k_X6_good (l : Launch) (D : va_G) (cI : ClassId) (am : Nat → Nat) (ke : RW) (ve : Int32) (f : RW) (tb : RW) (tl : Nat) (p : Int32) (r : Int32) (lf : Int32) (k : Int32) (a : Int32) (im : RW) (md : Nat) (x : Int32)  : zMW (S := Int32) l D cI yX6_good wsX6_good rm_X6_good [.ref (am 0), .int x] (mW cI am ke ve f tb tl p r lf k a im md) (y_goodF f x) (fun u => some (.int u)) (fun u => mW cI am ke ve f tb tl p r lf k a im md) := by
  refine zEntW (cc := cX6_good) (maxL := 2) (ret := (some .int)) (own := RX6) (lvs := [(0, .ref (am 0)), (1, .int x)]) (by decide) rfl rfl (Nat.le_of_ble_eq_true rfl) rfl ?_
  intro p0 e s m args below meth c Q ls A hx hb hml hts hown hP hK hN hD hS hA hl hret hretV
  refine lv_aload_n hx hb dX6_good_0 rfl (lv_at hl 0 rfl) ?_
  refine lv_iconst (v := 0) hx hb dX6_good_1 (by decide) ?_
  refine va_put (D := D) (ci := 6) (v := .int 0) (ty := .int) (C := RX6) (T := TX6) (N := 13) hx hb hts iX6_good_X6 tyX6 tyX6_ok nmX6 hown hK hP hD hS 0 rfl rfl 0 (by decide) (hts _ qX6_good_1) (fun _ h9 => h9) rfl (by decide +kernel) rfl rfl (Nat.le_of_ble_eq_true rfl) dX6_good_2 (fun H locs hP hD hS => ?_)
  have hP : va_P D vwCl (mW cI am ke ve f tb tl p r lf k a im md) _ := hP
  have hD : va_D A (mW cI am ke ve f tb tl p r lf k a im md) := hD
  refine lv_iload_n hx hb dX6_good_5 rfl (lv_at hl 1 rfl) ?_
  refine lv_if_lt (tgt := 14) hx hb dX6_good_6 (by decide) (fun c_6 => ?_) (fun c_6 => ?_)
  · -- 6 t
    refine lv_iconst (v := (-1)) hx hb dX6_good_14 (by decide) ?_
    refine lv_goto (tgt := 31) hx hb dX6_good_15 (by decide) ?_
    exact hret 31 ls _ _ ((-1)) (-1) _ dX6_good_31 rfl rfl rfl (by simp only [y_goodF, if_pos c_6]) hP hS
  · -- 6 f
    refine lv_iload_n hx hb dX6_good_9 rfl (lv_at hl 1 rfl) ?_
    refine lv_iconst (v := 1) hx hb dX6_good_10 (by decide) ?_
    refine lv_icmp_le (tgt := 18) hx hb dX6_good_11 (by decide) (fun c_11 => ?_) (fun c_11 => ?_)
    · -- 11 t
      obtain ⟨xj, hj, rfl⟩ := y_nat01 c_6 c_11
      refine lv_aload_n hx hb dX6_good_18 rfl (lv_at hl 0 rfl) ?_
      refine lv_iload_n hx hb dX6_good_19 rfl (lv_at hl 1 rfl) ?_
      refine zVR (As := [.int (nI xj)]) (rest := []) ⟨hx, hb, hml, hown, hts⟩ (k_X6_isGood l D cI am ke ve f tb tl p r lf k a im md xj (by omega)) (cwV 1 hts gX6_good_X6_isGood rfl rfl rfl (by decide +kernel) ⟨Nat.le_of_ble_eq_true rfl, Nat.le_of_ble_eq_true rfl⟩) hP hK hN [0, 1, 2, 3, 4] rfl (va_recv hK hP (ci := 6) (q0 := 0) rfl rfl) rfl hl.1 rfl (Nat.le_of_ble_eq_true rfl) dX6_good_20 ⟨Nat.zero_le _, Nat.zero_le _⟩ ?_
      refine lv_if_eq (tgt := 30) hx hb dX6_good_23 (by decide) (fun c_23 => ?_) (fun c_23 => ?_)
      · -- 23 t
        refine lv_iconst (v := 0) hx hb dX6_good_30 (by decide) ?_
        exact hret 31 ls _ _ (0) 0 _ dX6_good_31 rfl rfl rfl (by simp only [y_goodF, if_neg c_6, if_pos c_11, nI_clamp (show xj < 2 ^ 31 by omega), if_pos c_23]) hP hS
      · -- 23 f
        refine lv_iconst (v := 1) hx hb dX6_good_26 (by decide) ?_
        refine lv_goto (tgt := 31) hx hb dX6_good_27 (by decide) ?_
        exact hret 31 ls _ _ (1) 1 _ dX6_good_31 rfl rfl rfl (by simp only [y_goodF, if_neg c_6, if_pos c_11, nI_clamp (show xj < 2 ^ 31 by omega), if_neg c_23]) hP hS
    · -- 11 f
      refine lv_iconst (v := (-1)) hx hb dX6_good_14 (by decide) ?_
      refine lv_goto (tgt := 31) hx hb dX6_good_15 (by decide) ?_
      exact hret 31 ls _ _ ((-1)) (-1) _ dX6_good_31 rfl rfl rfl (by simp only [y_goodF, if_neg c_6, if_neg c_11]) hP hS
