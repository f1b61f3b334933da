abbrev rmX9_text : Room := { frames := 3, cells := 0, slots := 0, locals := 68 }
set_option maxHeartbeats 4000000 in
set_option maxRecDepth 100000 in
theorem c_X9_text {l : Launch} {E : Ev}  {gi : Gd} {g y j : Gd} {td : Nat → Int32} {am : Nat → Nat} {r : va_W} (hI : Inv g) (hJ : IH j gi) (hy : YI y)  : CT l E yX9_text cX9_text 3 (some .int) rmX9_text [.ref (am 0)] (wm E am g y j td ++ r) (PM E am r (sp_text g y) gi) := by
  refine CT.of (lv := [(0, .ref (am 0))]) false (by decide +kernel) (by decide) (Nat.le_of_ble_eq_true rfl) rfl ?_
  have f0 := hI.words
  have f1 := hI.birds
  have f2 := hI.gone
  have f3 := hI.hour
  obtain ⟨y00, y01, y02, y1, y2⟩ := id hy
  refine wf_aload_n 0 dX9_text_0 rfl ?_
  refine wf_iconst (nI 0) dX9_text_1 (by decide) ?_
  refine wf_putf (C := RX9) (T := TX9) (N := 27) (ty := .int) 0 19 (wm E am g y (gs j 0 1 0) td ++ r) tyX9 in_X9 tyX9_ok nmX9 rfl rfl (by decide) fl_X9_77 rfl (by decide +kernel) (by rfl) rfl (Nat.le_of_ble_eq_true rfl) (sf 0 (Nat.le_of_ble_eq_true rfl) (wm_put19 0)) dX9_text_2 ?_
  refine wf_aload_n 0 dX9_text_5 rfl ?_
  refine wf_iconst (nI 0) dX9_text_6 (by decide) ?_
  refine wf_putf (C := RX9) (T := TX9) (N := 27) (ty := .int) 0 20 (wm E am g y (gs (gs j 0 1 0) 0 2 0) td ++ r) tyX9 in_X9 tyX9_ok nmX9 rfl rfl (by decide) fl_X9_91 rfl (by decide +kernel) (by rfl) rfl (Nat.le_of_ble_eq_true rfl) (sf 0 (Nat.le_of_ble_eq_true rfl) (wm_put20 0)) dX9_text_7 ?_
  refine wf_iconst (nI 1) dX9_text_10 (by decide) ?_
  refine wf_istore_n [(1, .int (nI 1)), (0, .ref (am 0))] dX9_text_11 rfl (by decide) rfl ?_
  have L12 : ∀ (fu12 : Nat) (t : Nat) (n : Nat) (b : Nat) (jj : Gd) (tt : Nat → Int32), 30 - t < fu12 → (b ≤ 1) → (t + b = n + 1) → (n ≤ 20) → (jj 0 2 = n) → ((b = 1 → TR y jj tt n) ∧ (b = 0 → eMi y 81 0 = some (jj 0 1))) → (IH jj gi) → WF l E RX9 cX9_text 3 (some .int) rmX9_text false (fun _ => True) (QM E (wm E am g y j td ++ r) (PM E am r (sp_text g y) gi) rmX9_text) (wm E am g y j td ++ r) 0 0 12 [(1, .int (nI b)), (0, .ref (am 0))] [] (wm E am g y jj tt ++ r) := by
    intro fu12
    induction fu12 with
    | zero => intro t n b jj tt hn; exact absurd hn (Nat.not_lt_zero _)
    | succ fu12 ih12 =>
      intro t n b jj tt hn hb ht hn20 hn2 hst hJJ
      refine wf_iload_n 0 dX9_text_12 rfl ?_
      refine wf_if_eq_n 60 dX9_text_13 (by decide) (by omega) (fun c13 => ?_) (fun c13 => ?_)
      · refine wf_aload_n 1 dX9_text_60 rfl ?_
        refine wf_iconst (nI 0) dX9_text_61 (by decide) ?_
        refine wf_putf (C := RX9) (T := TX9) (N := 27) (ty := .int) 0 18 (wm E am g (gs y 0 1 0) jj tt ++ r) tyX9 in_X9 tyX9_ok nmX9 rfl rfl (by decide) fl_X9_70 rfl (by decide +kernel) (by rfl) rfl (Nat.le_of_ble_eq_true rfl) (sf 0 (Nat.le_of_ble_eq_true rfl) (wm_put18 0)) dX9_text_62 ?_
        have hbad := hst.2 c13
        refine wf_iload_n 0 dX9_text_65 rfl ?_
        refine wf_if_ne_n 78 dX9_text_66 (by decide) (by omega) (fun c66 => ?_) (fun c66 => ?_)
        · exact absurd c13 c66
        · refine wf_sipush (-1000) dX9_text_69 (by decide) ?_
          refine wf_aload_n 1 dX9_text_72 rfl ?_
          refine wf_getf (C := RX9) (T := TX9) (N := 27) (v := .int (nI (jj 0 1))) 0 19 in_X9 rfl rfl (by decide) fl_X9_77 rfl dX9_text_73 ?_
          refine wf_isub ((-1000) - (nI (jj 0 1))) dX9_text_76 rfl ?_
          exact wf_iret .int rfl (vp_nar_int _) ⟨rfl, rfl⟩ (pm_of (by unfold sp_text; rw [hbad]) ⟨_, _, hJJ, rfl⟩) dX9_text_77
      · have hb1 : b = 1 := by omega
        have hTR := hst.1 hb1
        have h1 := hTR.2.1
        have h2 := hTR.2.2.2.1
        have h3 := hTR.2.2.2.2.1
        refine wf_aload_n 1 dX9_text_16 rfl ?_
        refine wf_getf (C := RX9) (T := TX9) (N := 27) (v := .int (nI (jj 0 1))) 0 19 in_X9 rfl rfl (by decide) fl_X9_77 rfl dX9_text_17 ?_
        refine wf_aload_n 1 dX9_text_20 rfl ?_
        refine wf_getf (C := RX9) (T := TX9) (N := 27) (v := .int (nI (y 0 1))) 0 18 in_X9 rfl rfl (by decide) fl_X9_70 rfl dX9_text_21 ?_
        refine wf_icmp_lt_n 34 dX9_text_24 (by decide) (by omega) (by omega) (fun c24 => ?_) (fun c24 => ?_)
        · have hc : n = 0 ∨ pl y n < y 0 1 := Or.inr (by rw [← hTR.2.1]; exact c24)
          refine wf_aload_n 1 dX9_text_34 rfl ?_
          refine wf_callV (As := []) (rest := []) 0 (c_X9_statement hy (by omega) (by omega)) kV_X9_114 rfl (by decide) (by decide) (Nat.le_of_ble_eq_true rfl) rfl rfl rfl dX9_text_35 (fun v w2 hp => ?_)
          obtain ⟨ok, j2, t2, rfl, rfl, hSP⟩ := hp
          have hsf := hSP.1.2.1
          cases ok
          · refine wf_st [.int (bI false)] rfl ?_
            refine wf_cs rfl rfl ?_
            refine wf_top (y := .int (nI 0)) (congrArg Value.int (b1_zero (b := false) rfl).symm) ?_
            have hbad := TR.bad y01 hTR hc hSP
            have hn3 : gs j2 0 2 (j2 0 2 + 0) 0 2 = n := by show j2 0 2 + 0 = n; omega
            refine wf_istore_n [(1, .int (nI 0)), (0, .ref (am 0))] dX9_text_38 rfl (by decide) rfl ?_
            refine wf_aload_n 1 dX9_text_39 rfl ?_
            refine wf_dup dX9_text_40 rfl ?_
            refine wf_getf (C := RX9) (T := TX9) (N := 27) (v := .int (nI (j2 0 2))) 0 20 in_X9 rfl rfl (by decide) fl_X9_91 rfl dX9_text_41 ?_
            refine wf_iload_n 0 dX9_text_44 rfl ?_
            refine wf_if_eq_n 52 dX9_text_45 (by decide) (by decide) (fun c45 => ?_) (fun c45 => ?_)
            · refine wf_iconst (nI 0) dX9_text_52 (by decide) ?_
              refine wf_iadd (nI ((j2 0 2) + 0)) dX9_text_53 (nI_add (j2 0 2) 0) ?_
              refine wf_putf (C := RX9) (T := TX9) (N := 27) (ty := .int) 0 20 (wm E am g y (gs j2 0 2 ((j2 0 2) + 0)) t2 ++ r) tyX9 in_X9 tyX9_ok nmX9 rfl rfl (by decide) fl_X9_91 rfl (by decide +kernel) (by rfl) rfl (Nat.le_of_ble_eq_true rfl) (sf 0 (Nat.le_of_ble_eq_true rfl) (wm_put20 ((j2 0 2) + 0))) dX9_text_54 ?_
              refine wf_goto 12 dX9_text_57 (by decide) ?_
              refine wf_sub (lv' := [(1, .int (nI 0)), (0, .ref (am 0))]) [0, 1] rfl ?_
              exact ih12 (t + 1) n 0 _ _ (by omega) (by decide) (by omega) (by omega) hn3 ⟨fun h => absurd h (by decide), fun _ => hbad⟩ (IH.at0 (IH.sf hJJ hSP.1))
            · exact absurd rfl c45
          · refine wf_st [.int (bI true)] rfl ?_
            refine wf_cs rfl rfl ?_
            refine wf_top (y := .int (nI 1)) (congrArg Value.int (b1_one (b := true) rfl).symm) ?_
            have hTR2 := TR.s y01 hTR hc hSP
            have q2 := hTR2.2.2.2.1
            have q3 := hTR2.2.2.2.2.1
            have hn3 := hTR2.1
            refine wf_istore_n [(1, .int (nI 1)), (0, .ref (am 0))] dX9_text_38 rfl (by decide) rfl ?_
            refine wf_aload_n 1 dX9_text_39 rfl ?_
            refine wf_dup dX9_text_40 rfl ?_
            refine wf_getf (C := RX9) (T := TX9) (N := 27) (v := .int (nI (j2 0 2))) 0 20 in_X9 rfl rfl (by decide) fl_X9_91 rfl dX9_text_41 ?_
            refine wf_iload_n 0 dX9_text_44 rfl ?_
            refine wf_if_eq_n 52 dX9_text_45 (by decide) (by decide) (fun c45 => ?_) (fun c45 => ?_)
            · exact absurd c45 (by decide)
            · refine wf_iconst (nI 1) dX9_text_48 (by decide) ?_
              refine wf_goto 53 dX9_text_49 (by decide) ?_
              refine wf_iadd (nI ((j2 0 2) + 1)) dX9_text_53 (nI_add (j2 0 2) 1) ?_
              refine wf_putf (C := RX9) (T := TX9) (N := 27) (ty := .int) 0 20 (wm E am g y (gs j2 0 2 ((j2 0 2) + 1)) t2 ++ r) tyX9 in_X9 tyX9_ok nmX9 rfl rfl (by decide) fl_X9_91 rfl (by decide +kernel) (by rfl) rfl (Nat.le_of_ble_eq_true rfl) (sf 0 (Nat.le_of_ble_eq_true rfl) (wm_put20 ((j2 0 2) + 1))) dX9_text_54 ?_
              refine wf_goto 12 dX9_text_57 (by decide) ?_
              refine wf_sub (lv' := [(1, .int (nI 1)), (0, .ref (am 0))]) [0, 1] rfl ?_
              exact ih12 (t + 1) (n + 1) 1 _ _ (by omega) (by decide) (by omega) (by omega) hn3 ⟨fun _ => hTR2, fun h => absurd h (by decide)⟩ (IH.at0 (IH.sf hJJ hSP.1))
        · refine wf_aload_n 1 dX9_text_27 rfl ?_
          refine wf_getf (C := RX9) (T := TX9) (N := 27) (v := .int (nI (jj 0 2))) 0 20 in_X9 rfl rfl (by decide) fl_X9_91 rfl dX9_text_28 ?_
          refine wf_if_ne_n 60 dX9_text_31 (by decide) (by omega) (fun c31 => ?_) (fun c31 => ?_)
          · refine wf_aload_n 1 dX9_text_60 rfl ?_
            refine wf_iconst (nI 0) dX9_text_61 (by decide) ?_
            refine wf_putf (C := RX9) (T := TX9) (N := 27) (ty := .int) 0 18 (wm E am g (gs y 0 1 0) jj tt ++ r) tyX9 in_X9 tyX9_ok nmX9 rfl rfl (by decide) fl_X9_70 rfl (by decide +kernel) (by rfl) rfl (Nat.le_of_ble_eq_true rfl) (sf 0 (Nat.le_of_ble_eq_true rfl) (wm_put18 0)) dX9_text_62 ?_
            obtain ⟨hgood, hend⟩ := TR.fin hTR (by omega) (by omega)
            have hs : ∀ i, i < n → stOK y (pl y i) := fun i hi => (hTR.2.2.1 i hi).1
            refine wf_iload_n 0 dX9_text_65 rfl ?_
            refine wf_if_ne_n 78 dX9_text_66 (by decide) (by omega) (fun c66 => ?_) (fun c66 => ?_)
            · refine wf_aload_n 1 dX9_text_78 rfl ?_
              refine wf_iconst (nI 1) dX9_text_79 (by decide) ?_
              refine wf_iconst (nI 1) dX9_text_80 (by decide) ?_
              refine wf_callVv (As := [.int (nI 1), .int (nI 1)]) (rest := []) 0 (c_X9_passesAll_k (wh := 1) hI (by decide)) kV_X9_118 rfl (by decide) (by decide) (Nat.le_of_ble_eq_true rfl) rfl rfl rfl dX9_text_81 ?_
              refine wf_iconst (nI 0) dX9_text_84 (by decide) ?_
              refine wf_istore_n [(2, .int (nI 0)), (1, .int (nI b)), (0, .ref (am 0))] dX9_text_85 rfl (by decide) rfl ?_
              have L86 : ∀ (fu86 : Nat) (k : Nat), n - k < fu86 → (k ≤ n) → (PH y g k) → WF l E RX9 cX9_text 3 (some .int) rmX9_text false (fun _ => True) (QM E (wm E am g y j td ++ r) (PM E am r (sp_text g y) gi) rmX9_text) (wm E am g y j td ++ r) 0 0 86 [(2, .int (nI k)), (1, .int (nI b)), (0, .ref (am 0))] [] (wm E am ((eTl y g (pl y k)).1) (gs y 0 1 0) (kq jj (80 * 1) g 61) tt ++ r) := by
                intro fu86
                induction fu86 with
                | zero => intro k hn; exact absurd hn (Nat.not_lt_zero _)
                | succ fu86 ih86 =>
                  intro k hn hk0 hPH
                  refine wf_iload_n 0 dX9_text_86 rfl ?_
                  refine wf_aload_n 2 dX9_text_87 rfl ?_
                  refine wf_getf (C := RX9) (T := TX9) (N := 27) (v := .int (nI ((kq jj (80 * 1) g 61) 0 2))) 0 20 in_X9 rfl rfl (by decide) fl_X9_91 rfl dX9_text_88 ?_
                  refine wf_top (y := .int (nI n)) (by show Value.int (nI (jj 0 2)) = _; rw [hn2]) ?_
                  refine wf_icmp_ge_n 128 dX9_text_91 (by decide) (by omega) (by omega) (fun c91 => ?_) (fun c91 => ?_)
                  · refine wf_aload_n 2 dX9_text_128 rfl ?_
                    refine wf_getf (C := RX9) (T := TX9) (N := 27) (v := .int (nI ((kq jj (80 * 1) g 61) 0 2))) 0 20 in_X9 rfl rfl (by decide) fl_X9_91 rfl dX9_text_129 ?_
                    refine wf_top (y := .int (nI n)) (by show Value.int (nI (jj 0 2)) = _; rw [hn2]) ?_
                    exact wf_iret .int rfl (vp_nar_int _) ⟨rfl, rfl⟩ (pm_of (by have hk9 : k = n := (by omega); have hp9 : pl y k = y 0 1 := (by rw [hk9]; exact hend); have hc9 : (eTl y g (y 0 1)).2 = n := (by rw [← hp9, ← hk9]; exact hPH.2.1); have hu : eUnf y (y 0 1) 0 (g 9 0) (g 9 1) = none := (by have h := hPH.1; rw [hp9, Nat.sub_self] at h; exact h.symm); unfold sp_text; rw [hgood, hu, hp9]; show (nI (eTl y g (y 0 1)).2, _, _) = _; rw [hc9]) ⟨_, _, (IH.k (wh := 1) hJJ (by decide)), rfl⟩) dX9_text_132
                  · refine wf_aload_n 2 dX9_text_94 rfl ?_
                    refine wf_iload_n 0 dX9_text_95 rfl ?_
                    refine wf_callVD (As := [.int (nI k)]) (rest := []) 0 (c_X9_comes (u := y) (q := pl y k) hPH.2.2 (hTR.2.2.1 k (by omega)).2.1 (hTR.2.2.1 k (by omega)).2.2.2 (st_ws (hs k (by omega))).1 (by omega)) kV_X9_122 rfl (by decide) (by decide) (Nat.le_of_ble_eq_true rfl) rfl rfl rfl dX9_text_96 ?_
                    refine wf_if_eq_b 105 dX9_text_99 (by decide) (fun c99 => ?_) (fun c99 => ?_)
                    · refine wf_world (wm E am ((eTl y g (pl y k)).1) (gs y 0 1 0) (kq jj (80 * 1) g 61) tt ++ r) (by rw [if_neg (by rw [c99]; decide)]) ?_
                      refine wf_aload_n 2 dX9_text_105 rfl ?_
                      refine wf_iconst (nI 1) dX9_text_106 (by decide) ?_
                      refine wf_iconst (nI 0) dX9_text_107 (by decide) ?_
                      refine wf_callVv (As := [.int (nI 1), .int (nI 0)]) (rest := []) 0 (c_X9_passesAll_r (wh := 1) (g0 := g) (fun k hk => kq_has k hk) (by decide)) kV_X9_118 rfl (by decide) (by decide) (Nat.le_of_ble_eq_true rfl) rfl rfl rfl dX9_text_108 ?_
                      refine wf_sipush (-2000) dX9_text_111 (by decide) ?_
                      refine wf_aload_n 2 dX9_text_114 rfl ?_
                      refine wf_getf (C := RX9) (T := TX9) (N := 27) (v := .ref (am 13)) 0 16 in_X9 rfl rfl (by decide) fl_X9_46 rfl dX9_text_115 ?_
                      refine wf_iload_n 0 dX9_text_118 rfl ?_
                      refine wf_iald_n (nI ((jr (kq jj (80 * 1) g 61) (80 * 1) 61) 3 k)) 13 rfl (by omega) (by decide) rfl dX9_text_119 ?_
                      refine wf_top (y := .int (nI (pl y k))) (by show Value.int (nI (jj 3 k)) = _; rw [(hTR.2.2.1 k (by omega)).2.2.1]) ?_
                      refine wf_isub ((-2000) - (nI (pl y k))) dX9_text_120 rfl ?_
                      exact wf_iret .int rfl (vp_nar_int _) ⟨rfl, rfl⟩ (pm_of (by have hu : eUnf y (y 0 1) 0 (g 9 0) (g 9 1) = some (pl y k) := (by rw [hPH.unf hs (by omega), if_neg (by rw [c99]; decide)]); unfold sp_text; rw [hgood, hu]) ⟨_, _, (IH.r (wh := 1) (IH.k (wh := 1) hJJ (by decide))), rfl⟩) dX9_text_121
                    · refine wf_world (wm E am ((eTl y g (pl y (k + 1))).1) (gs y 0 1 0) (kq jj (80 * 1) g 61) tt ++ r) (by rw [if_pos c99, PH.tl hs (by omega)]) ?_
                      refine wf_goto 122 dX9_text_102 (by decide) ?_
                      refine wf_iinc (nI (k + 1)) 0 [(2, .int (nI (k + 1))), (1, .int (nI b)), (0, .ref (am 0))] dX9_text_122 rfl (nI_1 k) (by decide) rfl ?_
                      refine wf_goto 86 dX9_text_125 (by decide) ?_
                      refine wf_sub (lv' := [(2, .int (nI (k + 1))), (1, .int (nI b)), (0, .ref (am 0))]) [0, 1, 2] rfl ?_
                      exact ih86 (k + 1) (by omega) (by omega) (PH.s hs (by omega) hPH c99)
              refine wf_sub (lv' := [(2, .int (nI 0)), (1, .int (nI b)), (0, .ref (am 0))]) [0, 1, 2] rfl ?_
              refine wf_world (wm E am ((eTl y g (pl y 0)).1) (gs y 0 1 0) (kq jj (80 * 1) g 61) tt ++ r) rfl ?_
              exact L86 _ 0 (Nat.lt_succ_self _) (Nat.zero_le _) (PH.z hI)
            · exact absurd c66 c13
          · have hc : n = 0 ∨ pl y n < y 0 1 := Or.inl (by rw [← hn2]; exact c31)
            refine wf_aload_n 1 dX9_text_34 rfl ?_
            refine wf_callV (As := []) (rest := []) 0 (c_X9_statement hy (by omega) (by omega)) kV_X9_114 rfl (by decide) (by decide) (Nat.le_of_ble_eq_true rfl) rfl rfl rfl dX9_text_35 (fun v w2 hp => ?_)
            obtain ⟨ok, j2, t2, rfl, rfl, hSP⟩ := hp
            have hsf := hSP.1.2.1
            cases ok
            · refine wf_st [.int (bI false)] rfl ?_
              refine wf_cs rfl rfl ?_
              refine wf_top (y := .int (nI 0)) (congrArg Value.int (b1_zero (b := false) rfl).symm) ?_
              have hbad := TR.bad y01 hTR hc hSP
              have hn3 : gs j2 0 2 (j2 0 2 + 0) 0 2 = n := by show j2 0 2 + 0 = n; omega
              refine wf_istore_n [(1, .int (nI 0)), (0, .ref (am 0))] dX9_text_38 rfl (by decide) rfl ?_
              refine wf_aload_n 1 dX9_text_39 rfl ?_
              refine wf_dup dX9_text_40 rfl ?_
              refine wf_getf (C := RX9) (T := TX9) (N := 27) (v := .int (nI (j2 0 2))) 0 20 in_X9 rfl rfl (by decide) fl_X9_91 rfl dX9_text_41 ?_
              refine wf_iload_n 0 dX9_text_44 rfl ?_
              refine wf_if_eq_n 52 dX9_text_45 (by decide) (by decide) (fun c45 => ?_) (fun c45 => ?_)
              · refine wf_iconst (nI 0) dX9_text_52 (by decide) ?_
                refine wf_iadd (nI ((j2 0 2) + 0)) dX9_text_53 (nI_add (j2 0 2) 0) ?_
                refine wf_putf (C := RX9) (T := TX9) (N := 27) (ty := .int) 0 20 (wm E am g y (gs j2 0 2 ((j2 0 2) + 0)) t2 ++ r) tyX9 in_X9 tyX9_ok nmX9 rfl rfl (by decide) fl_X9_91 rfl (by decide +kernel) (by rfl) rfl (Nat.le_of_ble_eq_true rfl) (sf 0 (Nat.le_of_ble_eq_true rfl) (wm_put20 ((j2 0 2) + 0))) dX9_text_54 ?_
                refine wf_goto 12 dX9_text_57 (by decide) ?_
                refine wf_sub (lv' := [(1, .int (nI 0)), (0, .ref (am 0))]) [0, 1] rfl ?_
                exact ih12 (t + 1) n 0 _ _ (by omega) (by decide) (by omega) (by omega) hn3 ⟨fun h => absurd h (by decide), fun _ => hbad⟩ (IH.at0 (IH.sf hJJ hSP.1))
              · exact absurd rfl c45
            · refine wf_st [.int (bI true)] rfl ?_
              refine wf_cs rfl rfl ?_
              refine wf_top (y := .int (nI 1)) (congrArg Value.int (b1_one (b := true) rfl).symm) ?_
              have hTR2 := TR.s y01 hTR hc hSP
              have q2 := hTR2.2.2.2.1
              have q3 := hTR2.2.2.2.2.1
              have hn3 := hTR2.1
              refine wf_istore_n [(1, .int (nI 1)), (0, .ref (am 0))] dX9_text_38 rfl (by decide) rfl ?_
              refine wf_aload_n 1 dX9_text_39 rfl ?_
              refine wf_dup dX9_text_40 rfl ?_
              refine wf_getf (C := RX9) (T := TX9) (N := 27) (v := .int (nI (j2 0 2))) 0 20 in_X9 rfl rfl (by decide) fl_X9_91 rfl dX9_text_41 ?_
              refine wf_iload_n 0 dX9_text_44 rfl ?_
              refine wf_if_eq_n 52 dX9_text_45 (by decide) (by decide) (fun c45 => ?_) (fun c45 => ?_)
              · exact absurd c45 (by decide)
              · refine wf_iconst (nI 1) dX9_text_48 (by decide) ?_
                refine wf_goto 53 dX9_text_49 (by decide) ?_
                refine wf_iadd (nI ((j2 0 2) + 1)) dX9_text_53 (nI_add (j2 0 2) 1) ?_
                refine wf_putf (C := RX9) (T := TX9) (N := 27) (ty := .int) 0 20 (wm E am g y (gs j2 0 2 ((j2 0 2) + 1)) t2 ++ r) tyX9 in_X9 tyX9_ok nmX9 rfl rfl (by decide) fl_X9_91 rfl (by decide +kernel) (by rfl) rfl (Nat.le_of_ble_eq_true rfl) (sf 0 (Nat.le_of_ble_eq_true rfl) (wm_put20 ((j2 0 2) + 1))) dX9_text_54 ?_
                refine wf_goto 12 dX9_text_57 (by decide) ?_
                refine wf_sub (lv' := [(1, .int (nI 1)), (0, .ref (am 0))]) [0, 1] rfl ?_
                exact ih12 (t + 1) (n + 1) 1 _ _ (by omega) (by decide) (by omega) (by omega) hn3 ⟨fun _ => hTR2, fun h => absurd h (by decide)⟩ (IH.at0 (IH.sf hJJ hSP.1))
  refine wf_sub (lv' := [(1, .int (nI 1)), (0, .ref (am 0))]) [0, 1] rfl ?_
  exact L12 _ 0 0 1 _ _ (Nat.lt_succ_self _) (by decide) rfl (Nat.zero_le _) rfl ⟨fun _ => TR.z, fun h => absurd h (by decide)⟩ (IH.at0 (IH.at0 hJ))
