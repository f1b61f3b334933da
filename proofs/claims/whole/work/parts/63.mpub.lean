abbrev rmX9_winter : Room := { frames := 6, cells := 0, slots := 0, locals := 134 }
set_option maxHeartbeats 4000000 in
set_option maxRecDepth 100000 in
theorem c_X9_winter {l : Launch} {E : Ev} {x : Int32} {gi : Gd} {g y j : Gd} {td : Nat → Int32} {am : Nat → Nat} {r : va_W} (hI : Inv g) (hJ : IH j gi) (hy : YI y)  : CT l E yX9_winter cX9_winter 5 (some .int) rmX9_winter [.ref (am 0), .int x] (wm E am g y j td ++ r) (PM E am r (sp_winter g y x) gi) := by
  refine CT.of (lv := [(0, .ref (am 0)), (1, .int x)]) false (by decide +kernel) (by decide) (Nat.le_of_ble_eq_true rfl) rfl ?_
  have f0 := hI.words
  have f1 := hI.birds
  have f2 := hI.gone
  have f3 := hI.hour
  obtain ⟨y00, y01, y02, y1, y2⟩ := id hy
  refine wf_aload_n 0 dX9_winter_0 rfl ?_
  refine wf_iload_n 1 dX9_winter_1 rfl ?_
  refine wf_callVD (As := [.int x]) (rest := []) 0 (c_X9_isBird) kV_X9_172 rfl (by decide) (by decide) (Nat.le_of_ble_eq_true rfl) rfl rfl rfl dX9_winter_2 ?_
  refine wf_if_ne_b 14 dX9_winter_5 (by decide) (fun c5 => ?_) (fun c5 => ?_)
  · obtain ⟨j_, hj_, rfl⟩ := eHas_i (by omega) c5
    have q0 := hI.taste j_
    refine wf_aload_n 0 dX9_winter_14 rfl ?_
    refine wf_callVD (As := []) (rest := []) 0 (c_X9_leftAtDusk hI) kV_X9_181 rfl (by decide) (by decide) (Nat.le_of_ble_eq_true rfl) rfl rfl rfl dX9_winter_15 ?_
    refine wf_callSD (As := [.int (nI (eLeft (eDk g)))]) (rest := []) (c_X9_bits (hI.oHrs _).left) kS_X9_187 rfl (by decide) (by decide) (Nat.le_of_ble_eq_true rfl) rfl dX9_winter_18 ?_
    refine wf_istore_n [(2, .int (nI (eBits (eLeft (eDk g))))), (0, .ref (am 0)), (1, .int (nI j_))] dX9_winter_21 rfl (by decide) rfl ?_
    refine wf_aload_n 1 dX9_winter_22 rfl ?_
    refine wf_getf (C := RX9) (T := TX9) (N := 27) (v := .ref (am 6)) 0 5 in_X9 rfl rfl (by decide) fl_X9_25 rfl dX9_winter_23 ?_
    refine wf_iload_n 2 dX9_winter_26 rfl ?_
    refine wf_iald_n (nI (g 4 j_)) 6 rfl (by omega) (by decide) rfl dX9_winter_27 ?_
    refine wf_istore_n [(3, .int (nI (g 4 j_))), (2, .int (nI (eBits (eLeft (eDk g))))), (0, .ref (am 0)), (1, .int (nI j_))] dX9_winter_28 rfl (by decide) rfl ?_
    refine wf_aload_n 2 dX9_winter_29 rfl ?_
    refine wf_getf (C := RX9) (T := TX9) (N := 27) (v := .ref (am 6)) 0 5 in_X9 rfl rfl (by decide) fl_X9_25 rfl dX9_winter_30 ?_
    refine wf_iload_n 3 dX9_winter_33 rfl ?_
    refine wf_bipush (nI 99) dX9_winter_34 (by decide) ?_
    refine wf_iast_n (wm E am (gs g 4 j_ 99) y j td ++ r) 6 rfl (by omega) (by decide) (sf 6 (Nat.le_of_ble_eq_true rfl) (wm_set4 j_ 99)) dX9_winter_36 ?_
    refine wf_aload_n 2 dX9_winter_37 rfl ?_
    refine wf_callVD (As := []) (rest := []) 0 (c_X9_leftAtDusk (hI.oTaste (Nat.le_refl _))) kV_X9_181 rfl (by decide) (by decide) (Nat.le_of_ble_eq_true rfl) rfl rfl rfl dX9_winter_38 ?_
    refine wf_callSD (As := [.int (nI (eLeft (eDk (gs g 4 j_ 99))))]) (rest := []) (c_X9_bits ((hI.oTaste (Nat.le_refl _)).oHrs _).left) kS_X9_187 rfl (by decide) (by decide) (Nat.le_of_ble_eq_true rfl) rfl dX9_winter_41 ?_
    refine wf_istore [(4, .int (nI (eBits (eLeft (eDk (gs g 4 j_ 99)))))), (3, .int (nI (g 4 j_))), (2, .int (nI (eBits (eLeft (eDk g))))), (0, .ref (am 0)), (1, .int (nI j_))] dX9_winter_44 (by decide) rfl ?_
    refine wf_aload_n 3 dX9_winter_46 rfl ?_
    refine wf_getf (C := RX9) (T := TX9) (N := 27) (v := .ref (am 6)) 0 5 in_X9 rfl rfl (by decide) fl_X9_25 rfl dX9_winter_47 ?_
    refine wf_iload_n 4 dX9_winter_50 rfl ?_
    refine wf_iload_n 1 dX9_winter_51 rfl ?_
    refine wf_iast_n (wm E am (gs (gs g 4 j_ 99) 4 j_ (g 4 j_)) y j td ++ r) 6 rfl (by omega) (by decide) (sf 6 (Nat.le_of_ble_eq_true rfl) (wm_set4 j_ (g 4 j_))) dX9_winter_52 ?_
    refine wf_world (wm E am g y j td ++ r) (by rw [gs_gs, gs_id]) ?_
    refine wf_iload 0 dX9_winter_53 rfl ?_
    refine wf_iload_n 2 dX9_winter_55 rfl ?_
    refine wf_isub ((nI (eBits (eLeft (eDk (gs g 4 j_ 99))))) - (nI (eBits (eLeft (eDk g))))) dX9_winter_56 rfl ?_
    exact wf_iret .int rfl (vp_nar_int _) ⟨rfl, rfl⟩ (pm_of (by unfold sp_winter; rw [if_neg (by rw [c5]; decide), nI_clamp (by omega)]; unfold eLeftN; rw [winter_eq hI]; rfl) ⟨_, _, hJ, rfl⟩) dX9_winter_57
  · refine wf_aload_n 0 dX9_winter_8 rfl ?_
    refine wf_iconst (-1) dX9_winter_9 (by decide) ?_
    refine wf_callVD (As := [.int (-1)]) (rest := []) 0 (c_X9_lower (k := 1) (by decide)) kV_X9_197 rfl (by decide) (by decide) (Nat.le_of_ble_eq_true rfl) rfl rfl rfl dX9_winter_10 ?_
    exact wf_iret .int rfl (vp_nar_int _) ⟨rfl, rfl⟩ (pm_of (by unfold sp_winter; rw [if_pos c5]) ⟨_, _, hJ, rfl⟩) dX9_winter_13
abbrev rmX9_seeds : Room := { frames := 6, cells := 0, slots := 0, locals := 134 }
set_option maxHeartbeats 4000000 in
set_option maxRecDepth 100000 in
theorem c_X9_seeds {l : Launch} {E : Ev} {x z : Int32} {gi : Gd} {g y j : Gd} {td : Nat → Int32} {am : Nat → Nat} {r : va_W} (hI : Inv g) (hJ : IH j gi) (hy : YI y)  : CT l E yX9_seeds cX9_seeds 8 (some .int) rmX9_seeds [.ref (am 0), .int x, .int z] (wm E am g y j td ++ r) (PM E am r (sp_seeds g y x z) gi) := by
  refine CT.of (lv := [(0, .ref (am 0)), (1, .int x), (2, .int z)]) false (by decide +kernel) (by decide) (Nat.le_of_ble_eq_true rfl) rfl ?_
  have f0 := hI.words
  have f1 := hI.birds
  have f2 := hI.gone
  have f3 := hI.hour
  obtain ⟨y00, y01, y02, y1, y2⟩ := id hy
  refine wf_iload_n 1 dX9_seeds_0 rfl ?_
  refine wf_iconst (nI 1) dX9_seeds_1 (by decide) ?_
  refine wf_bipush (nI 20) dX9_seeds_2 (by decide) ?_
  refine wf_callSD (As := [.int x, .int (nI 1), .int (nI 20)]) (rest := []) (c_X9_bound) kS_X9_66 rfl (by decide) (by decide) (Nat.le_of_ble_eq_true rfl) rfl dX9_seeds_4 ?_
  refine wf_istore_n [(3, .int (eBd x (nI 1) (nI 20))), (0, .ref (am 0)), (1, .int x), (2, .int z)] dX9_seeds_7 rfl (by decide) rfl ?_
  by_cases b1 : x < nI 1
  · refine wf_lvc [(3, .int (-4)), (0, .ref (am 0)), (1, .int x), (2, .int z)] (by rw [show eBd x (nI 1) (nI 20) = (-4) from by unfold eBd; rw [if_pos b1]]) ?_
    refine wf_iload_n 0 dX9_seeds_8 rfl ?_
    refine wf_if_eq 18 dX9_seeds_9 (by decide) (fun c9 => ?_) (fun c9 => ?_)
    · exact absurd c9 (by decide)
    · refine wf_aload_n 1 dX9_seeds_12 rfl ?_
      refine wf_iload_n 0 dX9_seeds_13 rfl ?_
      refine wf_callVD (As := [.int (-4)]) (rest := []) 0 (c_X9_no (k := 4) (by decide)) kV_X9_73 rfl (by decide) (by decide) (Nat.le_of_ble_eq_true rfl) rfl rfl rfl dX9_seeds_14 ?_
      exact wf_iret .int rfl (vp_nar_int _) ⟨rfl, rfl⟩ (pm_of (by unfold sp_seeds; rw [if_neg (Int32.not_le.mpr b1)]; rfl) ⟨_, _, hJ, rfl⟩) dX9_seeds_17
  by_cases b2 : nI 20 < x
  · refine wf_lvc [(3, .int (-6)), (0, .ref (am 0)), (1, .int x), (2, .int z)] (by rw [show eBd x (nI 1) (nI 20) = (-6) from by unfold eBd; rw [if_neg b1, if_pos b2]]) ?_
    refine wf_iload_n 0 dX9_seeds_8 rfl ?_
    refine wf_if_eq 18 dX9_seeds_9 (by decide) (fun c9 => ?_) (fun c9 => ?_)
    · exact absurd c9 (by decide)
    · refine wf_aload_n 1 dX9_seeds_12 rfl ?_
      refine wf_iload_n 0 dX9_seeds_13 rfl ?_
      refine wf_callVD (As := [.int (-6)]) (rest := []) 0 (c_X9_no (k := 6) (by decide)) kV_X9_73 rfl (by decide) (by decide) (Nat.le_of_ble_eq_true rfl) rfl rfl rfl dX9_seeds_14 ?_
      exact wf_iret .int rfl (vp_nar_int _) ⟨rfl, rfl⟩ (pm_of (by unfold sp_seeds; rw [if_pos (Int32.not_lt.mp b1), if_neg (Int32.not_le.mpr b2)]; rfl) ⟨_, _, hJ, rfl⟩) dX9_seeds_17
  · refine wf_lvc [(3, .int (nI 0)), (0, .ref (am 0)), (1, .int x), (2, .int z)] (by rw [show eBd x (nI 1) (nI 20) = (nI 0) from by unfold eBd; rw [if_neg b1, if_neg b2]; rfl]) ?_
    have h0 : ¬ x < 0 := fun q => absurd (Int32.lt_of_le_of_lt (Int32.not_lt.mp b1) q) (by decide)
    have h2 := Int32.not_lt.mp b1
    have h15 := Int32.not_lt.mp b2
    obtain ⟨n, hn, rfl⟩ := i_le (k := 20) (by decide) h0 b2
    refine wf_iload_n 0 dX9_seeds_8 rfl ?_
    refine wf_if_eq_n 18 dX9_seeds_9 (by decide) (by decide) (fun c9 => ?_) (fun c9 => ?_)
    · refine wf_aload_n 1 dX9_seeds_18 rfl ?_
      refine wf_iconst (nI 2) dX9_seeds_19 (by decide) ?_
      refine wf_iconst (nI 1) dX9_seeds_20 (by decide) ?_
      refine wf_callVv (As := [.int (nI 2), .int (nI 1)]) (rest := []) 0 (c_X9_passesAll_k (wh := 2) hI (by decide)) kV_X9_118 rfl (by decide) (by decide) (Nat.le_of_ble_eq_true rfl) rfl rfl rfl dX9_seeds_21 ?_
      refine wf_iload_n 3 dX9_seeds_24 rfl ?_
      refine wf_istore [(4, .int z), (3, .int (nI 0)), (0, .ref (am 0)), (1, .int (nI n)), (2, .int z)] dX9_seeds_25 (by decide) rfl ?_
      refine wf_iconst (nI 0) dX9_seeds_27 (by decide) ?_
      refine wf_istore [(5, .int (nI 0)), (4, .int z), (3, .int (nI 0)), (0, .ref (am 0)), (1, .int (nI n)), (2, .int z)] dX9_seeds_28 (by decide) rfl ?_
      refine wf_iconst (nI 0) dX9_seeds_30 (by decide) ?_
      refine wf_istore [(6, .int (nI 0)), (5, .int (nI 0)), (4, .int z), (3, .int (nI 0)), (0, .ref (am 0)), (1, .int (nI n)), (2, .int z)] dX9_seeds_31 (by decide) rfl ?_
      have L33 : ∀ (fu33 : Nat) (d : Nat) (gw : Gd), n - d < fu33 → (d ≤ n) → (∀ f i, ¬ (f = 4 ∧ i < g 9 1) → gw f i = g f i) → WF l E RX9 cX9_seeds 8 (some .int) rmX9_seeds false (fun _ => True) (QM E (wm E am g y j td ++ r) (PM E am r (sp_seeds g y (nI n) z) gi) rmX9_seeds) (wm E am g y j td ++ r) 0 0 33 [(6, .int (nI d)), (5, .int (nI ((eSee g z d).2))), (4, .int ((eSee g z d).1)), (3, .int (nI 0)), (0, .ref (am 0)), (1, .int (nI n)), (2, .int z)] [] (wm E am gw y (kq j (80 * 2) g 61) td ++ r) := by
        intro fu33
        induction fu33 with
        | zero => intro d gw hn; exact absurd hn (Nat.not_lt_zero _)
        | succ fu33 ih33 =>
          intro d gw hn hd0 hW
          have hsl := eSee_le g z d
          refine wf_iload 0 dX9_seeds_33 rfl ?_
          refine wf_iload_n 5 dX9_seeds_35 rfl ?_
          refine wf_icmp_ge_n 104 dX9_seeds_36 (by decide) (by omega) (by omega) (fun c36 => ?_) (fun c36 => ?_)
          · refine wf_aload_n 4 dX9_seeds_104 rfl ?_
            refine wf_iconst (nI 2) dX9_seeds_105 (by decide) ?_
            refine wf_iconst (nI 0) dX9_seeds_106 (by decide) ?_
            refine wf_callVv (As := [.int (nI 2), .int (nI 0)]) (rest := []) 0 (c_X9_passesAll_r (wh := 2) (g0 := g) (fun k hk => kq_has k hk) (by decide)) kV_X9_118 rfl (by decide) (by decide) (Nat.le_of_ble_eq_true rfl) rfl rfl rfl dX9_seeds_107 ?_
            refine wf_iload 1 dX9_seeds_110 rfl ?_
            exact wf_iret .int rfl (vp_nar_int _) ⟨rfl, rfl⟩ (pm_of (by unfold sp_seeds; rw [if_pos h2, if_pos h15, nI_clamp (by omega), show d = n by omega]; rfl) ⟨_, _, (IH.r (wh := 2) (IH.k (wh := 2) hJ (by decide))), rfl⟩) dX9_seeds_112
          · refine wf_iconst (nI 0) dX9_seeds_39 (by decide) ?_
            refine wf_istore [(7, .int (nI 0)), (6, .int (nI d)), (5, .int (nI ((eSee g z d).2))), (4, .int ((eSee g z d).1)), (3, .int (nI 0)), (0, .ref (am 0)), (1, .int (nI n)), (2, .int z)] dX9_seeds_40 (by decide) rfl ?_
            have L42 : ∀ (fu42 : Nat) (b_ : Nat), g 9 1 - b_ < fu42 → (b_ ≤ g 9 1) → WF l E RX9 cX9_seeds 8 (some .int) rmX9_seeds false (fun _ => True) (QM E (wm E am g y j td ++ r) (PM E am r (sp_seeds g y (nI n) z) gi) rmX9_seeds) (wm E am g y j td ++ r) 0 0 42 [(7, .int (nI b_)), (6, .int (nI d)), (5, .int (nI ((eSee g z d).2))), (4, .int (eSd (eSee g z d).1 b_)), (3, .int (nI 0)), (0, .ref (am 0)), (1, .int (nI n)), (2, .int z)] [] (wm E am (eTs gw (eSee g z d).1 b_) y (kq j (80 * 2) g 61) td ++ r) := by
              intro fu42
              induction fu42 with
              | zero => intro b_ hn; exact absurd hn (Nat.not_lt_zero _)
              | succ fu42 ih42 =>
                intro b_ hn hb0
                have e91 : eTs gw (eSee g z d).1 b_ 9 1 = g 9 1 := (eTs_f (by decide)).trans (hW 9 1 (by omega))
                refine wf_iload 0 dX9_seeds_42 rfl ?_
                refine wf_aload_n 5 dX9_seeds_44 rfl ?_
                refine wf_getf (C := RX9) (T := TX9) (N := 27) (v := .int (nI ((eTs gw (eSee g z d).1 b_) 9 1))) 0 11 in_X9 rfl rfl (by decide) fl_X9_63 rfl dX9_seeds_45 ?_
                refine wf_icmp_ge_n 86 dX9_seeds_48 (by decide) (by omega) (by omega) (fun c48 => ?_) (fun c48 => ?_)
                · have hbe : b_ = g 9 1 := by omega
                  subst hbe
                  refine wf_world (wm E am (eTs g (eSee g z d).1 (g 9 1)) y (kq j (80 * 2) g 61) td ++ r) (by rw [eTs_same hW]) ?_
                  refine wf_iload 2 dX9_seeds_86 rfl ?_
                  refine wf_aload_n 5 dX9_seeds_88 rfl ?_
                  refine wf_callVD (As := []) (rest := [.int (nI ((eSee g z d).2))]) 0 (c_X9_leftAtDusk (hI.oTs _ _)) kV_X9_181 rfl (by decide) (by decide) (Nat.le_of_ble_eq_true rfl) rfl rfl rfl dX9_seeds_89 ?_
                  refine wf_callSD (As := [.int (nI (eLeft (eDk (eTs g (eSee g z d).1 (g 9 1)))))]) (rest := [.int (nI ((eSee g z d).2))]) (c_X9_bits ((hI.oTs _ _).oHrs _).left) kS_X9_187 rfl (by decide) (by decide) (Nat.le_of_ble_eq_true rfl) rfl dX9_seeds_92 ?_
                  refine wf_iadd (nI (((eSee g z d).2) + (eBits (eLeft (eDk (eTs g (eSee g z d).1 (g 9 1))))))) dX9_seeds_95 (nI_add ((eSee g z d).2) (eBits (eLeft (eDk (eTs g (eSee g z d).1 (g 9 1)))))) ?_
                  refine wf_istore [(5, .int (nI (((eSee g z d).2) + (eBits (eLeft (eDk (eTs g (eSee g z d).1 (g 9 1)))))))), (7, .int (nI (g 9 1))), (6, .int (nI d)), (4, .int (eSd (eSee g z d).1 (g 9 1))), (3, .int (nI 0)), (0, .ref (am 0)), (1, .int (nI n)), (2, .int z)] dX9_seeds_96 (by decide) rfl ?_
                  refine wf_iinc (nI (d + 1)) 2 [(6, .int (nI (d + 1))), (5, .int (nI (((eSee g z d).2) + (eBits (eLeft (eDk (eTs g (eSee g z d).1 (g 9 1)))))))), (7, .int (nI (g 9 1))), (4, .int (eSd (eSee g z d).1 (g 9 1))), (3, .int (nI 0)), (0, .ref (am 0)), (1, .int (nI n)), (2, .int z)] dX9_seeds_98 rfl (nI_1 d) (by decide) rfl ?_
                  refine wf_goto 33 dX9_seeds_101 (by decide) ?_
                  refine wf_sub (lv' := [(6, .int (nI (d + 1))), (5, .int (nI (((eSee g z d).2) + (eBits (eLeft (eDk (eTs g (eSee g z d).1 (g 9 1)))))))), (4, .int (eSd (eSee g z d).1 (g 9 1))), (3, .int (nI 0)), (0, .ref (am 0)), (1, .int (nI n)), (2, .int z)]) [0, 1, 3, 4, 5, 6, 7] rfl ?_
                  refine wf_lvc [(6, .int (nI (d + 1))), (5, .int (nI ((eSee g z (d + 1)).2))), (4, .int ((eSee g z (d + 1)).1)), (3, .int (nI 0)), (0, .ref (am 0)), (1, .int (nI n)), (2, .int z)] rfl ?_
                  exact ih33 (d + 1) _ (by omega) (by omega) (fun f i h => eTs_out h)
                · refine wf_iload 3 dX9_seeds_51 rfl ?_
                  refine wf_ldc (v := (nI 1664525)) con_X9_206 dX9_seeds_53 ?_
                  refine wf_imul ((eSd (eSee g z d).1 b_) * (nI 1664525)) dX9_seeds_55 rfl ?_
                  refine wf_ldc (v := (nI 1013904223)) con_X9_207 dX9_seeds_56 ?_
                  refine wf_iadd (((eSd (eSee g z d).1 b_) * (nI 1664525)) + (nI 1013904223)) dX9_seeds_58 rfl ?_
                  refine wf_istore [(4, .int (((eSd (eSee g z d).1 b_) * (nI 1664525)) + (nI 1013904223))), (7, .int (nI b_)), (6, .int (nI d)), (5, .int (nI ((eSee g z d).2))), (3, .int (nI 0)), (0, .ref (am 0)), (1, .int (nI n)), (2, .int z)] dX9_seeds_59 (by decide) rfl ?_
                  refine wf_aload_n 5 dX9_seeds_61 rfl ?_
                  refine wf_getf (C := RX9) (T := TX9) (N := 27) (v := .ref (am 6)) 0 5 in_X9 rfl rfl (by decide) fl_X9_25 rfl dX9_seeds_62 ?_
                  refine wf_iload 1 dX9_seeds_65 rfl ?_
                  refine wf_iload 0 dX9_seeds_67 rfl ?_
                  refine wf_ldc (v := (nI 2147483647)) con_X9_208 dX9_seeds_69 ?_
                  refine wf_iand (nI ((((eSd (eSee g z d).1 b_) * (nI 1664525)) + (nI 1013904223)).toBitVec.toNat % 2 ^ 31)) dX9_seeds_71 (pk_and _ 31 (by decide)) ?_
                  refine wf_sipush (nI 256) dX9_seeds_72 (by decide) ?_
                  refine wf_idiv (nI (((((eSd (eSee g z d).1 b_) * (nI 1664525)) + (nI 1013904223)).toBitVec.toNat % 2 ^ 31) / 256)) dX9_seeds_75 (nI_ne0 (by decide) (by decide)) (pk_div (Nat.mod_lt _ (by decide)) (by decide) (by decide)) ?_
                  refine wf_bipush (nI 10) dX9_seeds_76 (by decide) ?_
                  refine wf_irem (nI ((((((eSd (eSee g z d).1 b_) * (nI 1664525)) + (nI 1013904223)).toBitVec.toNat % 2 ^ 31) / 256) % 10)) dX9_seeds_78 (nI_ne0 (by decide) (by decide)) (pk_rem (Nat.lt_of_le_of_lt (Nat.div_le_self _ _) (Nat.mod_lt _ (by decide))) (by decide) (by decide)) ?_
                  refine wf_iast_n (wm E am (gs (eTs gw (eSee g z d).1 b_) 4 b_ ((((((eSd (eSee g z d).1 b_) * (nI 1664525)) + (nI 1013904223)).toBitVec.toNat % 2 ^ 31) / 256) % 10)) y (kq j (80 * 2) g 61) td ++ r) 6 rfl (by omega) (by decide) (sf 6 (Nat.le_of_ble_eq_true rfl) (wm_set4 b_ ((((((eSd (eSee g z d).1 b_) * (nI 1664525)) + (nI 1013904223)).toBitVec.toNat % 2 ^ 31) / 256) % 10))) dX9_seeds_79 ?_
                  refine wf_iinc (nI (b_ + 1)) 1 [(7, .int (nI (b_ + 1))), (4, .int (((eSd (eSee g z d).1 b_) * (nI 1664525)) + (nI 1013904223))), (6, .int (nI d)), (5, .int (nI ((eSee g z d).2))), (3, .int (nI 0)), (0, .ref (am 0)), (1, .int (nI n)), (2, .int z)] dX9_seeds_80 rfl (nI_1 b_) (by decide) rfl ?_
                  refine wf_goto 42 dX9_seeds_83 (by decide) ?_
                  refine wf_sub (lv' := [(7, .int (nI (b_ + 1))), (6, .int (nI d)), (5, .int (nI ((eSee g z d).2))), (4, .int (((eSd (eSee g z d).1 b_) * (nI 1664525)) + (nI 1013904223))), (3, .int (nI 0)), (0, .ref (am 0)), (1, .int (nI n)), (2, .int z)]) [0, 2, 3, 1, 4, 5, 6, 7] rfl ?_
                  refine wf_lvc [(7, .int (nI (b_ + 1))), (6, .int (nI d)), (5, .int (nI ((eSee g z d).2))), (4, .int (eSd (eSee g z d).1 (b_ + 1))), (3, .int (nI 0)), (0, .ref (am 0)), (1, .int (nI n)), (2, .int z)] rfl ?_
                  refine wf_world (wm E am (eTs gw (eSee g z d).1 (b_ + 1)) y (kq j (80 * 2) g 61) td ++ r) rfl ?_
                  exact ih42 (b_ + 1) (by omega) (by omega)
            refine wf_sub (lv' := [(7, .int (nI 0)), (6, .int (nI d)), (5, .int (nI ((eSee g z d).2))), (4, .int ((eSee g z d).1)), (3, .int (nI 0)), (0, .ref (am 0)), (1, .int (nI n)), (2, .int z)]) [0, 1, 2, 3, 4, 5, 6, 7] rfl ?_
            exact L42 _ 0 (Nat.lt_succ_self _) (Nat.zero_le _)
      refine wf_sub (lv' := [(6, .int (nI 0)), (5, .int (nI 0)), (4, .int z), (3, .int (nI 0)), (0, .ref (am 0)), (1, .int (nI n)), (2, .int z)]) [0, 1, 2, 3, 4, 5, 6] rfl ?_
      exact L33 _ 0 g (Nat.lt_succ_self _) (Nat.zero_le _) (fun f i _ => rfl)
    · exact absurd rfl c9
theorem mGi_la {g : Gd} {j i : Nat} (h : eGone g j = false) : mGi (gs g 1 j i) j = eLaV g j i := by
  unfold mGi
  rw [if_neg (show ¬ eGone (gs g 1 j i) j = true from fun z => by rw [show eGone (gs g 1 j i) j = eGone g j from rfl, h] at z; cases z)]
  rfl
abbrev rmX9_lasts : Room := { frames := 6, cells := 0, slots := 0, locals := 135 }
set_option maxHeartbeats 4000000 in
set_option maxRecDepth 100000 in
theorem c_X9_lasts {l : Launch} {E : Ev} {x : Int32} {gi : Gd} {g y j : Gd} {td : Nat → Int32} {am : Nat → Nat} {r : va_W} (hI : Inv g) (hJ : IH j gi) (hy : YI y)  : CT l E yX9_lasts cX9_lasts 7 (some .int) rmX9_lasts [.ref (am 0), .int x] (wm E am g y j td ++ r) (PM E am r (sp_lasts g y x) gi) := by
  refine CT.of (lv := [(0, .ref (am 0)), (1, .int x)]) false (by decide +kernel) (by decide) (Nat.le_of_ble_eq_true rfl) rfl ?_
  have f0 := hI.words
  have f1 := hI.birds
  have f2 := hI.gone
  have f3 := hI.hour
  obtain ⟨y00, y01, y02, y1, y2⟩ := id hy
  refine wf_aload_n 0 dX9_lasts_0 rfl ?_
  refine wf_iload_n 1 dX9_lasts_1 rfl ?_
  refine wf_callVD (As := [.int x]) (rest := []) 0 (c_X9_isWord) kV_X9_102 rfl (by decide) (by decide) (Nat.le_of_ble_eq_true rfl) rfl rfl rfl dX9_lasts_2 ?_
  refine wf_if_ne_b 14 dX9_lasts_5 (by decide) (fun c5 => ?_) (fun c5 => ?_)
  · obtain ⟨j_, hj_, rfl⟩ := eHas_i (by omega) c5
    have q0 := hI.ink j_
    refine wf_aload_n 0 dX9_lasts_14 rfl ?_
    refine wf_iload_n 1 dX9_lasts_15 rfl ?_
    refine wf_callVD (As := [.int (nI j_)]) (rest := []) 0 (c_X9_isGone hI (by omega)) kV_X9_148 rfl (by decide) (by decide) (Nat.le_of_ble_eq_true rfl) rfl rfl rfl dX9_lasts_16 ?_
    refine wf_if_eq_b 29 dX9_lasts_19 (by decide) (fun c19 => ?_) (fun c19 => ?_)
    · refine wf_aload_n 0 dX9_lasts_29 rfl ?_
      refine wf_getf (C := RX9) (T := TX9) (N := 27) (v := .ref (am 3)) 0 2 in_X9 rfl rfl (by decide) fl_X9_16 rfl dX9_lasts_30 ?_
      refine wf_iload_n 1 dX9_lasts_33 rfl ?_
      refine wf_iald_n (nI (g 1 j_)) 3 rfl (by omega) (by decide) rfl dX9_lasts_34 ?_
      refine wf_istore_n [(2, .int (nI (g 1 j_))), (0, .ref (am 0)), (1, .int (nI j_))] dX9_lasts_35 rfl (by decide) rfl ?_
      refine wf_iconst (nI 0) dX9_lasts_36 (by decide) ?_
      refine wf_istore_n [(3, .int (nI 0)), (2, .int (nI (g 1 j_))), (0, .ref (am 0)), (1, .int (nI j_))] dX9_lasts_37 rfl (by decide) rfl ?_
      refine wf_iconst (-1) dX9_lasts_38 (by decide) ?_
      refine wf_istore [(4, .int (-1)), (3, .int (nI 0)), (2, .int (nI (g 1 j_))), (0, .ref (am 0)), (1, .int (nI j_))] dX9_lasts_39 (by decide) rfl ?_
      refine wf_iconst (nI 0) dX9_lasts_41 (by decide) ?_
      refine wf_istore [(5, .int (nI 0)), (4, .int (-1)), (3, .int (nI 0)), (2, .int (nI (g 1 j_))), (0, .ref (am 0)), (1, .int (nI j_))] dX9_lasts_42 (by decide) rfl ?_
      have L44 : ∀ (fu44 : Nat) (i : Nat) (v : Nat), 3 - i < fu44 → (i ≤ 3) → WF l E RX9 cX9_lasts 7 (some .int) rmX9_lasts false (fun _ => True) (QM E (wm E am g y j td ++ r) (PM E am r (sp_lasts g y (nI j_)) gi) rmX9_lasts) (wm E am g y j td ++ r) 0 0 44 [(5, .int (nI i)), (4, .int (eG1 (eLa g j_ i).2)), (3, .int (nI ((eLa g j_ i).1))), (2, .int (nI (g 1 j_))), (0, .ref (am 0)), (1, .int (nI j_))] [] (wm E am (gs g 1 j_ v) y j td ++ r) := by
        intro fu44
        induction fu44 with
        | zero => intro i v hn; exact absurd hn (Nat.not_lt_zero _)
        | succ fu44 ih44 =>
          intro i v hn hi0
          have q1 := eLa_le g j_ i f3
          have q2 : eLaV g j_ i ≤ 8 := mGoes_le j_ (8 - g 9 3) (gs g 1 j_ i) f3
          refine wf_iload 0 dX9_lasts_44 rfl ?_
          refine wf_iconst (nI 3) dX9_lasts_46 (by decide) ?_
          refine wf_icmp_ge_n 88 dX9_lasts_47 (by decide) (by omega) (by omega) (fun c47 => ?_) (fun c47 => ?_)
          · refine wf_aload_n 4 dX9_lasts_88 rfl ?_
            refine wf_getf (C := RX9) (T := TX9) (N := 27) (v := .ref (am 3)) 0 2 in_X9 rfl rfl (by decide) fl_X9_16 rfl dX9_lasts_89 ?_
            refine wf_iload_n 5 dX9_lasts_92 rfl ?_
            refine wf_iload_n 3 dX9_lasts_93 rfl ?_
            refine wf_iast_n (wm E am (gs (gs g 1 j_ v) 1 j_ (g 1 j_)) y j td ++ r) 3 rfl (by omega) (by decide) (sf 3 (Nat.le_of_ble_eq_true rfl) (wm_set1 j_ (g 1 j_))) dX9_lasts_94 ?_
            refine wf_world (wm E am g y j td ++ r) (by rw [gs_gs, gs_id]) ?_
            refine wf_iload_n 2 dX9_lasts_95 rfl ?_
            exact wf_iret .int rfl (vp_nar_int _) ⟨rfl, rfl⟩ (pm_of (by unfold sp_lasts; rw [if_neg (by rw [c5]; decide), nI_clamp (by omega), if_neg (by rw [c19]; decide), show (3 : Nat) = i by omega]; rfl) ⟨_, _, hJ, rfl⟩) dX9_lasts_96
          · refine wf_aload_n 4 dX9_lasts_50 rfl ?_
            refine wf_getf (C := RX9) (T := TX9) (N := 27) (v := .ref (am 3)) 0 2 in_X9 rfl rfl (by decide) fl_X9_16 rfl dX9_lasts_51 ?_
            refine wf_iload_n 5 dX9_lasts_54 rfl ?_
            refine wf_iload 0 dX9_lasts_55 rfl ?_
            refine wf_iast_n (wm E am (gs (gs g 1 j_ v) 1 j_ i) y j td ++ r) 3 rfl (by omega) (by decide) (sf 3 (Nat.le_of_ble_eq_true rfl) (wm_set1 j_ i)) dX9_lasts_57 ?_
            refine wf_world (wm E am (gs g 1 j_ i) y j td ++ r) (by rw [gs_gs]) ?_
            refine wf_aload_n 4 dX9_lasts_58 rfl ?_
            refine wf_iload_n 5 dX9_lasts_59 rfl ?_
            refine wf_callVD (As := [.int (nI j_)]) (rest := []) 0 (c_X9_goesIn (hI.oInk (by omega)) (by omega)) kV_X9_178 rfl (by decide) (by decide) (Nat.le_of_ble_eq_true rfl) rfl rfl rfl dX9_lasts_60 ?_
            refine wf_top (y := .int (nI (eLaV g j_ i))) (by rw [mGi_la c19]) ?_
            refine wf_istore [(6, .int (nI (eLaV g j_ i))), (5, .int (nI i)), (4, .int (eG1 (eLa g j_ i).2)), (3, .int (nI ((eLa g j_ i).1))), (2, .int (nI (g 1 j_))), (0, .ref (am 0)), (1, .int (nI j_))] dX9_lasts_63 (by decide) rfl ?_
            refine wf_iload 0 dX9_lasts_65 rfl ?_
            refine wf_iload 2 dX9_lasts_67 rfl ?_
            refine wf_icmp_gt 75 dX9_lasts_69 (by decide) (fun c69 => ?_) (fun c69 => ?_)
            · refine wf_iload 1 dX9_lasts_75 rfl ?_
              refine wf_istore_n [(3, .int (nI i)), (6, .int (nI (eLaV g j_ i))), (5, .int (nI i)), (4, .int (eG1 (eLa g j_ i).2)), (2, .int (nI (g 1 j_))), (0, .ref (am 0)), (1, .int (nI j_))] dX9_lasts_77 rfl (by decide) rfl ?_
              refine wf_iload 1 dX9_lasts_78 rfl ?_
              refine wf_istore [(4, .int (nI (eLaV g j_ i))), (3, .int (nI i)), (6, .int (nI (eLaV g j_ i))), (5, .int (nI i)), (2, .int (nI (g 1 j_))), (0, .ref (am 0)), (1, .int (nI j_))] dX9_lasts_80 (by decide) rfl ?_
              refine wf_iinc (nI (i + 1)) 3 [(5, .int (nI (i + 1))), (4, .int (nI (eLaV g j_ i))), (3, .int (nI i)), (6, .int (nI (eLaV g j_ i))), (2, .int (nI (g 1 j_))), (0, .ref (am 0)), (1, .int (nI j_))] dX9_lasts_82 rfl (nI_1 i) (by decide) rfl ?_
              refine wf_goto 44 dX9_lasts_85 (by decide) ?_
              refine wf_sub (lv' := [(5, .int (nI (i + 1))), (4, .int (nI (eLaV g j_ i))), (3, .int (nI i)), (2, .int (nI (g 1 j_))), (0, .ref (am 0)), (1, .int (nI j_))]) [0, 1, 2, 4, 5, 6] rfl ?_
              have hq : eLa g j_ (i + 1) = (i, eLaV g j_ i + 1) := by show (if _ then _ else _) = _; rw [if_pos (by have := mt (eG1_lt (v := eLaV g j_ i) (m := (eLa g j_ i).2) (by omega) (by omega)).mpr (Int32.not_le.mpr c69); omega)]
              refine wf_lvc [(5, .int (nI (i + 1))), (4, .int (eG1 (eLa g j_ (i + 1)).2)), (3, .int (nI ((eLa g j_ (i + 1)).1))), (2, .int (nI (g 1 j_))), (0, .ref (am 0)), (1, .int (nI j_))] (by rw [hq, eG1_s]) ?_
              exact ih44 (i + 1) i (by omega) (by omega)
            · refine wf_goto 82 dX9_lasts_72 (by decide) ?_
              refine wf_iinc (nI (i + 1)) 1 [(5, .int (nI (i + 1))), (6, .int (nI (eLaV g j_ i))), (4, .int (eG1 (eLa g j_ i).2)), (3, .int (nI ((eLa g j_ i).1))), (2, .int (nI (g 1 j_))), (0, .ref (am 0)), (1, .int (nI j_))] dX9_lasts_82 rfl (nI_1 i) (by decide) rfl ?_
              refine wf_goto 44 dX9_lasts_85 (by decide) ?_
              refine wf_sub (lv' := [(5, .int (nI (i + 1))), (4, .int (eG1 (eLa g j_ i).2)), (3, .int (nI ((eLa g j_ i).1))), (2, .int (nI (g 1 j_))), (0, .ref (am 0)), (1, .int (nI j_))]) [0, 2, 3, 4, 5, 6] rfl ?_
              have hq : eLa g j_ (i + 1) = eLa g j_ i := by show (if _ then _ else _) = _; rw [if_neg (by have := (eG1_lt (v := eLaV g j_ i) (m := (eLa g j_ i).2) (by omega) (by omega)).mp (Int32.not_lt.mp c69); omega)]
              refine wf_lvc [(5, .int (nI (i + 1))), (4, .int (eG1 (eLa g j_ (i + 1)).2)), (3, .int (nI ((eLa g j_ (i + 1)).1))), (2, .int (nI (g 1 j_))), (0, .ref (am 0)), (1, .int (nI j_))] (by rw [hq]) ?_
              exact ih44 (i + 1) i (by omega) (by omega)
      refine wf_sub (lv' := [(5, .int (nI 0)), (4, .int (-1)), (3, .int (nI 0)), (2, .int (nI (g 1 j_))), (0, .ref (am 0)), (1, .int (nI j_))]) [0, 1, 2, 3, 4, 5] rfl ?_
      refine wf_lvc [(5, .int (nI 0)), (4, .int (eG1 (eLa g j_ 0).2)), (3, .int (nI ((eLa g j_ 0).1))), (2, .int (nI (g 1 j_))), (0, .ref (am 0)), (1, .int (nI j_))] (by rw [show (eLa g j_ 0).2 = 0 from rfl, eG1_0]; rfl) ?_
      refine wf_world (wm E am (gs g 1 j_ (g 1 j_)) y j td ++ r) (by rw [gs_id]) ?_
      exact L44 _ 0 (g 1 j_) (Nat.lt_succ_self _) (Nat.zero_le _)
    · refine wf_aload_n 0 dX9_lasts_22 rfl ?_
      refine wf_bipush (-3) dX9_lasts_23 (by decide) ?_
      refine wf_callVD (As := [.int (-3)]) (rest := []) 0 (c_X9_no (k := 3) (by decide)) kV_X9_73 rfl (by decide) (by decide) (Nat.le_of_ble_eq_true rfl) rfl rfl rfl dX9_lasts_25 ?_
      exact wf_iret .int rfl (vp_nar_int _) ⟨rfl, rfl⟩ (pm_of (by unfold sp_lasts; rw [if_neg (by rw [c5]; decide), nI_clamp (by omega), if_pos c19]; rfl) ⟨_, _, hJ, rfl⟩) dX9_lasts_28
  · refine wf_aload_n 0 dX9_lasts_8 rfl ?_
    refine wf_iconst (-1) dX9_lasts_9 (by decide) ?_
    refine wf_callVD (As := [.int (-1)]) (rest := []) 0 (c_X9_no (k := 1) (by decide)) kV_X9_73 rfl (by decide) (by decide) (Nat.le_of_ble_eq_true rfl) rfl rfl rfl dX9_lasts_10 ?_
    exact wf_iret .int rfl (vp_nar_int _) ⟨rfl, rfl⟩ (pm_of (by unfold sp_lasts; rw [if_pos c5]; rfl) ⟨_, _, hJ, rfl⟩) dX9_lasts_13
