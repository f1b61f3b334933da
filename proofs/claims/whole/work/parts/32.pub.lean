abbrev rmX8_letter : Room := { frames := 2, cells := 0, slots := 0, locals := 41 }
set_option maxHeartbeats 4000000 in
set_option maxRecDepth 100000 in
theorem c_X8_letter {l : Launch} {E : Ev} {x : Int32} {g gm gi y : Gd} {a b c kk al ax : Nat → Nat} {r : va_W} (hI : Inv g) (hM : Inv gm) (hG : Inv gi) (hy : YI y)  : CT l E yX8_letter cX8_letter 2 (some .int) rmX8_letter [.ref (ax 0), .int x] (wg E (kk 6) a g ++ (wk E kk ++ (wl E al y ++ (wx E ax (a 0) (b 0) (c 0) (al 0) y ++ (wg E (kk 6) b gm ++ (wg E (kk 6) c gi ++ r)))))) (PX E kk a b c al ax r (sp_letter g y x) gi) := by
  refine CT.of (lv := [(0, .ref (ax 0)), (1, .int x)]) false (by decide +kernel) (by decide) (Nat.le_of_ble_eq_true rfl) rfl ?_
  have f0 := hI.words
  have f1 := hI.birds
  have f2 := hI.gone
  have f3 := hI.hour
  obtain ⟨y00, y01, y02, y1, y2⟩ := id hy
  refine wf_iload_n 1 dX8_letter_0 rfl ?_
  refine wf_if_ge 11 dX8_letter_1 (by decide) (fun c1 => ?_) (fun c1 => ?_)
  · refine wf_iload_n 1 dX8_letter_11 rfl ?_
    refine wf_sipush (nI 255) dX8_letter_12 (by decide) ?_
    refine wf_icmp_gt 28 dX8_letter_15 (by decide) (fun c15 => ?_) (fun c15 => ?_)
    · refine wf_aload_n 0 dX8_letter_28 rfl ?_
      refine wf_bipush (-6) dX8_letter_29 (by decide) ?_
      refine wf_callVD (As := [.int (-6)]) (rest := []) 19 (c_X8_refuse (k := 6) (by decide)) kV_X8_56 rfl (by decide) (by decide) (Nat.le_of_ble_eq_true rfl) rfl rfl rfl dX8_letter_31 ?_
      exact wf_iret .int rfl (vp_nar_int _) ⟨rfl, rfl⟩ (px_of (by unfold sp_letter; rw [if_neg (Int32.not_lt.mpr c1), if_pos c15]; rfl) ⟨_, hM, rfl⟩) dX8_letter_34
    · have h0 := Int32.not_lt.mpr c1
      have h1 := c15
      obtain ⟨n, hn, rfl⟩ := i_le (k := 255) (by decide) h0 h1
      refine wf_aload_n 0 dX8_letter_18 rfl ?_
      refine wf_getf (C := RX8) (T := TX8) (N := 8) (v := .ref (al 0)) 19 4 in_X8 rfl rfl (by decide) fl_X8_45 rfl dX8_letter_19 ?_
      refine wf_callVD (As := []) (rest := []) 17 (c_X4_isFull y01) kV_X8_60 rfl (by decide) (by decide) (Nat.le_of_ble_eq_true rfl) rfl rfl rfl dX8_letter_22 ?_
      refine wf_if_eq_b 35 dX8_letter_25 (by decide) (fun c25 => ?_) (fun c25 => ?_)
      · refine wf_aload_n 0 dX8_letter_35 rfl ?_
        refine wf_getf (C := RX8) (T := TX8) (N := 8) (v := .ref (al 0)) 19 4 in_X8 rfl rfl (by decide) fl_X8_45 rfl dX8_letter_36 ?_
        refine wf_iload_n 1 dX8_letter_39 rfl ?_
        refine wf_i2c (nI n) dX8_letter_40 (i2c_n (by omega)) ?_
        refine wf_callVD (As := [.int (nI n)]) (rest := []) 17 (c_X4_add (by have := of_decide_eq_false c25; omega) (by omega)) kV_X8_64 rfl (by decide) (by decide) (Nat.le_of_ble_eq_true rfl) rfl rfl rfl dX8_letter_41 ?_
        exact wf_iret .int rfl (vp_nar_int _) ⟨rfl, rfl⟩ (px_of (by unfold sp_letter; rw [if_neg h0, if_neg h1, if_neg (of_decide_eq_false c25), nI_clamp (by omega)]) ⟨_, hM, rfl⟩) dX8_letter_44
      · refine wf_aload_n 0 dX8_letter_28 rfl ?_
        refine wf_bipush (-6) dX8_letter_29 (by decide) ?_
        refine wf_callVD (As := [.int (-6)]) (rest := []) 19 (c_X8_refuse (k := 6) (by decide)) kV_X8_56 rfl (by decide) (by decide) (Nat.le_of_ble_eq_true rfl) rfl rfl rfl dX8_letter_31 ?_
        exact wf_iret .int rfl (vp_nar_int _) ⟨rfl, rfl⟩ (px_of (by unfold sp_letter; rw [if_neg h0, if_neg h1, if_pos (of_decide_eq_true c25)]; rfl) ⟨_, hM, rfl⟩) dX8_letter_34
  · refine wf_aload_n 0 dX8_letter_4 rfl ?_
    refine wf_bipush (-4) dX8_letter_5 (by decide) ?_
    refine wf_callVD (As := [.int (-4)]) (rest := []) 19 (c_X8_refuse (k := 4) (by decide)) kV_X8_56 rfl (by decide) (by decide) (Nat.le_of_ble_eq_true rfl) rfl rfl rfl dX8_letter_7 ?_
    exact wf_iret .int rfl (vp_nar_int _) ⟨rfl, rfl⟩ (px_of (by unfold sp_letter; rw [if_pos (Int32.not_le.mp c1)]; rfl) ⟨_, hM, rfl⟩) dX8_letter_10
abbrev rmX8_word : Room := { frames := 1, cells := 0, slots := 0, locals := 22 }
set_option maxHeartbeats 4000000 in
set_option maxRecDepth 100000 in
theorem c_X8_word {l : Launch} {E : Ev} {x z : Int32} {g gm gi y : Gd} {a b c kk al ax : Nat → Nat} {r : va_W} (hI : Inv g) (hM : Inv gm) (hG : Inv gi) (hy : YI y)  : CT l E yX8_word cX8_word 3 (some .int) rmX8_word [.ref (ax 0), .int x, .int z] (wg E (kk 6) a g ++ (wk E kk ++ (wl E al y ++ (wx E ax (a 0) (b 0) (c 0) (al 0) y ++ (wg E (kk 6) b gm ++ (wg E (kk 6) c gi ++ r)))))) (PX E kk a b c al ax r (sp_word g y x z) gi) := by
  refine CT.of (lv := [(0, .ref (ax 0)), (1, .int x), (2, .int z)]) false (by decide +kernel) (by decide) (Nat.le_of_ble_eq_true rfl) rfl ?_
  have f0 := hI.words
  have f1 := hI.birds
  have f2 := hI.gone
  have f3 := hI.hour
  obtain ⟨y00, y01, y02, y1, y2⟩ := id hy
  refine wf_aload_n 0 dX8_word_0 rfl ?_
  refine wf_getf (C := RX8) (T := TX8) (N := 8) (v := .ref (a 0)) 19 0 in_X8 rfl rfl (by decide) fl_X8_30 rfl dX8_word_1 ?_
  refine wf_iload_n 1 dX8_word_4 rfl ?_
  refine wf_callVD (As := [.int x]) (rest := []) 0 (c_X2_hasWord ) kV_X8_86 rfl (by decide) (by decide) (Nat.le_of_ble_eq_true rfl) rfl rfl rfl dX8_word_5 ?_
  refine wf_if_ne_b 17 dX8_word_8 (by decide) (fun c8 => ?_) (fun c8 => ?_)
  · obtain ⟨j, hj, rfl⟩ := eHas_i (by omega) c8
    refine wf_iload_n 2 dX8_word_17 rfl ?_
    refine wf_if_lt 27 dX8_word_18 (by decide) (fun c18 => ?_) (fun c18 => ?_)
    · refine wf_aload_n 0 dX8_word_27 rfl ?_
      refine wf_bipush (-2) dX8_word_28 (by decide) ?_
      refine wf_callVD (As := [.int (-2)]) (rest := []) 19 (c_X8_refuse (k := 2) (by decide)) kV_X8_56 rfl (by decide) (by decide) (Nat.le_of_ble_eq_true rfl) rfl rfl rfl dX8_word_30 ?_
      exact wf_iret .int rfl (vp_nar_int _) ⟨rfl, rfl⟩ (px_of (by unfold sp_word; rw [if_neg (by rw [c8]; decide), if_pos c18]; rfl) ⟨_, hM, rfl⟩) dX8_word_33
    · refine wf_iload_n 2 dX8_word_21 rfl ?_
      refine wf_bipush (nI 6) dX8_word_22 (by decide) ?_
      refine wf_icmp_lt 34 dX8_word_24 (by decide) (fun c24 => ?_) (fun c24 => ?_)
      · obtain ⟨k, hk, rfl⟩ := i_n (k := 6) (by decide) c18 c24
        refine wf_iload_n 2 dX8_word_34 rfl ?_
        by_cases s35_0 : k = 0
        · refine wf_tableIn 68 dX8_word_35 (by rw [s35_0]; decide) (by rw [s35_0]; decide) (by rw [s35_0]; rfl) (by decide) ?_
          refine wf_aload_n 0 dX8_word_68 rfl ?_
          refine wf_getf (C := RX8) (T := TX8) (N := 8) (v := .ref (a 0)) 19 0 in_X8 rfl rfl (by decide) fl_X8_30 rfl dX8_word_69 ?_
          refine wf_getf (C := RX2) (T := TX2) (N := 14) (v := .ref (a 1)) 0 1 in_X2 rfl rfl (by decide) fl_X8_90 rfl dX8_word_72 ?_
          refine wf_iload_n 1 dX8_word_75 rfl ?_
          refine wf_iald_n (nI (g 0 j)) 1 rfl (by omega) (by decide) rfl dX8_word_76 ?_
          exact wf_iret .int rfl (vp_nar_int _) ⟨rfl, rfl⟩ (px_of (by unfold sp_word; rw [if_neg (by rw [c8]; decide), if_neg c18, if_pos c24, nI_clamp (by omega), nI_clamp (by omega)]; unfold vWord; rw [if_pos s35_0]; rfl) ⟨_, hM, rfl⟩) dX8_word_77
        by_cases s35_1 : k = 1
        · refine wf_tableIn 78 dX8_word_35 (by rw [s35_1]; decide) (by rw [s35_1]; decide) (by rw [s35_1]; rfl) (by decide) ?_
          refine wf_aload_n 0 dX8_word_78 rfl ?_
          refine wf_getf (C := RX8) (T := TX8) (N := 8) (v := .ref (a 0)) 19 0 in_X8 rfl rfl (by decide) fl_X8_30 rfl dX8_word_79 ?_
          refine wf_getf (C := RX2) (T := TX2) (N := 14) (v := .ref (a 2)) 0 2 in_X2 rfl rfl (by decide) fl_X8_93 rfl dX8_word_82 ?_
          refine wf_iload_n 1 dX8_word_85 rfl ?_
          refine wf_iald_n (nI (g 1 j)) 2 rfl (by omega) (by decide) rfl dX8_word_86 ?_
          exact wf_iret .int rfl (vp_nar_int _) ⟨rfl, rfl⟩ (px_of (by unfold sp_word; rw [if_neg (by rw [c8]; decide), if_neg c18, if_pos c24, nI_clamp (by omega), nI_clamp (by omega)]; unfold vWord; rw [if_neg s35_0, if_pos s35_1]; rfl) ⟨_, hM, rfl⟩) dX8_word_87
        by_cases s35_2 : k = 2
        · refine wf_tableIn 88 dX8_word_35 (by rw [s35_2]; decide) (by rw [s35_2]; decide) (by rw [s35_2]; rfl) (by decide) ?_
          refine wf_aload_n 0 dX8_word_88 rfl ?_
          refine wf_getf (C := RX8) (T := TX8) (N := 8) (v := .ref (a 0)) 19 0 in_X8 rfl rfl (by decide) fl_X8_30 rfl dX8_word_89 ?_
          refine wf_getf (C := RX2) (T := TX2) (N := 14) (v := .ref (a 3)) 0 3 in_X2 rfl rfl (by decide) fl_X8_96 rfl dX8_word_92 ?_
          refine wf_iload_n 1 dX8_word_95 rfl ?_
          refine wf_iald_n (nI (g 2 j)) 3 rfl (by omega) (by decide) rfl dX8_word_96 ?_
          exact wf_iret .int rfl (vp_nar_int _) ⟨rfl, rfl⟩ (px_of (by unfold sp_word; rw [if_neg (by rw [c8]; decide), if_neg c18, if_pos c24, nI_clamp (by omega), nI_clamp (by omega)]; unfold vWord; rw [if_neg s35_0, if_neg s35_1, if_pos s35_2]; rfl) ⟨_, hM, rfl⟩) dX8_word_97
        by_cases s35_3 : k = 3
        · refine wf_tableIn 98 dX8_word_35 (by rw [s35_3]; decide) (by rw [s35_3]; decide) (by rw [s35_3]; rfl) (by decide) ?_
          refine wf_aload_n 0 dX8_word_98 rfl ?_
          refine wf_getf (C := RX8) (T := TX8) (N := 8) (v := .ref (a 0)) 19 0 in_X8 rfl rfl (by decide) fl_X8_30 rfl dX8_word_99 ?_
          refine wf_iload_n 1 dX8_word_102 rfl ?_
          refine wf_callVD (As := [.int (nI j)]) (rest := []) 0 (c_X2_strength hI (by omega)) kV_X8_99 rfl (by decide) (by decide) (Nat.le_of_ble_eq_true rfl) rfl rfl rfl dX8_word_103 ?_
          exact wf_iret .int rfl (vp_nar_int _) ⟨rfl, rfl⟩ (px_of (by unfold sp_word; rw [if_neg (by rw [c8]; decide), if_neg c18, if_pos c24, nI_clamp (by omega), nI_clamp (by omega)]; unfold vWord; rw [if_neg s35_0, if_neg s35_1, if_neg s35_2, if_pos s35_3]; rfl) ⟨_, hM, rfl⟩) dX8_word_106
        by_cases s35_4 : k = 4
        · refine wf_tableIn 107 dX8_word_35 (by rw [s35_4]; decide) (by rw [s35_4]; decide) (by rw [s35_4]; rfl) (by decide) ?_
          refine wf_aload_n 0 dX8_word_107 rfl ?_
          refine wf_getf (C := RX8) (T := TX8) (N := 8) (v := .ref (a 0)) 19 0 in_X8 rfl rfl (by decide) fl_X8_30 rfl dX8_word_108 ?_
          refine wf_iload_n 1 dX8_word_111 rfl ?_
          refine wf_callVD (As := [.int (nI j)]) (rest := []) 0 (c_X2_isGone hI (by omega)) kV_X8_102 rfl (by decide) (by decide) (Nat.le_of_ble_eq_true rfl) rfl rfl rfl dX8_word_112 ?_
          refine wf_if_eq_b 122 dX8_word_115 (by decide) (fun c115 => ?_) (fun c115 => ?_)
          · refine wf_iconst (nI 0) dX8_word_122 (by decide) ?_
            exact wf_iret .int rfl (vp_nar_int _) ⟨rfl, rfl⟩ (px_of (by unfold sp_word; rw [if_neg (by rw [c8]; decide), if_neg c18, if_pos c24, nI_clamp (by omega), nI_clamp (by omega)]; unfold vWord; rw [if_neg s35_0, if_neg s35_1, if_neg s35_2, if_neg s35_3, if_pos s35_4]; rw [c115]; rfl) ⟨_, hM, rfl⟩) dX8_word_123
          · refine wf_iconst (nI 1) dX8_word_118 (by decide) ?_
            refine wf_goto 123 dX8_word_119 (by decide) ?_
            exact wf_iret .int rfl (vp_nar_int _) ⟨rfl, rfl⟩ (px_of (by unfold sp_word; rw [if_neg (by rw [c8]; decide), if_neg c18, if_pos c24, nI_clamp (by omega), nI_clamp (by omega)]; unfold vWord; rw [if_neg s35_0, if_neg s35_1, if_neg s35_2, if_neg s35_3, if_pos s35_4]; rw [c115]; rfl) ⟨_, hM, rfl⟩) dX8_word_123
        refine wf_tableOut 124 dX8_word_35 (by rw [nI_toInt (by omega)]; omega) (by decide) ?_
        refine wf_aload_n 0 dX8_word_124 rfl ?_
        refine wf_getf (C := RX8) (T := TX8) (N := 8) (v := .ref (a 0)) 19 0 in_X8 rfl rfl (by decide) fl_X8_30 rfl dX8_word_125 ?_
        refine wf_iload_n 1 dX8_word_128 rfl ?_
        refine wf_aload_n 0 dX8_word_129 rfl ?_
        refine wf_getf (C := RX8) (T := TX8) (N := 8) (v := .ref (a 0)) 19 0 in_X8 rfl rfl (by decide) fl_X8_30 rfl dX8_word_130 ?_
        refine wf_getf (C := RX2) (T := TX2) (N := 14) (v := .int (nI (g 9 3))) 0 13 in_X2 rfl rfl (by decide) fl_X8_105 rfl dX8_word_133 ?_
        refine wf_callVD (As := [.int (nI j), .int (nI (g 9 3))]) (rest := []) 0 (c_X2_isWatched hI (by omega) (by omega)) kV_X8_108 rfl (by decide) (by decide) (Nat.le_of_ble_eq_true rfl) rfl rfl rfl dX8_word_136 ?_
        refine wf_if_eq_b 146 dX8_word_139 (by decide) (fun c139 => ?_) (fun c139 => ?_)
        · refine wf_iconst (nI 0) dX8_word_146 (by decide) ?_
          exact wf_iret .int rfl (vp_nar_int _) ⟨rfl, rfl⟩ (px_of (by unfold sp_word; rw [if_neg (by rw [c8]; decide), if_neg c18, if_pos c24, nI_clamp (by omega), nI_clamp (by omega)]; unfold vWord; rw [if_neg s35_0, if_neg s35_1, if_neg s35_2, if_neg s35_3, if_neg s35_4]; rw [c139]; rfl) ⟨_, hM, rfl⟩) dX8_word_147
        · refine wf_iconst (nI 1) dX8_word_142 (by decide) ?_
          refine wf_goto 147 dX8_word_143 (by decide) ?_
          exact wf_iret .int rfl (vp_nar_int _) ⟨rfl, rfl⟩ (px_of (by unfold sp_word; rw [if_neg (by rw [c8]; decide), if_neg c18, if_pos c24, nI_clamp (by omega), nI_clamp (by omega)]; unfold vWord; rw [if_neg s35_0, if_neg s35_1, if_neg s35_2, if_neg s35_3, if_neg s35_4]; rw [c139]; rfl) ⟨_, hM, rfl⟩) dX8_word_147
      · refine wf_aload_n 0 dX8_word_27 rfl ?_
        refine wf_bipush (-2) dX8_word_28 (by decide) ?_
        refine wf_callVD (As := [.int (-2)]) (rest := []) 19 (c_X8_refuse (k := 2) (by decide)) kV_X8_56 rfl (by decide) (by decide) (Nat.le_of_ble_eq_true rfl) rfl rfl rfl dX8_word_30 ?_
        exact wf_iret .int rfl (vp_nar_int _) ⟨rfl, rfl⟩ (px_of (by unfold sp_word; rw [if_neg (by rw [c8]; decide), if_neg c18, if_neg c24]; rfl) ⟨_, hM, rfl⟩) dX8_word_33
  · refine wf_aload_n 0 dX8_word_11 rfl ?_
    refine wf_iconst (-1) dX8_word_12 (by decide) ?_
    refine wf_callVD (As := [.int (-1)]) (rest := []) 19 (c_X8_refuse (k := 1) (by decide)) kV_X8_56 rfl (by decide) (by decide) (Nat.le_of_ble_eq_true rfl) rfl rfl rfl dX8_word_13 ?_
    exact wf_iret .int rfl (vp_nar_int _) ⟨rfl, rfl⟩ (px_of (by unfold sp_word; rw [if_pos c8]; rfl) ⟨_, hM, rfl⟩) dX8_word_16
abbrev rmX8_bird : Room := { frames := 3, cells := 0, slots := 0, locals := 69 }
set_option maxHeartbeats 4000000 in
set_option maxRecDepth 100000 in
theorem c_X8_bird {l : Launch} {E : Ev} {x z : Int32} {g gm gi y : Gd} {a b c kk al ax : Nat → Nat} {r : va_W} (hI : Inv g) (hM : Inv gm) (hG : Inv gi) (hy : YI y)  : CT l E yX8_bird cX8_bird 3 (some .int) rmX8_bird [.ref (ax 0), .int x, .int z] (wg E (kk 6) a g ++ (wk E kk ++ (wl E al y ++ (wx E ax (a 0) (b 0) (c 0) (al 0) y ++ (wg E (kk 6) b gm ++ (wg E (kk 6) c gi ++ r)))))) (PX E kk a b c al ax r (sp_bird g y x z) gi) := by
  refine CT.of (lv := [(0, .ref (ax 0)), (1, .int x), (2, .int z)]) false (by decide +kernel) (by decide) (Nat.le_of_ble_eq_true rfl) rfl ?_
  have f0 := hI.words
  have f1 := hI.birds
  have f2 := hI.gone
  have f3 := hI.hour
  obtain ⟨y00, y01, y02, y1, y2⟩ := id hy
  refine wf_aload_n 0 dX8_bird_0 rfl ?_
  refine wf_getf (C := RX8) (T := TX8) (N := 8) (v := .ref (a 0)) 19 0 in_X8 rfl rfl (by decide) fl_X8_30 rfl dX8_bird_1 ?_
  refine wf_iload_n 1 dX8_bird_4 rfl ?_
  refine wf_callVD (As := [.int x]) (rest := []) 0 (c_X2_hasBird ) kV_X8_112 rfl (by decide) (by decide) (Nat.le_of_ble_eq_true rfl) rfl rfl rfl dX8_bird_5 ?_
  refine wf_if_ne_b 17 dX8_bird_8 (by decide) (fun c8 => ?_) (fun c8 => ?_)
  · obtain ⟨j, hj, rfl⟩ := eHas_i (by omega) c8
    refine wf_iload_n 2 dX8_bird_17 rfl ?_
    refine wf_if_lt 26 dX8_bird_18 (by decide) (fun c18 => ?_) (fun c18 => ?_)
    · refine wf_aload_n 0 dX8_bird_26 rfl ?_
      refine wf_bipush (-2) dX8_bird_27 (by decide) ?_
      refine wf_callVD (As := [.int (-2)]) (rest := []) 19 (c_X8_refuse (k := 2) (by decide)) kV_X8_56 rfl (by decide) (by decide) (Nat.le_of_ble_eq_true rfl) rfl rfl rfl dX8_bird_29 ?_
      exact wf_iret .int rfl (vp_nar_int _) ⟨rfl, rfl⟩ (px_of (by unfold sp_bird; rw [if_neg (by rw [c8]; decide), if_pos c18]; rfl) ⟨_, hM, rfl⟩) dX8_bird_32
    · refine wf_iload_n 2 dX8_bird_21 rfl ?_
      refine wf_iconst (nI 5) dX8_bird_22 (by decide) ?_
      refine wf_icmp_lt 33 dX8_bird_23 (by decide) (fun c23 => ?_) (fun c23 => ?_)
      · obtain ⟨k, hk, rfl⟩ := i_n (k := 5) (by decide) c18 c23
        refine wf_iload_n 2 dX8_bird_33 rfl ?_
        by_cases s34_0 : k = 0
        · refine wf_tableIn 64 dX8_bird_34 (by rw [s34_0]; decide) (by rw [s34_0]; decide) (by rw [s34_0]; rfl) (by decide) ?_
          refine wf_aload_n 0 dX8_bird_64 rfl ?_
          refine wf_getf (C := RX8) (T := TX8) (N := 8) (v := .ref (a 0)) 19 0 in_X8 rfl rfl (by decide) fl_X8_30 rfl dX8_bird_65 ?_
          refine wf_getf (C := RX2) (T := TX2) (N := 14) (v := .ref (a 4)) 0 5 in_X2 rfl rfl (by decide) fl_X8_115 rfl dX8_bird_68 ?_
          refine wf_iload_n 1 dX8_bird_71 rfl ?_
          refine wf_iald_n (nI (g 3 j)) 4 rfl (by omega) (by decide) rfl dX8_bird_72 ?_
          exact wf_iret .int rfl (vp_nar_int _) ⟨rfl, rfl⟩ (px_of (by unfold sp_bird; rw [if_neg (by rw [c8]; decide), if_neg c18, if_pos c23, nI_clamp (by omega), nI_clamp (by omega)]; unfold vBird; rw [if_pos s34_0]; rfl) ⟨_, hM, rfl⟩) dX8_bird_73
        by_cases s34_1 : k = 1
        · refine wf_tableIn 74 dX8_bird_34 (by rw [s34_1]; decide) (by rw [s34_1]; decide) (by rw [s34_1]; rfl) (by decide) ?_
          refine wf_aload_n 0 dX8_bird_74 rfl ?_
          refine wf_getf (C := RX8) (T := TX8) (N := 8) (v := .ref (a 0)) 19 0 in_X8 rfl rfl (by decide) fl_X8_30 rfl dX8_bird_75 ?_
          refine wf_getf (C := RX2) (T := TX2) (N := 14) (v := .ref (a 5)) 0 6 in_X2 rfl rfl (by decide) fl_X8_118 rfl dX8_bird_78 ?_
          refine wf_iload_n 1 dX8_bird_81 rfl ?_
          refine wf_iald_n (nI (g 4 j)) 5 rfl (by omega) (by decide) rfl dX8_bird_82 ?_
          exact wf_iret .int rfl (vp_nar_int _) ⟨rfl, rfl⟩ (px_of (by unfold sp_bird; rw [if_neg (by rw [c8]; decide), if_neg c18, if_pos c23, nI_clamp (by omega), nI_clamp (by omega)]; unfold vBird; rw [if_neg s34_0, if_pos s34_1]; rfl) ⟨_, hM, rfl⟩) dX8_bird_83
        by_cases s34_2 : k = 2
        · refine wf_tableIn 84 dX8_bird_34 (by rw [s34_2]; decide) (by rw [s34_2]; decide) (by rw [s34_2]; rfl) (by decide) ?_
          refine wf_aload_n 0 dX8_bird_84 rfl ?_
          refine wf_getf (C := RX8) (T := TX8) (N := 8) (v := .ref (a 0)) 19 0 in_X8 rfl rfl (by decide) fl_X8_30 rfl dX8_bird_85 ?_
          refine wf_getf (C := RX2) (T := TX2) (N := 14) (v := .ref (a 6)) 0 7 in_X2 rfl rfl (by decide) fl_X8_121 rfl dX8_bird_88 ?_
          refine wf_iload_n 1 dX8_bird_91 rfl ?_
          refine wf_iald_n (nI (g 5 j)) 6 rfl (by omega) (by decide) rfl dX8_bird_92 ?_
          exact wf_iret .int rfl (vp_nar_int _) ⟨rfl, rfl⟩ (px_of (by unfold sp_bird; rw [if_neg (by rw [c8]; decide), if_neg c18, if_pos c23, nI_clamp (by omega), nI_clamp (by omega)]; unfold vBird; rw [if_neg s34_0, if_neg s34_1, if_pos s34_2]; rfl) ⟨_, hM, rfl⟩) dX8_bird_93
        by_cases s34_3 : k = 3
        · refine wf_tableIn 94 dX8_bird_34 (by rw [s34_3]; decide) (by rw [s34_3]; decide) (by rw [s34_3]; rfl) (by decide) ?_
          refine wf_aload_n 0 dX8_bird_94 rfl ?_
          refine wf_getf (C := RX8) (T := TX8) (N := 8) (v := .ref (a 0)) 19 0 in_X8 rfl rfl (by decide) fl_X8_30 rfl dX8_bird_95 ?_
          refine wf_getf (C := RX2) (T := TX2) (N := 14) (v := .ref (a 7)) 0 8 in_X2 rfl rfl (by decide) fl_X8_124 rfl dX8_bird_98 ?_
          refine wf_iload_n 1 dX8_bird_101 rfl ?_
          refine wf_iald_n (nI (g 6 j)) 7 rfl (by omega) (by decide) rfl dX8_bird_102 ?_
          exact wf_iret .int rfl (vp_nar_int _) ⟨rfl, rfl⟩ (px_of (by unfold sp_bird; rw [if_neg (by rw [c8]; decide), if_neg c18, if_pos c23, nI_clamp (by omega), nI_clamp (by omega)]; unfold vBird; rw [if_neg s34_0, if_neg s34_1, if_neg s34_2, if_pos s34_3]; rfl) ⟨_, hM, rfl⟩) dX8_bird_103
        refine wf_tableOut 104 dX8_bird_34 (by rw [nI_toInt (by omega)]; omega) (by decide) ?_
        have q3 := hI.kind j
        have q4 := hI.taste j
        refine wf_aload_n 0 dX8_bird_104 rfl ?_
        refine wf_getf (C := RX8) (T := TX8) (N := 8) (v := .ref (a 0)) 19 0 in_X8 rfl rfl (by decide) fl_X8_30 rfl dX8_bird_105 ?_
        refine wf_iload_n 1 dX8_bird_108 rfl ?_
        refine wf_callVD (As := [.int (nI j)]) (rest := []) 0 (c_X2_kindOf hI (by omega)) kV_X8_127 rfl (by decide) (by decide) (Nat.le_of_ble_eq_true rfl) rfl rfl rfl dX8_bird_109 ?_
        refine wf_aload_n 0 dX8_bird_112 rfl ?_
        refine wf_getf (C := RX8) (T := TX8) (N := 8) (v := .ref (a 0)) 19 0 in_X8 rfl rfl (by decide) fl_X8_30 rfl dX8_bird_113 ?_
        refine wf_aload_n 0 dX8_bird_116 rfl ?_
        refine wf_getf (C := RX8) (T := TX8) (N := 8) (v := .ref (a 0)) 19 0 in_X8 rfl rfl (by decide) fl_X8_30 rfl dX8_bird_117 ?_
        refine wf_getf (C := RX2) (T := TX2) (N := 14) (v := .ref (a 5)) 0 6 in_X2 rfl rfl (by decide) fl_X8_118 rfl dX8_bird_120 ?_
        refine wf_iload_n 1 dX8_bird_123 rfl ?_
        refine wf_iald_n (nI (g 4 j)) 5 rfl (by omega) (by decide) rfl dX8_bird_124 ?_
        refine wf_dchoice8 (k := (g 3 j)) (t := g 4 j) q3 hI (by omega) (by decide) (by decide) (Nat.le_of_ble_eq_true rfl) dX8_bird_125 ?_
        exact wf_iret .int rfl (vp_nar_int _) ⟨rfl, rfl⟩ (px_of (by unfold sp_bird; rw [if_neg (by rw [c8]; decide), if_neg c18, if_pos c23, nI_clamp (by omega), nI_clamp (by omega)]; unfold vBird; rw [if_neg s34_0, if_neg s34_1, if_neg s34_2, if_neg s34_3]; rfl) ⟨_, hM, rfl⟩) dX8_bird_128
      · refine wf_aload_n 0 dX8_bird_26 rfl ?_
        refine wf_bipush (-2) dX8_bird_27 (by decide) ?_
        refine wf_callVD (As := [.int (-2)]) (rest := []) 19 (c_X8_refuse (k := 2) (by decide)) kV_X8_56 rfl (by decide) (by decide) (Nat.le_of_ble_eq_true rfl) rfl rfl rfl dX8_bird_29 ?_
        exact wf_iret .int rfl (vp_nar_int _) ⟨rfl, rfl⟩ (px_of (by unfold sp_bird; rw [if_neg (by rw [c8]; decide), if_neg c18, if_neg c23]; rfl) ⟨_, hM, rfl⟩) dX8_bird_32
  · refine wf_aload_n 0 dX8_bird_11 rfl ?_
    refine wf_iconst (-1) dX8_bird_12 (by decide) ?_
    refine wf_callVD (As := [.int (-1)]) (rest := []) 19 (c_X8_refuse (k := 1) (by decide)) kV_X8_56 rfl (by decide) (by decide) (Nat.le_of_ble_eq_true rfl) rfl rfl rfl dX8_bird_13 ?_
    exact wf_iret .int rfl (vp_nar_int _) ⟨rfl, rfl⟩ (px_of (by unfold sp_bird; rw [if_pos c8]; rfl) ⟨_, hM, rfl⟩) dX8_bird_16
abbrev rmX8_bitter : Room := { frames := 2, cells := 0, slots := 0, locals := 42 }
set_option maxHeartbeats 4000000 in
set_option maxRecDepth 100000 in
theorem c_X8_bitter {l : Launch} {E : Ev} {x z : Int32} {g gm gi y : Gd} {a b c kk al ax : Nat → Nat} {r : va_W} (hI : Inv g) (hM : Inv gm) (hG : Inv gi) (hy : YI y)  : CT l E yX8_bitter cX8_bitter 4 (some .int) rmX8_bitter [.ref (ax 0), .int x, .int z] (wg E (kk 6) a g ++ (wk E kk ++ (wl E al y ++ (wx E ax (a 0) (b 0) (c 0) (al 0) y ++ (wg E (kk 6) b gm ++ (wg E (kk 6) c gi ++ r)))))) (PX E kk a b c al ax r (sp_bitter g y x z) gi) := by
  refine CT.of (lv := [(0, .ref (ax 0)), (1, .int x), (2, .int z)]) false (by decide +kernel) (by decide) (Nat.le_of_ble_eq_true rfl) rfl ?_
  have f0 := hI.words
  have f1 := hI.birds
  have f2 := hI.gone
  have f3 := hI.hour
  obtain ⟨y00, y01, y02, y1, y2⟩ := id hy
  refine wf_iload_n 1 dX8_bitter_0 rfl ?_
  refine wf_callSD (As := [.int x]) (rest := []) (c_X8_isInk) kS_X8_135 rfl (by decide) (by decide) (Nat.le_of_ble_eq_true rfl) rfl dX8_bitter_1 ?_
  refine wf_if_ne_b 13 dX8_bitter_4 (by decide) (fun c4 => ?_) (fun c4 => ?_)
  · obtain ⟨j, hj, rfl⟩ := eHas_i (by decide) c4
    refine wf_iload_n 2 dX8_bitter_13 rfl ?_
    refine wf_if_ge 24 dX8_bitter_14 (by decide) (fun c14 => ?_) (fun c14 => ?_)
    · have h0 := Int32.not_lt.mpr c14
      refine wf_iload_n 2 dX8_bitter_24 rfl ?_
      refine wf_bipush (nI 9) dX8_bitter_25 (by decide) ?_
      refine wf_icmp_le 37 dX8_bitter_27 (by decide) (fun c27 => ?_) (fun c27 => ?_)
      · have h1 := Int32.not_lt.mpr c27
        obtain ⟨n, hn, rfl⟩ := i_le (k := 9) (by decide) h0 h1
        refine wf_aload_n 0 dX8_bitter_37 rfl ?_
        refine wf_getf (C := RX8) (T := TX8) (N := 8) (v := .ref (a 0)) 19 0 in_X8 rfl rfl (by decide) fl_X8_30 rfl dX8_bitter_38 ?_
        refine wf_getf (C := RX2) (T := TX2) (N := 14) (v := .ref (a 8)) 0 10 in_X2 rfl rfl (by decide) fl_X8_138 rfl dX8_bitter_41 ?_
        refine wf_iload_n 1 dX8_bitter_44 rfl ?_
        refine wf_iald_n (nI (g 7 j)) 8 rfl (by omega) (by decide) rfl dX8_bitter_45 ?_
        refine wf_istore_n [(3, .int (nI (g 7 j))), (0, .ref (ax 0)), (1, .int (nI j)), (2, .int (nI n))] dX8_bitter_46 rfl (by decide) rfl ?_
        refine wf_aload_n 1 dX8_bitter_47 rfl ?_
        refine wf_getf (C := RX8) (T := TX8) (N := 8) (v := .ref (a 0)) 19 0 in_X8 rfl rfl (by decide) fl_X8_30 rfl dX8_bitter_48 ?_
        refine wf_iload_n 2 dX8_bitter_51 rfl ?_
        refine wf_iload_n 3 dX8_bitter_52 rfl ?_
        refine wf_callVv (As := [.int (nI j), .int (nI n)]) (rest := []) 0 (c_X2_setBitter (by omega)) kV_X8_141 rfl (by decide) (by decide) (Nat.le_of_ble_eq_true rfl) rfl rfl rfl dX8_bitter_53 ?_
        refine wf_iload_n 0 dX8_bitter_56 rfl ?_
        exact wf_iret .int rfl (vp_nar_int _) ⟨rfl, rfl⟩ (px_of (by unfold sp_bitter; rw [if_neg (by rw [c4]; decide), if_neg h0, if_neg h1, nI_clamp (by omega), nI_clamp (by omega)]) ⟨_, hM, rfl⟩) dX8_bitter_57
      · refine wf_aload_n 0 dX8_bitter_30 rfl ?_
        refine wf_bipush (-6) dX8_bitter_31 (by decide) ?_
        refine wf_callVD (As := [.int (-6)]) (rest := []) 19 (c_X8_refuse (k := 6) (by decide)) kV_X8_56 rfl (by decide) (by decide) (Nat.le_of_ble_eq_true rfl) rfl rfl rfl dX8_bitter_33 ?_
        exact wf_iret .int rfl (vp_nar_int _) ⟨rfl, rfl⟩ (px_of (by unfold sp_bitter; rw [if_neg (by rw [c4]; decide), if_neg (Int32.not_lt.mpr c14), if_pos (Int32.not_le.mp c27)]; rfl) ⟨_, hM, rfl⟩) dX8_bitter_36
    · refine wf_aload_n 0 dX8_bitter_17 rfl ?_
      refine wf_bipush (-4) dX8_bitter_18 (by decide) ?_
      refine wf_callVD (As := [.int (-4)]) (rest := []) 19 (c_X8_refuse (k := 4) (by decide)) kV_X8_56 rfl (by decide) (by decide) (Nat.le_of_ble_eq_true rfl) rfl rfl rfl dX8_bitter_20 ?_
      exact wf_iret .int rfl (vp_nar_int _) ⟨rfl, rfl⟩ (px_of (by unfold sp_bitter; rw [if_neg (by rw [c4]; decide), if_pos (Int32.not_le.mp c14)]; rfl) ⟨_, hM, rfl⟩) dX8_bitter_23
  · refine wf_aload_n 0 dX8_bitter_7 rfl ?_
    refine wf_iconst (-1) dX8_bitter_8 (by decide) ?_
    refine wf_callVD (As := [.int (-1)]) (rest := []) 19 (c_X8_refuse (k := 1) (by decide)) kV_X8_56 rfl (by decide) (by decide) (Nat.le_of_ble_eq_true rfl) rfl rfl rfl dX8_bitter_9 ?_
    exact wf_iret .int rfl (vp_nar_int _) ⟨rfl, rfl⟩ (px_of (by unfold sp_bitter; rw [if_pos c4]; rfl) ⟨_, hM, rfl⟩) dX8_bitter_12
abbrev rmX8_ink : Room := { frames := 1, cells := 0, slots := 0, locals := 22 }
set_option maxHeartbeats 4000000 in
set_option maxRecDepth 100000 in
theorem c_X8_ink {l : Launch} {E : Ev} {x z : Int32} {g gm gi y : Gd} {a b c kk al ax : Nat → Nat} {r : va_W} (hI : Inv g) (hM : Inv gm) (hG : Inv gi) (hy : YI y)  : CT l E yX8_ink cX8_ink 4 (some .int) rmX8_ink [.ref (ax 0), .int x, .int z] (wg E (kk 6) a g ++ (wk E kk ++ (wl E al y ++ (wx E ax (a 0) (b 0) (c 0) (al 0) y ++ (wg E (kk 6) b gm ++ (wg E (kk 6) c gi ++ r)))))) (PX E kk a b c al ax r (sp_ink g y x z) gi) := by
  refine CT.of (lv := [(0, .ref (ax 0)), (1, .int x), (2, .int z)]) false (by decide +kernel) (by decide) (Nat.le_of_ble_eq_true rfl) rfl ?_
  have f0 := hI.words
  have f1 := hI.birds
  have f2 := hI.gone
  have f3 := hI.hour
  obtain ⟨y00, y01, y02, y1, y2⟩ := id hy
  refine wf_aload_n 0 dX8_ink_0 rfl ?_
  refine wf_getf (C := RX8) (T := TX8) (N := 8) (v := .ref (a 0)) 19 0 in_X8 rfl rfl (by decide) fl_X8_30 rfl dX8_ink_1 ?_
  refine wf_iload_n 1 dX8_ink_4 rfl ?_
  refine wf_callVD (As := [.int x]) (rest := []) 0 (c_X2_hasWord ) kV_X8_86 rfl (by decide) (by decide) (Nat.le_of_ble_eq_true rfl) rfl rfl rfl dX8_ink_5 ?_
  refine wf_if_eq_b 18 dX8_ink_8 (by decide) (fun c8 => ?_) (fun c8 => ?_)
  · refine wf_aload_n 0 dX8_ink_18 rfl ?_
    refine wf_iconst (-1) dX8_ink_19 (by decide) ?_
    refine wf_callVD (As := [.int (-1)]) (rest := []) 19 (c_X8_refuse (k := 1) (by decide)) kV_X8_56 rfl (by decide) (by decide) (Nat.le_of_ble_eq_true rfl) rfl rfl rfl dX8_ink_20 ?_
    exact wf_iret .int rfl (vp_nar_int _) ⟨rfl, rfl⟩ (px_of (by unfold sp_ink; rw [if_pos c8]; rfl) ⟨_, hM, rfl⟩) dX8_ink_23
  · obtain ⟨j, hj, rfl⟩ := eHas_i (by omega) c8
    refine wf_iload_n 2 dX8_ink_11 rfl ?_
    refine wf_callSD (As := [.int z]) (rest := []) (c_X8_isInk) kS_X8_135 rfl (by decide) (by decide) (Nat.le_of_ble_eq_true rfl) rfl dX8_ink_12 ?_
    refine wf_if_ne_b 24 dX8_ink_15 (by decide) (fun c15 => ?_) (fun c15 => ?_)
    · obtain ⟨i, hi, rfl⟩ := eHas_i (by decide) c15
      refine wf_aload_n 0 dX8_ink_24 rfl ?_
      refine wf_getf (C := RX8) (T := TX8) (N := 8) (v := .ref (a 0)) 19 0 in_X8 rfl rfl (by decide) fl_X8_30 rfl dX8_ink_25 ?_
      refine wf_getf (C := RX2) (T := TX2) (N := 14) (v := .ref (a 2)) 0 2 in_X2 rfl rfl (by decide) fl_X8_93 rfl dX8_ink_28 ?_
      refine wf_iload_n 1 dX8_ink_31 rfl ?_
      refine wf_iald_n (nI (g 1 j)) 2 rfl (by omega) (by decide) rfl dX8_ink_32 ?_
      refine wf_istore_n [(3, .int (nI (g 1 j))), (0, .ref (ax 0)), (1, .int (nI j)), (2, .int (nI i))] dX8_ink_33 rfl (by decide) rfl ?_
      refine wf_aload_n 1 dX8_ink_34 rfl ?_
      refine wf_getf (C := RX8) (T := TX8) (N := 8) (v := .ref (a 0)) 19 0 in_X8 rfl rfl (by decide) fl_X8_30 rfl dX8_ink_35 ?_
      refine wf_getf (C := RX2) (T := TX2) (N := 14) (v := .ref (a 2)) 0 2 in_X2 rfl rfl (by decide) fl_X8_93 rfl dX8_ink_38 ?_
      refine wf_iload_n 2 dX8_ink_41 rfl ?_
      refine wf_iload_n 3 dX8_ink_42 rfl ?_
      refine wf_iast_n (wg E (kk 6) a (gs g 1 j i) ++ (wk E kk ++ (wl E al y ++ (wx E ax (a 0) (b 0) (c 0) (al 0) y ++ (wg E (kk 6) b gm ++ (wg E (kk 6) c gi ++ r)))))) 2 rfl (by omega) (by decide) (sf 2 (Nat.le_of_ble_eq_true rfl) (wg_set1 j i)) dX8_ink_43 ?_
      refine wf_iload_n 0 dX8_ink_44 rfl ?_
      exact wf_iret .int rfl (vp_nar_int _) ⟨rfl, rfl⟩ (px_of (by unfold sp_ink; rw [if_neg (by rw [c8]; decide), if_neg (by rw [c15]; decide), nI_clamp (by omega), nI_clamp (by omega)]) ⟨_, hM, rfl⟩) dX8_ink_45
    · refine wf_aload_n 0 dX8_ink_18 rfl ?_
      refine wf_iconst (-1) dX8_ink_19 (by decide) ?_
      refine wf_callVD (As := [.int (-1)]) (rest := []) 19 (c_X8_refuse (k := 1) (by decide)) kV_X8_56 rfl (by decide) (by decide) (Nat.le_of_ble_eq_true rfl) rfl rfl rfl dX8_ink_20 ?_
      exact wf_iret .int rfl (vp_nar_int _) ⟨rfl, rfl⟩ (px_of (by unfold sp_ink; rw [if_neg (by rw [c8]; decide), if_pos c15]; rfl) ⟨_, hM, rfl⟩) dX8_ink_23
abbrev rmX8_watch : Room := { frames := 2, cells := 0, slots := 0, locals := 45 }
set_option maxHeartbeats 4000000 in
set_option maxRecDepth 100000 in
theorem c_X8_watch {l : Launch} {E : Ev} {x h z : Int32} {g gm gi y : Gd} {a b c kk al ax : Nat → Nat} {r : va_W} (hI : Inv g) (hM : Inv gm) (hG : Inv gi) (hy : YI y)  : CT l E yX8_watch cX8_watch 5 (some .int) rmX8_watch [.ref (ax 0), .int x, .int h, .int z] (wg E (kk 6) a g ++ (wk E kk ++ (wl E al y ++ (wx E ax (a 0) (b 0) (c 0) (al 0) y ++ (wg E (kk 6) b gm ++ (wg E (kk 6) c gi ++ r)))))) (PX E kk a b c al ax r (sp_watch g y x h z) gi) := by
  refine CT.of (lv := [(0, .ref (ax 0)), (1, .int x), (2, .int h), (3, .int z)]) false (by decide +kernel) (by decide) (Nat.le_of_ble_eq_true rfl) rfl ?_
  have f0 := hI.words
  have f1 := hI.birds
  have f2 := hI.gone
  have f3 := hI.hour
  obtain ⟨y00, y01, y02, y1, y2⟩ := id hy
  refine wf_aload_n 0 dX8_watch_0 rfl ?_
  refine wf_getf (C := RX8) (T := TX8) (N := 8) (v := .ref (a 0)) 19 0 in_X8 rfl rfl (by decide) fl_X8_30 rfl dX8_watch_1 ?_
  refine wf_iload_n 1 dX8_watch_4 rfl ?_
  refine wf_callVD (As := [.int x]) (rest := []) 0 (c_X2_hasWord ) kV_X8_86 rfl (by decide) (by decide) (Nat.le_of_ble_eq_true rfl) rfl rfl rfl dX8_watch_5 ?_
  refine wf_if_ne_b 17 dX8_watch_8 (by decide) (fun c8 => ?_) (fun c8 => ?_)
  · obtain ⟨j, hj, rfl⟩ := eHas_i (by omega) c8
    refine wf_iload_n 2 dX8_watch_17 rfl ?_
    refine wf_if_ge 28 dX8_watch_18 (by decide) (fun c18 => ?_) (fun c18 => ?_)
    · refine wf_iload_n 2 dX8_watch_28 rfl ?_
      refine wf_bipush (nI 8) dX8_watch_29 (by decide) ?_
      refine wf_icmp_lt 41 dX8_watch_31 (by decide) (fun c31 => ?_) (fun c31 => ?_)
      · have h0 := Int32.not_lt.mpr c18
        obtain ⟨h, hh, rfl⟩ := i_n (k := 8) (by decide) h0 c31
        refine wf_iload_n 3 dX8_watch_41 rfl ?_
        refine wf_if_eq 57 dX8_watch_42 (by decide) (fun c42 => ?_) (fun c42 => ?_)
        · refine wf_aload_n 0 dX8_watch_57 rfl ?_
          refine wf_getf (C := RX8) (T := TX8) (N := 8) (v := .ref (a 0)) 19 0 in_X8 rfl rfl (by decide) fl_X8_30 rfl dX8_watch_58 ?_
          refine wf_iload_n 1 dX8_watch_61 rfl ?_
          refine wf_iload_n 2 dX8_watch_62 rfl ?_
          refine wf_callVD (As := [.int (nI j), .int (nI h)]) (rest := []) 0 (c_X2_isWatched hI (by omega) (by omega)) kV_X8_108 rfl (by decide) (by decide) (Nat.le_of_ble_eq_true rfl) rfl rfl rfl dX8_watch_63 ?_
          refine wf_if_eq_b 73 dX8_watch_66 (by decide) (fun c66 => ?_) (fun c66 => ?_)
          · refine wf_iconst (nI 0) dX8_watch_73 (by decide) ?_
            refine wf_istore [(4, .int (nI 0)), (0, .ref (ax 0)), (1, .int (nI j)), (2, .int (nI h)), (3, .int z)] dX8_watch_74 (by decide) rfl ?_
            refine wf_aload_n 1 dX8_watch_76 rfl ?_
            refine wf_getf (C := RX8) (T := TX8) (N := 8) (v := .ref (a 0)) 19 0 in_X8 rfl rfl (by decide) fl_X8_30 rfl dX8_watch_77 ?_
            refine wf_iload_n 2 dX8_watch_80 rfl ?_
            refine wf_iload_n 3 dX8_watch_81 rfl ?_
            refine wf_iload_n 4 dX8_watch_82 rfl ?_
            refine wf_iconst (nI 1) dX8_watch_83 (by decide) ?_
            refine wf_icmp_ne 91 dX8_watch_84 (by decide) (fun c84 => ?_) (fun c84 => absurd (c42.symm.trans c84) (by decide))
            refine wf_iconst (nI 0) dX8_watch_91 (by decide) ?_
            refine wf_callVv (As := [.int (nI j), .int (nI h), .int (nI 0)]) (rest := []) 0 (c_X2_setWatched hI (by omega) (by omega) (by omega)) kV_X8_145 rfl (by decide) (by decide) (Nat.le_of_ble_eq_true rfl) rfl rfl rfl dX8_watch_92 ?_
            refine wf_iload 0 dX8_watch_95 rfl ?_
            exact wf_iret .int rfl (vp_nar_int _) ⟨rfl, rfl⟩ (px_of (by unfold sp_watch; rw [if_neg (by rw [c8]; decide), if_neg h0, if_pos c31, if_pos c42]; rw [nI_clamp (by omega), nI_clamp (by omega), c66]; rfl) ⟨_, hM, rfl⟩) dX8_watch_97
          · refine wf_iconst (nI 1) dX8_watch_69 (by decide) ?_
            refine wf_goto 74 dX8_watch_70 (by decide) ?_
            refine wf_istore [(4, .int (nI 1)), (0, .ref (ax 0)), (1, .int (nI j)), (2, .int (nI h)), (3, .int z)] dX8_watch_74 (by decide) rfl ?_
            refine wf_aload_n 1 dX8_watch_76 rfl ?_
            refine wf_getf (C := RX8) (T := TX8) (N := 8) (v := .ref (a 0)) 19 0 in_X8 rfl rfl (by decide) fl_X8_30 rfl dX8_watch_77 ?_
            refine wf_iload_n 2 dX8_watch_80 rfl ?_
            refine wf_iload_n 3 dX8_watch_81 rfl ?_
            refine wf_iload_n 4 dX8_watch_82 rfl ?_
            refine wf_iconst (nI 1) dX8_watch_83 (by decide) ?_
            refine wf_icmp_ne 91 dX8_watch_84 (by decide) (fun c84 => ?_) (fun c84 => absurd (c42.symm.trans c84) (by decide))
            refine wf_iconst (nI 0) dX8_watch_91 (by decide) ?_
            refine wf_callVv (As := [.int (nI j), .int (nI h), .int (nI 0)]) (rest := []) 0 (c_X2_setWatched hI (by omega) (by omega) (by omega)) kV_X8_145 rfl (by decide) (by decide) (Nat.le_of_ble_eq_true rfl) rfl rfl rfl dX8_watch_92 ?_
            refine wf_iload 0 dX8_watch_95 rfl ?_
            exact wf_iret .int rfl (vp_nar_int _) ⟨rfl, rfl⟩ (px_of (by unfold sp_watch; rw [if_neg (by rw [c8]; decide), if_neg h0, if_pos c31, if_pos c42]; rw [nI_clamp (by omega), nI_clamp (by omega), c66]; rfl) ⟨_, hM, rfl⟩) dX8_watch_97
        · refine wf_iload_n 3 dX8_watch_45 rfl ?_
          refine wf_iconst (nI 1) dX8_watch_46 (by decide) ?_
          refine wf_icmp_eq 57 dX8_watch_47 (by decide) (fun c47 => ?_) (fun c47 => ?_)
          · refine wf_aload_n 0 dX8_watch_57 rfl ?_
            refine wf_getf (C := RX8) (T := TX8) (N := 8) (v := .ref (a 0)) 19 0 in_X8 rfl rfl (by decide) fl_X8_30 rfl dX8_watch_58 ?_
            refine wf_iload_n 1 dX8_watch_61 rfl ?_
            refine wf_iload_n 2 dX8_watch_62 rfl ?_
            refine wf_callVD (As := [.int (nI j), .int (nI h)]) (rest := []) 0 (c_X2_isWatched hI (by omega) (by omega)) kV_X8_108 rfl (by decide) (by decide) (Nat.le_of_ble_eq_true rfl) rfl rfl rfl dX8_watch_63 ?_
            refine wf_if_eq_b 73 dX8_watch_66 (by decide) (fun c66 => ?_) (fun c66 => ?_)
            · refine wf_iconst (nI 0) dX8_watch_73 (by decide) ?_
              refine wf_istore [(4, .int (nI 0)), (0, .ref (ax 0)), (1, .int (nI j)), (2, .int (nI h)), (3, .int z)] dX8_watch_74 (by decide) rfl ?_
              refine wf_aload_n 1 dX8_watch_76 rfl ?_
              refine wf_getf (C := RX8) (T := TX8) (N := 8) (v := .ref (a 0)) 19 0 in_X8 rfl rfl (by decide) fl_X8_30 rfl dX8_watch_77 ?_
              refine wf_iload_n 2 dX8_watch_80 rfl ?_
              refine wf_iload_n 3 dX8_watch_81 rfl ?_
              refine wf_iload_n 4 dX8_watch_82 rfl ?_
              refine wf_iconst (nI 1) dX8_watch_83 (by decide) ?_
              refine wf_icmp_ne 91 dX8_watch_84 (by decide) (fun c84 => absurd c47 c84) (fun c84 => ?_)
              refine wf_iconst (nI 1) dX8_watch_87 (by decide) ?_
              refine wf_goto 92 dX8_watch_88 (by decide) ?_
              refine wf_callVv (As := [.int (nI j), .int (nI h), .int (nI 1)]) (rest := []) 0 (c_X2_setWatched hI (by omega) (by omega) (by omega)) kV_X8_145 rfl (by decide) (by decide) (Nat.le_of_ble_eq_true rfl) rfl rfl rfl dX8_watch_92 ?_
              refine wf_iload 0 dX8_watch_95 rfl ?_
              exact wf_iret .int rfl (vp_nar_int _) ⟨rfl, rfl⟩ (px_of (by unfold sp_watch; rw [if_neg (by rw [c8]; decide), if_neg h0, if_pos c31, if_neg c42, if_pos c47]; rw [nI_clamp (by omega), nI_clamp (by omega), c66]; rfl) ⟨_, hM, rfl⟩) dX8_watch_97
            · refine wf_iconst (nI 1) dX8_watch_69 (by decide) ?_
              refine wf_goto 74 dX8_watch_70 (by decide) ?_
              refine wf_istore [(4, .int (nI 1)), (0, .ref (ax 0)), (1, .int (nI j)), (2, .int (nI h)), (3, .int z)] dX8_watch_74 (by decide) rfl ?_
              refine wf_aload_n 1 dX8_watch_76 rfl ?_
              refine wf_getf (C := RX8) (T := TX8) (N := 8) (v := .ref (a 0)) 19 0 in_X8 rfl rfl (by decide) fl_X8_30 rfl dX8_watch_77 ?_
              refine wf_iload_n 2 dX8_watch_80 rfl ?_
              refine wf_iload_n 3 dX8_watch_81 rfl ?_
              refine wf_iload_n 4 dX8_watch_82 rfl ?_
              refine wf_iconst (nI 1) dX8_watch_83 (by decide) ?_
              refine wf_icmp_ne 91 dX8_watch_84 (by decide) (fun c84 => absurd c47 c84) (fun c84 => ?_)
              refine wf_iconst (nI 1) dX8_watch_87 (by decide) ?_
              refine wf_goto 92 dX8_watch_88 (by decide) ?_
              refine wf_callVv (As := [.int (nI j), .int (nI h), .int (nI 1)]) (rest := []) 0 (c_X2_setWatched hI (by omega) (by omega) (by omega)) kV_X8_145 rfl (by decide) (by decide) (Nat.le_of_ble_eq_true rfl) rfl rfl rfl dX8_watch_92 ?_
              refine wf_iload 0 dX8_watch_95 rfl ?_
              exact wf_iret .int rfl (vp_nar_int _) ⟨rfl, rfl⟩ (px_of (by unfold sp_watch; rw [if_neg (by rw [c8]; decide), if_neg h0, if_pos c31, if_neg c42, if_pos c47]; rw [nI_clamp (by omega), nI_clamp (by omega), c66]; rfl) ⟨_, hM, rfl⟩) dX8_watch_97
          · refine wf_aload_n 0 dX8_watch_50 rfl ?_
            refine wf_bipush (-2) dX8_watch_51 (by decide) ?_
            refine wf_callVD (As := [.int (-2)]) (rest := []) 19 (c_X8_refuse (k := 2) (by decide)) kV_X8_56 rfl (by decide) (by decide) (Nat.le_of_ble_eq_true rfl) rfl rfl rfl dX8_watch_53 ?_
            exact wf_iret .int rfl (vp_nar_int _) ⟨rfl, rfl⟩ (px_of (by unfold sp_watch; rw [if_neg (by rw [c8]; decide), if_neg h0, if_pos c31, if_neg c42, if_neg c47]; rfl) ⟨_, hM, rfl⟩) dX8_watch_56
      · refine wf_aload_n 0 dX8_watch_34 rfl ?_
        refine wf_bipush (-6) dX8_watch_35 (by decide) ?_
        refine wf_callVD (As := [.int (-6)]) (rest := []) 19 (c_X8_refuse (k := 6) (by decide)) kV_X8_56 rfl (by decide) (by decide) (Nat.le_of_ble_eq_true rfl) rfl rfl rfl dX8_watch_37 ?_
        exact wf_iret .int rfl (vp_nar_int _) ⟨rfl, rfl⟩ (px_of (by unfold sp_watch; rw [if_neg (by rw [c8]; decide), if_neg (Int32.not_lt.mpr c18), if_neg c31]; rfl) ⟨_, hM, rfl⟩) dX8_watch_40
    · refine wf_aload_n 0 dX8_watch_21 rfl ?_
      refine wf_bipush (-4) dX8_watch_22 (by decide) ?_
      refine wf_callVD (As := [.int (-4)]) (rest := []) 19 (c_X8_refuse (k := 4) (by decide)) kV_X8_56 rfl (by decide) (by decide) (Nat.le_of_ble_eq_true rfl) rfl rfl rfl dX8_watch_24 ?_
      exact wf_iret .int rfl (vp_nar_int _) ⟨rfl, rfl⟩ (px_of (by unfold sp_watch; rw [if_neg (by rw [c8]; decide), if_pos (Int32.not_le.mp c18)]; rfl) ⟨_, hM, rfl⟩) dX8_watch_27
  · refine wf_aload_n 0 dX8_watch_11 rfl ?_
    refine wf_iconst (-1) dX8_watch_12 (by decide) ?_
    refine wf_callVD (As := [.int (-1)]) (rest := []) 19 (c_X8_refuse (k := 1) (by decide)) kV_X8_56 rfl (by decide) (by decide) (Nat.le_of_ble_eq_true rfl) rfl rfl rfl dX8_watch_13 ?_
    exact wf_iret .int rfl (vp_nar_int _) ⟨rfl, rfl⟩ (px_of (by unfold sp_watch; rw [if_pos c8]; rfl) ⟨_, hM, rfl⟩) dX8_watch_16
abbrev rmX8_hour : Room := { frames := 4, cells := 0, slots := 0, locals := 95 }
set_option maxHeartbeats 4000000 in
set_option maxRecDepth 100000 in
theorem c_X8_hour {l : Launch} {E : Ev}  {g gm gi y : Gd} {a b c kk al ax : Nat → Nat} {r : va_W} (hI : Inv g) (hM : Inv gm) (hG : Inv gi) (hy : YI y)  : CT l E yX8_hour cX8_hour 1 (some .int) rmX8_hour [.ref (ax 0)] (wg E (kk 6) a g ++ (wk E kk ++ (wl E al y ++ (wx E ax (a 0) (b 0) (c 0) (al 0) y ++ (wg E (kk 6) b gm ++ (wg E (kk 6) c gi ++ r)))))) (PX E kk a b c al ax r (sp_hour g y) gi) := by
  refine CT.of (lv := [(0, .ref (ax 0))]) false (by decide +kernel) (by decide) (Nat.le_of_ble_eq_true rfl) rfl ?_
  have f0 := hI.words
  have f1 := hI.birds
  have f2 := hI.gone
  have f3 := hI.hour
  obtain ⟨y00, y01, y02, y1, y2⟩ := id hy
  refine wf_aload_n 0 dX8_hour_0 rfl ?_
  refine wf_getf (C := RX8) (T := TX8) (N := 8) (v := .ref (a 0)) 19 0 in_X8 rfl rfl (by decide) fl_X8_30 rfl dX8_hour_1 ?_
  refine wf_getf (C := RX2) (T := TX2) (N := 14) (v := .int (nI (g 9 3))) 0 13 in_X2 rfl rfl (by decide) fl_X8_105 rfl dX8_hour_4 ?_
  refine wf_bipush (nI 8) dX8_hour_7 (by decide) ?_
  refine wf_icmp_lt_n 19 dX8_hour_9 (by decide) (by omega) (by omega) (fun c9 => ?_) (fun c9 => ?_)
  · refine wf_aload_n 0 dX8_hour_19 rfl ?_
    refine wf_getf (C := RX8) (T := TX8) (N := 8) (v := .ref (a 0)) 19 0 in_X8 rfl rfl (by decide) fl_X8_30 rfl dX8_hour_20 ?_
    refine wf_callVD (As := []) (rest := []) 0 (c_X2_passHour hI) kV_X8_149 rfl (by decide) (by decide) (Nat.le_of_ble_eq_true rfl) rfl rfl rfl dX8_hour_23 ?_
    exact wf_iret .int rfl (vp_nar_int _) ⟨rfl, rfl⟩ (px_of (by unfold sp_hour; rw [if_neg (by omega)]) ⟨_, hM, rfl⟩) dX8_hour_26
  · refine wf_aload_n 0 dX8_hour_12 rfl ?_
    refine wf_bipush (-3) dX8_hour_13 (by decide) ?_
    refine wf_callVD (As := [.int (-3)]) (rest := []) 19 (c_X8_refuse (k := 3) (by decide)) kV_X8_56 rfl (by decide) (by decide) (Nat.le_of_ble_eq_true rfl) rfl rfl rfl dX8_hour_15 ?_
    exact wf_iret .int rfl (vp_nar_int _) ⟨rfl, rfl⟩ (px_of (by unfold sp_hour; rw [if_pos (by omega)]; rfl) ⟨_, hM, rfl⟩) dX8_hour_18
abbrev rmX8_anew : Room := { frames := 0, cells := 0, slots := 0, locals := 0 }
set_option maxHeartbeats 4000000 in
set_option maxRecDepth 100000 in
theorem c_X8_anew {l : Launch} {E : Ev}  {g gm gi y : Gd} {a b c kk al ax : Nat → Nat} {r : va_W} (hI : Inv g) (hM : Inv gm) (hG : Inv gi) (hy : YI y)  : CT l E yX8_anew cX8_anew 1 (some .int) rmX8_anew [.ref (ax 0)] (wg E (kk 6) a g ++ (wk E kk ++ (wl E al y ++ (wx E ax (a 0) (b 0) (c 0) (al 0) y ++ (wg E (kk 6) b gm ++ (wg E (kk 6) c gi ++ r)))))) (PX E kk a b c al ax r (sp_anew g y) gi) := by
  refine CT.of (lv := [(0, .ref (ax 0))]) false (by decide +kernel) (by decide) (Nat.le_of_ble_eq_true rfl) rfl ?_
  have f0 := hI.words
  have f1 := hI.birds
  have f2 := hI.gone
  have f3 := hI.hour
  obtain ⟨y00, y01, y02, y1, y2⟩ := id hy
  refine wf_aload_n 0 dX8_anew_0 rfl ?_
  refine wf_getf (C := RX8) (T := TX8) (N := 8) (v := .ref (a 0)) 19 0 in_X8 rfl rfl (by decide) fl_X8_30 rfl dX8_anew_1 ?_
  refine wf_iconst (nI 0) dX8_anew_4 (by decide) ?_
  refine wf_putf (C := RX2) (T := TX2) (N := 14) (ty := .int) 0 12 (wg E (kk 6) a (gs g 9 2 0) ++ (wk E kk ++ (wl E al y ++ (wx E ax (a 0) (b 0) (c 0) (al 0) y ++ (wg E (kk 6) b gm ++ (wg E (kk 6) c gi ++ r)))))) tyX2 in_X2 tyX2_ok nmX2 rfl rfl (by decide) fl_X8_153 rfl (by decide +kernel) (by rfl) rfl (Nat.le_of_ble_eq_true rfl) (sf 0 (Nat.le_of_ble_eq_true rfl) (wg_put2 0)) dX8_anew_5 ?_
  refine wf_aload_n 0 dX8_anew_8 rfl ?_
  refine wf_getf (C := RX8) (T := TX8) (N := 8) (v := .ref (a 0)) 19 0 in_X8 rfl rfl (by decide) fl_X8_30 rfl dX8_anew_9 ?_
  refine wf_iconst (nI 0) dX8_anew_12 (by decide) ?_
  refine wf_putf (C := RX2) (T := TX2) (N := 14) (ty := .int) 0 13 (wg E (kk 6) a (gs (gs g 9 2 0) 9 3 0) ++ (wk E kk ++ (wl E al y ++ (wx E ax (a 0) (b 0) (c 0) (al 0) y ++ (wg E (kk 6) b gm ++ (wg E (kk 6) c gi ++ r)))))) tyX2 in_X2 tyX2_ok nmX2 rfl rfl (by decide) fl_X8_105 rfl (by decide +kernel) (by rfl) rfl (Nat.le_of_ble_eq_true rfl) (sf 0 (Nat.le_of_ble_eq_true rfl) (wg_put3 0)) dX8_anew_13 ?_
  refine wf_aload_n 0 dX8_anew_16 rfl ?_
  refine wf_getf (C := RX8) (T := TX8) (N := 8) (v := .ref (a 0)) 19 0 in_X8 rfl rfl (by decide) fl_X8_30 rfl dX8_anew_17 ?_
  refine wf_getf (C := RX2) (T := TX2) (N := 14) (v := .int (nI (g 9 0))) 0 4 in_X2 rfl rfl (by decide) fl_X8_68 rfl dX8_anew_20 ?_
  exact wf_iret .int rfl (vp_nar_int _) ⟨rfl, rfl⟩ (px_of (by rfl) ⟨_, hM, rfl⟩) dX8_anew_23
abbrev rmX8_left : Room := { frames := 4, cells := 0, slots := 0, locals := 95 }
set_option maxHeartbeats 4000000 in
set_option maxRecDepth 100000 in
theorem c_X8_left {l : Launch} {E : Ev} {x : Int32} {g gm gi y : Gd} {a b c kk al ax : Nat → Nat} {r : va_W} (hI : Inv g) (hM : Inv gm) (hG : Inv gi) (hy : YI y)  : CT l E yX8_left cX8_left 4 (some .int) rmX8_left [.ref (ax 0), .int x] (wg E (kk 6) a g ++ (wk E kk ++ (wl E al y ++ (wx E ax (a 0) (b 0) (c 0) (al 0) y ++ (wg E (kk 6) b gm ++ (wg E (kk 6) c gi ++ r)))))) (PX E kk a b c al ax r (sp_left g y x) gi) := by
  refine CT.of (lv := [(0, .ref (ax 0)), (1, .int x)]) false (by decide +kernel) (by decide) (Nat.le_of_ble_eq_true rfl) rfl ?_
  have f0 := hI.words
  have f1 := hI.birds
  have f2 := hI.gone
  have f3 := hI.hour
  obtain ⟨y00, y01, y02, y1, y2⟩ := id hy
  refine wf_iload_n 1 dX8_left_0 rfl ?_
  refine wf_if_ge 11 dX8_left_1 (by decide) (fun c1 => ?_) (fun c1 => ?_)
  · refine wf_iload_n 1 dX8_left_11 rfl ?_
    refine wf_bipush (nI 8) dX8_left_12 (by decide) ?_
    refine wf_icmp_le 24 dX8_left_14 (by decide) (fun c14 => ?_) (fun c14 => ?_)
    · have h0 := Int32.not_lt.mpr c1
      have h1 := Int32.not_lt.mpr c14
      obtain ⟨n, hn, rfl⟩ := i_le (k := 8) (by decide) h0 h1
      refine wf_aload_n 0 dX8_left_24 rfl ?_
      refine wf_callVD (As := []) (rest := []) 19 (c_X8_mindAsNow) kV_X8_156 rfl (by decide) (by decide) (Nat.le_of_ble_eq_true rfl) rfl rfl rfl dX8_left_25 ?_
      refine wf_astore_n [(2, .ref (b 0)), (0, .ref (ax 0)), (1, .int (nI n))] dX8_left_28 rfl (by decide) rfl ?_
      refine wf_iconst (nI 0) dX8_left_29 (by decide) ?_
      refine wf_istore_n [(3, .int (nI 0)), (2, .ref (b 0)), (0, .ref (ax 0)), (1, .int (nI n))] dX8_left_30 rfl (by decide) rfl ?_
      have L31 : ∀ (fu31 : Nat) (i : Nat), n - i < fu31 → (i ≤ n) → WF l E RX8 cX8_left 4 (some .int) rmX8_left false (fun _ => True) (QM E (wg E (kk 6) a g ++ (wk E kk ++ (wl E al y ++ (wx E ax (a 0) (b 0) (c 0) (al 0) y ++ (wg E (kk 6) b gm ++ (wg E (kk 6) c gi ++ r)))))) (PX E kk a b c al ax r (sp_left g y (nI n)) gi) rmX8_left) (wg E (kk 6) a g ++ (wk E kk ++ (wl E al y ++ (wx E ax (a 0) (b 0) (c 0) (al 0) y ++ (wg E (kk 6) b gm ++ (wg E (kk 6) c gi ++ r)))))) 0 0 31 [(3, .int (nI i)), (0, .ref (ax 0)), (1, .int (nI n)), (2, .ref (b 0))] [] (wg E (kk 6) a g ++ (wk E kk ++ (wl E al y ++ (wx E ax (a 0) (b 0) (c 0) (al 0) y ++ (wg E (kk 6) b (eHrs g i) ++ (wg E (kk 6) c gi ++ r)))))) := by
        intro fu31
        induction fu31 with
        | zero => intro i hn; exact absurd hn (Nat.not_lt_zero _)
        | succ fu31 ih31 =>
          intro i hn hi1
          refine wf_iload_n 0 dX8_left_31 rfl ?_
          refine wf_iload_n 2 dX8_left_32 rfl ?_
          refine wf_icmp_ge_n 47 dX8_left_33 (by decide) (by omega) (by omega) (fun c33 => ?_) (fun c33 => ?_)
          · refine wf_aload_n 3 dX8_left_47 rfl ?_
            refine wf_perm (w' := wg E (kk 6) b (eHrs g i) ++ (wk E kk ++ (wl E al y ++ (wx E ax (a 0) (b 0) (c 0) (al 0) y ++ (wg E (kk 6) a g ++ (wg E (kk 6) c gi ++ r)))))) pm4 ?_
            refine wf_callVD (As := []) (rest := []) 0 (c_X2_leftWords (hI.oHrs i)) kV_X8_160 rfl (by decide) (by decide) (Nat.le_of_ble_eq_true rfl) rfl rfl rfl dX8_left_48 ?_
            refine wf_perm (w' := wg E (kk 6) a g ++ (wk E kk ++ (wl E al y ++ (wx E ax (a 0) (b 0) (c 0) (al 0) y ++ (wg E (kk 6) b (eHrs g i) ++ (wg E (kk 6) c gi ++ r)))))) pm4 ?_
            exact wf_iret .int rfl (vp_nar_int _) ⟨rfl, rfl⟩ (px_of (by unfold sp_left; rw [if_neg h0, if_neg h1, nI_clamp (by omega), show i = n by omega]; rfl) ⟨_, (hI.oHrs i), rfl⟩) dX8_left_51
          · refine wf_aload_n 3 dX8_left_36 rfl ?_
            refine wf_perm (w' := wg E (kk 6) b (eHrs g i) ++ (wk E kk ++ (wl E al y ++ (wx E ax (a 0) (b 0) (c 0) (al 0) y ++ (wg E (kk 6) a g ++ (wg E (kk 6) c gi ++ r)))))) pm4 ?_
            refine wf_callVD (As := []) (rest := []) 0 (c_X2_passHour (hI.oHrs i)) kV_X8_149 rfl (by decide) (by decide) (Nat.le_of_ble_eq_true rfl) rfl rfl rfl dX8_left_37 ?_
            refine wf_perm (w' := wg E (kk 6) a g ++ (wk E kk ++ (wl E al y ++ (wx E ax (a 0) (b 0) (c 0) (al 0) y ++ (wg E (kk 6) b (eHr (eHrs g i)) ++ (wg E (kk 6) c gi ++ r)))))) pm4 ?_
            refine wf_pop dX8_left_40 rfl ?_
            refine wf_iinc (nI (i + 1)) 0 [(3, .int (nI (i + 1))), (0, .ref (ax 0)), (1, .int (nI n)), (2, .ref (b 0))] dX8_left_41 rfl (nI_1 i) (by decide) rfl ?_
            refine wf_goto 31 dX8_left_44 (by decide) ?_
            refine wf_sub (lv' := [(3, .int (nI (i + 1))), (0, .ref (ax 0)), (1, .int (nI n)), (2, .ref (b 0))]) [0, 1, 2, 3] rfl ?_
            exact ih31 (i + 1) (by omega) (by omega)
      refine wf_sub (lv' := [(3, .int (nI 0)), (0, .ref (ax 0)), (1, .int (nI n)), (2, .ref (b 0))]) [0, 2, 3, 1] rfl ?_
      exact L31 _ 0 (Nat.lt_succ_self _) (Nat.zero_le _)
    · refine wf_aload_n 0 dX8_left_17 rfl ?_
      refine wf_bipush (-6) dX8_left_18 (by decide) ?_
      refine wf_callVD (As := [.int (-6)]) (rest := []) 19 (c_X8_refuse (k := 6) (by decide)) kV_X8_56 rfl (by decide) (by decide) (Nat.le_of_ble_eq_true rfl) rfl rfl rfl dX8_left_20 ?_
      exact wf_iret .int rfl (vp_nar_int _) ⟨rfl, rfl⟩ (px_of (by unfold sp_left; rw [if_neg (Int32.not_lt.mpr c1), if_pos (Int32.not_le.mp c14)]; rfl) ⟨_, hM, rfl⟩) dX8_left_23
  · refine wf_aload_n 0 dX8_left_4 rfl ?_
    refine wf_bipush (-4) dX8_left_5 (by decide) ?_
    refine wf_callVD (As := [.int (-4)]) (rest := []) 19 (c_X8_refuse (k := 4) (by decide)) kV_X8_56 rfl (by decide) (by decide) (Nat.le_of_ble_eq_true rfl) rfl rfl rfl dX8_left_7 ?_
    exact wf_iret .int rfl (vp_nar_int _) ⟨rfl, rfl⟩ (px_of (by unfold sp_left; rw [if_pos (Int32.not_le.mp c1)]; rfl) ⟨_, hM, rfl⟩) dX8_left_10
abbrev rmX8_eaten : Room := { frames := 5, cells := 0, slots := 0, locals := 117 }
set_option maxHeartbeats 4000000 in
set_option maxRecDepth 100000 in
theorem c_X8_eaten {l : Launch} {E : Ev} {x : Int32} {g gm gi y : Gd} {a b c kk al ax : Nat → Nat} {r : va_W} (hI : Inv g) (hM : Inv gm) (hG : Inv gi) (hy : YI y)  : CT l E yX8_eaten cX8_eaten 3 (some .int) rmX8_eaten [.ref (ax 0), .int x] (wg E (kk 6) a g ++ (wk E kk ++ (wl E al y ++ (wx E ax (a 0) (b 0) (c 0) (al 0) y ++ (wg E (kk 6) b gm ++ (wg E (kk 6) c gi ++ r)))))) (PX E kk a b c al ax r (sp_eaten g y x) gi) := by
  refine CT.of (lv := [(0, .ref (ax 0)), (1, .int x)]) false (by decide +kernel) (by decide) (Nat.le_of_ble_eq_true rfl) rfl ?_
  have f0 := hI.words
  have f1 := hI.birds
  have f2 := hI.gone
  have f3 := hI.hour
  have q8 := fun w => eGoes_le g w (8 - g 9 3) (by omega)
  obtain ⟨y00, y01, y02, y1, y2⟩ := id hy
  refine wf_aload_n 0 dX8_eaten_0 rfl ?_
  refine wf_getf (C := RX8) (T := TX8) (N := 8) (v := .ref (a 0)) 19 0 in_X8 rfl rfl (by decide) fl_X8_30 rfl dX8_eaten_1 ?_
  refine wf_iload_n 1 dX8_eaten_4 rfl ?_
  refine wf_callVD (As := [.int x]) (rest := []) 0 (c_X2_hasWord ) kV_X8_86 rfl (by decide) (by decide) (Nat.le_of_ble_eq_true rfl) rfl rfl rfl dX8_eaten_5 ?_
  refine wf_if_ne_b 17 dX8_eaten_8 (by decide) (fun c8 => ?_) (fun c8 => ?_)
  · obtain ⟨j, hj, rfl⟩ := eHas_i (by omega) c8
    refine wf_aload_n 0 dX8_eaten_17 rfl ?_
    refine wf_getf (C := RX8) (T := TX8) (N := 8) (v := .ref (a 0)) 19 0 in_X8 rfl rfl (by decide) fl_X8_30 rfl dX8_eaten_18 ?_
    refine wf_iload_n 1 dX8_eaten_21 rfl ?_
    refine wf_callVD (As := [.int (nI j)]) (rest := []) 0 (c_X2_isGone hI (by omega)) kV_X8_102 rfl (by decide) (by decide) (Nat.le_of_ble_eq_true rfl) rfl rfl rfl dX8_eaten_22 ?_
    refine wf_if_eq_b 31 dX8_eaten_25 (by decide) (fun c25 => ?_) (fun c25 => ?_)
    · refine wf_aload_n 0 dX8_eaten_31 rfl ?_
      refine wf_callVD (As := []) (rest := []) 19 (c_X8_mindAsNow) kV_X8_156 rfl (by decide) (by decide) (Nat.le_of_ble_eq_true rfl) rfl rfl rfl dX8_eaten_32 ?_
      refine wf_iload_n 1 dX8_eaten_35 rfl ?_
      refine wf_perm (w' := wg E (kk 6) b g ++ (wk E kk ++ (wl E al y ++ (wx E ax (a 0) (b 0) (c 0) (al 0) y ++ (wg E (kk 6) a g ++ (wg E (kk 6) c gi ++ r)))))) pm4 ?_
      refine wf_callV (As := [.int (nI j)]) (rest := []) 0 (c_X2_hourOfGoing hI (by omega)) kV_X8_163 rfl (by decide) (by decide) (Nat.le_of_ble_eq_true rfl) rfl rfl rfl dX8_eaten_36 (fun v w2 hp => ?_)
      obtain ⟨rfl, g2, hg2, rfl⟩ := hp
      refine wf_st [.int (nI (eGoes g j (8 - g 9 3)))] rfl ?_
      refine wf_cs rfl rfl ?_
      refine wf_perm (w' := wg E (kk 6) a g ++ (wk E kk ++ (wl E al y ++ (wx E ax (a 0) (b 0) (c 0) (al 0) y ++ (wg E (kk 6) b g2 ++ (wg E (kk 6) c gi ++ r)))))) pm4 ?_
      refine wf_istore_n [(2, .int (nI (eGoes g j (8 - g 9 3)))), (0, .ref (ax 0)), (1, .int (nI j))] dX8_eaten_39 rfl (by decide) rfl ?_
      refine wf_iload_n 0 dX8_eaten_40 rfl ?_
      refine wf_bipush (nI 8) dX8_eaten_41 (by decide) ?_
      have q9 := q8 j
      refine wf_icmp_ne_n 51 dX8_eaten_43 (by decide) (by omega) (by omega) (fun c43 => ?_) (fun c43 => ?_)
      · refine wf_iload_n 0 dX8_eaten_51 rfl ?_
        exact wf_iret .int rfl (vp_nar_int _) ⟨rfl, rfl⟩ (px_of (by unfold sp_eaten; rw [if_neg (by rw [c8]; decide), nI_clamp (by omega)]; unfold vEaten; rw [if_neg (by rw [c25]; decide), if_neg c43]; rfl) ⟨_, hg2, rfl⟩) dX8_eaten_52
      · refine wf_bipush (-9) dX8_eaten_46 (by decide) ?_
        refine wf_goto 52 dX8_eaten_48 (by decide) ?_
        exact wf_iret .int rfl (vp_nar_int _) ⟨rfl, rfl⟩ (px_of (by unfold sp_eaten; rw [if_neg (by rw [c8]; decide), nI_clamp (by omega)]; unfold vEaten; rw [if_neg (by rw [c25]; decide), if_pos c43]; rfl) ⟨_, hg2, rfl⟩) dX8_eaten_52
    · refine wf_bipush (nI 9) dX8_eaten_28 (by decide) ?_
      exact wf_iret .int rfl (vp_nar_int _) ⟨rfl, rfl⟩ (px_of (by unfold sp_eaten; rw [if_neg (by rw [c8]; decide), nI_clamp (by omega)]; unfold vEaten; rw [if_pos c25]; rfl) ⟨_, hM, rfl⟩) dX8_eaten_30
  · refine wf_aload_n 0 dX8_eaten_11 rfl ?_
    refine wf_iconst (-1) dX8_eaten_12 (by decide) ?_
    refine wf_callVD (As := [.int (-1)]) (rest := []) 19 (c_X8_refuse (k := 1) (by decide)) kV_X8_56 rfl (by decide) (by decide) (Nat.le_of_ble_eq_true rfl) rfl rfl rfl dX8_eaten_13 ?_
    exact wf_iret .int rfl (vp_nar_int _) ⟨rfl, rfl⟩ (px_of (by unfold sp_eaten; rw [if_pos c8]; rfl) ⟨_, hM, rfl⟩) dX8_eaten_16
abbrev rmX8_meanings : Room := { frames := 5, cells := 0, slots := 0, locals := 116 }
set_option maxHeartbeats 4000000 in
set_option maxRecDepth 100000 in
theorem c_X8_meanings {l : Launch} {E : Ev}  {g gm gi y : Gd} {a b c kk al ax : Nat → Nat} {r : va_W} (hI : Inv g) (hM : Inv gm) (hG : Inv gi) (hy : YI y)  : CT l E yX8_meanings cX8_meanings 2 (some .int) rmX8_meanings [.ref (ax 0)] (wg E (kk 6) a g ++ (wk E kk ++ (wl E al y ++ (wx E ax (a 0) (b 0) (c 0) (al 0) y ++ (wg E (kk 6) b gm ++ (wg E (kk 6) c gi ++ r)))))) (PX E kk a b c al ax r (sp_meanings g y) gi) := by
  refine CT.of (lv := [(0, .ref (ax 0))]) false (by decide +kernel) (by decide) (Nat.le_of_ble_eq_true rfl) rfl ?_
  have f0 := hI.words
  have f1 := hI.birds
  have f2 := hI.gone
  have f3 := hI.hour
  obtain ⟨y00, y01, y02, y1, y2⟩ := id hy
  refine wf_aload_n 0 dX8_meanings_0 rfl ?_
  refine wf_callVD (As := []) (rest := []) 19 (c_X8_mindAsNow) kV_X8_156 rfl (by decide) (by decide) (Nat.le_of_ble_eq_true rfl) rfl rfl rfl dX8_meanings_1 ?_
  refine wf_astore_n [(1, .ref (b 0)), (0, .ref (ax 0))] dX8_meanings_4 rfl (by decide) rfl ?_
  refine wf_aload_n 0 dX8_meanings_5 rfl ?_
  refine wf_perm (w' := wg E (kk 6) b g ++ (wk E kk ++ (wl E al y ++ (wx E ax (a 0) (b 0) (c 0) (al 0) y ++ (wg E (kk 6) a g ++ (wg E (kk 6) c gi ++ r)))))) pm4 ?_
  refine wf_callVD (As := []) (rest := []) 0 (c_X2_passTillDusk hI) kV_X8_166 rfl (by decide) (by decide) (Nat.le_of_ble_eq_true rfl) rfl rfl rfl dX8_meanings_6 ?_
  refine wf_perm (w' := wg E (kk 6) a g ++ (wk E kk ++ (wl E al y ++ (wx E ax (a 0) (b 0) (c 0) (al 0) y ++ (wg E (kk 6) b (eDk g) ++ (wg E (kk 6) c gi ++ r)))))) pm4 ?_
  refine wf_pop dX8_meanings_9 rfl ?_
  refine wf_aload_n 0 dX8_meanings_10 rfl ?_
  refine wf_perm (w' := wg E (kk 6) b (eDk g) ++ (wk E kk ++ (wl E al y ++ (wx E ax (a 0) (b 0) (c 0) (al 0) y ++ (wg E (kk 6) a g ++ (wg E (kk 6) c gi ++ r)))))) pm4 ?_
  refine wf_callVD (As := []) (rest := []) 0 (c_X2_leftMeanings (hI.oHrs _)) kV_X8_169 rfl (by decide) (by decide) (Nat.le_of_ble_eq_true rfl) rfl rfl rfl dX8_meanings_11 ?_
  refine wf_perm (w' := wg E (kk 6) a g ++ (wk E kk ++ (wl E al y ++ (wx E ax (a 0) (b 0) (c 0) (al 0) y ++ (wg E (kk 6) b (eDk g) ++ (wg E (kk 6) c gi ++ r)))))) pm4 ?_
  exact wf_iret .int rfl (vp_nar_int _) ⟨rfl, rfl⟩ (px_of (by unfold sp_meanings; rw [show eDk g 9 0 = g 9 0 from eHrs_f (by decide) (by decide)]; rfl) ⟨_, (hI.oHrs _), rfl⟩) dX8_meanings_14
abbrev rmX8_remain : Room := { frames := 5, cells := 0, slots := 0, locals := 116 }
set_option maxHeartbeats 4000000 in
set_option maxRecDepth 100000 in
theorem c_X8_remain {l : Launch} {E : Ev}  {g gm gi y : Gd} {a b c kk al ax : Nat → Nat} {r : va_W} (hI : Inv g) (hM : Inv gm) (hG : Inv gi) (hy : YI y)  : CT l E yX8_remain cX8_remain 1 (some .int) rmX8_remain [.ref (ax 0)] (wg E (kk 6) a g ++ (wk E kk ++ (wl E al y ++ (wx E ax (a 0) (b 0) (c 0) (al 0) y ++ (wg E (kk 6) b gm ++ (wg E (kk 6) c gi ++ r)))))) (PX E kk a b c al ax r (sp_remain g y) gi) := by
  refine CT.of (lv := [(0, .ref (ax 0))]) false (by decide +kernel) (by decide) (Nat.le_of_ble_eq_true rfl) rfl ?_
  have f0 := hI.words
  have f1 := hI.birds
  have f2 := hI.gone
  have f3 := hI.hour
  obtain ⟨y00, y01, y02, y1, y2⟩ := id hy
  refine wf_aload_n 0 dX8_remain_0 rfl ?_
  refine wf_callVD (As := []) (rest := []) 19 (c_X8_mindAsNow) kV_X8_156 rfl (by decide) (by decide) (Nat.le_of_ble_eq_true rfl) rfl rfl rfl dX8_remain_1 ?_
  refine wf_perm (w' := wg E (kk 6) b g ++ (wk E kk ++ (wl E al y ++ (wx E ax (a 0) (b 0) (c 0) (al 0) y ++ (wg E (kk 6) a g ++ (wg E (kk 6) c gi ++ r)))))) pm4 ?_
  refine wf_callVD (As := []) (rest := []) 0 (c_X2_passTillDusk hI) kV_X8_166 rfl (by decide) (by decide) (Nat.le_of_ble_eq_true rfl) rfl rfl rfl dX8_remain_4 ?_
  refine wf_perm (w' := wg E (kk 6) a g ++ (wk E kk ++ (wl E al y ++ (wx E ax (a 0) (b 0) (c 0) (al 0) y ++ (wg E (kk 6) b (eDk g) ++ (wg E (kk 6) c gi ++ r)))))) pm4 ?_
  exact wf_iret .int rfl (vp_nar_int _) ⟨rfl, rfl⟩ (px_of (by rfl) ⟨_, (hI.oHrs _), rfl⟩) dX8_remain_7
