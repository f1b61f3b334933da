abbrev rmX9_comesWord : Room := { frames := 0, cells := 0, slots := 0, locals := 0 }
set_option maxHeartbeats 4000000 in
set_option maxRecDepth 100000 in
theorem c_X9_comesWord {l : Launch} {E : Ev} {q a b c : Nat} {g y j : Gd} {td : Nat → Int32} {am : Nat → Nat} {r : va_W} (hI : Inv g) (h0 : td q = nI a) (h1 : td (q + 1) = nI b) (h2 : td (q + 2) = nI c) (hb : b ≤ 9) (hq : q + 4 ≤ 160) : CT l E yX9_comesWord cX9_comesWord 2 (some .boolean) rmX9_comesWord [.ref (am 0), .int (nI q)] (wm E am g y j td ++ r) (IS (some (.int (bI (decide (g 9 0 < 10) && decide (b < 3))))) (wm E am (if (decide (g 9 0 < 10) && decide (b < 3)) = true then eAddW g a b c else g) y j td ++ r)) := by
  refine CT.of (lv := [(0, .ref (am 0)), (1, .int (nI q))]) false (by decide +kernel) (by decide) (Nat.le_of_ble_eq_true rfl) rfl ?_
  have f0 := hI.words
  have f1 := hI.birds
  have f2 := hI.gone
  have f3 := hI.hour
  refine wf_aload_n 0 dX9_comesWord_0 rfl ?_
  refine wf_getf (C := RX9) (T := TX9) (N := 27) (v := .int (nI (g 9 0))) 0 10 in_X9 rfl rfl (by decide) fl_X9_59 rfl dX9_comesWord_1 ?_
  refine wf_bipush (nI 10) dX9_comesWord_4 (by decide) ?_
  refine wf_icmp_eq_n 21 dX9_comesWord_6 (by decide) (by omega) (by omega) (fun c6 => ?_) (fun c6 => ?_)
  · refine wf_iconst (nI 0) dX9_comesWord_21 (by decide) ?_
    exact wf_iret .boolean rfl (by decide) ⟨rfl, rfl⟩ ⟨congrArg (fun z => some (Value.int z)) (b1_zero (by rw [decide_eq_false (show ¬ g 9 0 < 10 by omega), Bool.false_and])), (by rw [if_neg (by rw [decide_eq_false (show ¬ g 9 0 < 10 by omega), Bool.false_and]; decide)])⟩ dX9_comesWord_22
  · refine wf_aload_n 0 dX9_comesWord_9 rfl ?_
    refine wf_getf (C := RX9) (T := TX9) (N := 27) (v := .ref (am 14)) 0 17 in_X9 rfl rfl (by decide) fl_X9_49 rfl dX9_comesWord_10 ?_
    refine wf_iload_n 1 dX9_comesWord_13 rfl ?_
    refine wf_iconst (nI 1) dX9_comesWord_14 (by decide) ?_
    refine wf_iadd (nI (q + 1)) dX9_comesWord_15 (nI_add q 1) ?_
    refine wf_iald_n (td (q + 1)) 14 rfl (by omega) (by decide) rfl dX9_comesWord_16 ?_
    refine wf_top (y := .int (nI b)) (by rw [h1]) ?_
    refine wf_iconst (nI 2) dX9_comesWord_17 (by decide) ?_
    refine wf_icmp_le_n 23 dX9_comesWord_18 (by decide) (by omega) (by omega) (fun c18 => ?_) (fun c18 => ?_)
    · refine wf_aload_n 0 dX9_comesWord_23 rfl ?_
      refine wf_getf (C := RX9) (T := TX9) (N := 27) (v := .ref (am 2)) 0 1 in_X9 rfl rfl (by decide) fl_X9_13 rfl dX9_comesWord_24 ?_
      refine wf_aload_n 0 dX9_comesWord_27 rfl ?_
      refine wf_getf (C := RX9) (T := TX9) (N := 27) (v := .int (nI (g 9 0))) 0 10 in_X9 rfl rfl (by decide) fl_X9_59 rfl dX9_comesWord_28 ?_
      refine wf_aload_n 0 dX9_comesWord_31 rfl ?_
      refine wf_getf (C := RX9) (T := TX9) (N := 27) (v := .ref (am 14)) 0 17 in_X9 rfl rfl (by decide) fl_X9_49 rfl dX9_comesWord_32 ?_
      refine wf_iload_n 1 dX9_comesWord_35 rfl ?_
      refine wf_iald_n (td q) 14 rfl (by omega) (by decide) rfl dX9_comesWord_36 ?_
      refine wf_top (y := .int (nI a)) (by rw [h0]) ?_
      refine wf_iast_n (wm E am (gs g 0 (g 9 0) a) y j td ++ r) 2 rfl (by omega) (by decide) (sf 2 (Nat.le_of_ble_eq_true rfl) (wm_set0 (g 9 0) a)) dX9_comesWord_37 ?_
      refine wf_aload_n 0 dX9_comesWord_38 rfl ?_
      refine wf_getf (C := RX9) (T := TX9) (N := 27) (v := .ref (am 3)) 0 2 in_X9 rfl rfl (by decide) fl_X9_16 rfl dX9_comesWord_39 ?_
      refine wf_aload_n 0 dX9_comesWord_42 rfl ?_
      refine wf_getf (C := RX9) (T := TX9) (N := 27) (v := .int (nI (g 9 0))) 0 10 in_X9 rfl rfl (by decide) fl_X9_59 rfl dX9_comesWord_43 ?_
      refine wf_aload_n 0 dX9_comesWord_46 rfl ?_
      refine wf_getf (C := RX9) (T := TX9) (N := 27) (v := .ref (am 14)) 0 17 in_X9 rfl rfl (by decide) fl_X9_49 rfl dX9_comesWord_47 ?_
      refine wf_iload_n 1 dX9_comesWord_50 rfl ?_
      refine wf_iconst (nI 1) dX9_comesWord_51 (by decide) ?_
      refine wf_iadd (nI (q + 1)) dX9_comesWord_52 (nI_add q 1) ?_
      refine wf_iald_n (td (q + 1)) 14 rfl (by omega) (by decide) rfl dX9_comesWord_53 ?_
      refine wf_top (y := .int (nI b)) (by rw [h1]) ?_
      refine wf_iast_n (wm E am (gs (gs g 0 (g 9 0) a) 1 (g 9 0) b) y j td ++ r) 3 rfl (by omega) (by decide) (sf 3 (Nat.le_of_ble_eq_true rfl) (wm_set1 (g 9 0) b)) dX9_comesWord_54 ?_
      refine wf_aload_n 0 dX9_comesWord_55 rfl ?_
      refine wf_getf (C := RX9) (T := TX9) (N := 27) (v := .ref (am 4)) 0 3 in_X9 rfl rfl (by decide) fl_X9_19 rfl dX9_comesWord_56 ?_
      refine wf_aload_n 0 dX9_comesWord_59 rfl ?_
      refine wf_getf (C := RX9) (T := TX9) (N := 27) (v := .int (nI (g 9 0))) 0 10 in_X9 rfl rfl (by decide) fl_X9_59 rfl dX9_comesWord_60 ?_
      refine wf_aload_n 0 dX9_comesWord_63 rfl ?_
      refine wf_getf (C := RX9) (T := TX9) (N := 27) (v := .ref (am 14)) 0 17 in_X9 rfl rfl (by decide) fl_X9_49 rfl dX9_comesWord_64 ?_
      refine wf_iload_n 1 dX9_comesWord_67 rfl ?_
      refine wf_iconst (nI 2) dX9_comesWord_68 (by decide) ?_
      refine wf_iadd (nI (q + 2)) dX9_comesWord_69 (nI_add q 2) ?_
      refine wf_iald_n (td (q + 2)) 14 rfl (by omega) (by decide) rfl dX9_comesWord_70 ?_
      refine wf_top (y := .int (nI c)) (by rw [h2]) ?_
      refine wf_iast_n (wm E am (gs (gs (gs g 0 (g 9 0) a) 1 (g 9 0) b) 2 (g 9 0) c) y j td ++ r) 4 rfl (by omega) (by decide) (sf 4 (Nat.le_of_ble_eq_true rfl) (wm_set2 (g 9 0) c)) dX9_comesWord_71 ?_
      refine wf_aload_n 0 dX9_comesWord_72 rfl ?_
      refine wf_dup dX9_comesWord_73 rfl ?_
      refine wf_getf (C := RX9) (T := TX9) (N := 27) (v := .int (nI (g 9 0))) 0 10 in_X9 rfl rfl (by decide) fl_X9_59 rfl dX9_comesWord_74 ?_
      refine wf_iconst (nI 1) dX9_comesWord_77 (by decide) ?_
      refine wf_iadd (nI ((g 9 0) + 1)) dX9_comesWord_78 (nI_add (g 9 0) 1) ?_
      refine wf_putf (C := RX9) (T := TX9) (N := 27) (ty := .int) 0 10 (wm E am (gs (gs (gs (gs g 0 (g 9 0) a) 1 (g 9 0) b) 2 (g 9 0) c) 9 0 ((g 9 0) + 1)) y j td ++ r) tyX9 in_X9 tyX9_ok nmX9 rfl rfl (by decide) fl_X9_59 rfl (by decide +kernel) (by rfl) rfl (Nat.le_of_ble_eq_true rfl) (sf 0 (Nat.le_of_ble_eq_true rfl) (wm_put10 ((g 9 0) + 1))) dX9_comesWord_79 ?_
      refine wf_iconst (nI 1) dX9_comesWord_82 (by decide) ?_
      exact wf_iret .boolean rfl (by decide) ⟨rfl, rfl⟩ ⟨congrArg (fun z => some (Value.int z)) (b1_one (by rw [decide_eq_true (show g 9 0 < 10 by omega), decide_eq_true (show b < 3 by omega)]; rfl)), (by rw [if_pos (by rw [decide_eq_true (show g 9 0 < 10 by omega), decide_eq_true (show b < 3 by omega)]; rfl)]; rfl)⟩ dX9_comesWord_83
    · refine wf_iconst (nI 0) dX9_comesWord_21 (by decide) ?_
      exact wf_iret .boolean rfl (by decide) ⟨rfl, rfl⟩ ⟨congrArg (fun z => some (Value.int z)) (b1_zero (by rw [decide_eq_false (show ¬ b < 3 by omega), Bool.and_false])), (by rw [if_neg (by rw [decide_eq_false (show ¬ b < 3 by omega), Bool.and_false]; decide)])⟩ dX9_comesWord_22
abbrev rmX9_comesBird : Room := { frames := 0, cells := 0, slots := 0, locals := 0 }
set_option maxHeartbeats 4000000 in
set_option maxRecDepth 100000 in
theorem c_X9_comesBird {l : Launch} {E : Ev} {q k t f u : Nat} {g y j : Gd} {td : Nat → Int32} {am : Nat → Nat} {r : va_W} (hI : Inv g) (h0 : td q = nI k) (h1 : td (q + 1) = nI t) (h2 : td (q + 2) = nI f) (h3 : td (q + 3) = nI u) (hf : f ≤ 9) (hu : u ≤ 9) (hq : q + 4 ≤ 160) : CT l E yX9_comesBird cX9_comesBird 2 (some .boolean) rmX9_comesBird [.ref (am 0), .int (nI q)] (wm E am g y j td ++ r) (IS (some (.int (bI (decide (g 9 1 < 4) && (decide (f ≤ u) && decide (u < 8)))))) (wm E am (if (decide (g 9 1 < 4) && (decide (f ≤ u) && decide (u < 8))) = true then eAddB g k t f u else g) y j td ++ r)) := by
  refine CT.of (lv := [(0, .ref (am 0)), (1, .int (nI q))]) false (by decide +kernel) (by decide) (Nat.le_of_ble_eq_true rfl) rfl ?_
  have f0 := hI.words
  have f1 := hI.birds
  have f2 := hI.gone
  have f3 := hI.hour
  refine wf_aload_n 0 dX9_comesBird_0 rfl ?_
  refine wf_getf (C := RX9) (T := TX9) (N := 27) (v := .int (nI (g 9 1))) 0 11 in_X9 rfl rfl (by decide) fl_X9_63 rfl dX9_comesBird_1 ?_
  refine wf_iconst (nI 4) dX9_comesBird_4 (by decide) ?_
  refine wf_icmp_eq_n 40 dX9_comesBird_5 (by decide) (by omega) (by omega) (fun c5 => ?_) (fun c5 => ?_)
  · refine wf_iconst (nI 0) dX9_comesBird_40 (by decide) ?_
    exact wf_iret .boolean rfl (by decide) ⟨rfl, rfl⟩ ⟨congrArg (fun z => some (Value.int z)) (b1_zero (by rw [decide_eq_false (show ¬ g 9 1 < 4 by omega), Bool.false_and])), (by rw [if_neg (by rw [decide_eq_false (show ¬ g 9 1 < 4 by omega), Bool.false_and]; decide)])⟩ dX9_comesBird_41
  · refine wf_aload_n 0 dX9_comesBird_8 rfl ?_
    refine wf_getf (C := RX9) (T := TX9) (N := 27) (v := .ref (am 14)) 0 17 in_X9 rfl rfl (by decide) fl_X9_49 rfl dX9_comesBird_9 ?_
    refine wf_iload_n 1 dX9_comesBird_12 rfl ?_
    refine wf_iconst (nI 3) dX9_comesBird_13 (by decide) ?_
    refine wf_iadd (nI (q + 3)) dX9_comesBird_14 (nI_add q 3) ?_
    refine wf_iald_n (td (q + 3)) 14 rfl (by omega) (by decide) rfl dX9_comesBird_15 ?_
    refine wf_top (y := .int (nI u)) (by rw [h3]) ?_
    refine wf_bipush (nI 7) dX9_comesBird_16 (by decide) ?_
    refine wf_icmp_gt_n 40 dX9_comesBird_18 (by decide) (by omega) (by omega) (fun c18 => ?_) (fun c18 => ?_)
    · refine wf_iconst (nI 0) dX9_comesBird_40 (by decide) ?_
      exact wf_iret .boolean rfl (by decide) ⟨rfl, rfl⟩ ⟨congrArg (fun z => some (Value.int z)) (b1_zero (by rw [decide_eq_false (show ¬ u < 8 by omega), Bool.and_false, Bool.and_false])), (by rw [if_neg (by rw [decide_eq_false (show ¬ u < 8 by omega), Bool.and_false, Bool.and_false]; decide)])⟩ dX9_comesBird_41
    · refine wf_aload_n 0 dX9_comesBird_21 rfl ?_
      refine wf_getf (C := RX9) (T := TX9) (N := 27) (v := .ref (am 14)) 0 17 in_X9 rfl rfl (by decide) fl_X9_49 rfl dX9_comesBird_22 ?_
      refine wf_iload_n 1 dX9_comesBird_25 rfl ?_
      refine wf_iconst (nI 2) dX9_comesBird_26 (by decide) ?_
      refine wf_iadd (nI (q + 2)) dX9_comesBird_27 (nI_add q 2) ?_
      refine wf_iald_n (td (q + 2)) 14 rfl (by omega) (by decide) rfl dX9_comesBird_28 ?_
      refine wf_top (y := .int (nI f)) (by rw [h2]) ?_
      refine wf_aload_n 0 dX9_comesBird_29 rfl ?_
      refine wf_getf (C := RX9) (T := TX9) (N := 27) (v := .ref (am 14)) 0 17 in_X9 rfl rfl (by decide) fl_X9_49 rfl dX9_comesBird_30 ?_
      refine wf_iload_n 1 dX9_comesBird_33 rfl ?_
      refine wf_iconst (nI 3) dX9_comesBird_34 (by decide) ?_
      refine wf_iadd (nI (q + 3)) dX9_comesBird_35 (nI_add q 3) ?_
      refine wf_iald_n (td (q + 3)) 14 rfl (by omega) (by decide) rfl dX9_comesBird_36 ?_
      refine wf_top (y := .int (nI u)) (by rw [h3]) ?_
      refine wf_icmp_le_n 42 dX9_comesBird_37 (by decide) (by omega) (by omega) (fun c37 => ?_) (fun c37 => ?_)
      · refine wf_aload_n 0 dX9_comesBird_42 rfl ?_
        refine wf_getf (C := RX9) (T := TX9) (N := 27) (v := .ref (am 5)) 0 4 in_X9 rfl rfl (by decide) fl_X9_22 rfl dX9_comesBird_43 ?_
        refine wf_aload_n 0 dX9_comesBird_46 rfl ?_
        refine wf_getf (C := RX9) (T := TX9) (N := 27) (v := .int (nI (g 9 1))) 0 11 in_X9 rfl rfl (by decide) fl_X9_63 rfl dX9_comesBird_47 ?_
        refine wf_aload_n 0 dX9_comesBird_50 rfl ?_
        refine wf_getf (C := RX9) (T := TX9) (N := 27) (v := .ref (am 14)) 0 17 in_X9 rfl rfl (by decide) fl_X9_49 rfl dX9_comesBird_51 ?_
        refine wf_iload_n 1 dX9_comesBird_54 rfl ?_
        refine wf_iald_n (td q) 14 rfl (by omega) (by decide) rfl dX9_comesBird_55 ?_
        refine wf_top (y := .int (nI k)) (by rw [h0]) ?_
        refine wf_iast_n (wm E am (gs g 3 (g 9 1) k) y j td ++ r) 5 rfl (by omega) (by decide) (sf 5 (Nat.le_of_ble_eq_true rfl) (wm_set3 (g 9 1) k)) dX9_comesBird_56 ?_
        refine wf_aload_n 0 dX9_comesBird_57 rfl ?_
        refine wf_getf (C := RX9) (T := TX9) (N := 27) (v := .ref (am 6)) 0 5 in_X9 rfl rfl (by decide) fl_X9_25 rfl dX9_comesBird_58 ?_
        refine wf_aload_n 0 dX9_comesBird_61 rfl ?_
        refine wf_getf (C := RX9) (T := TX9) (N := 27) (v := .int (nI (g 9 1))) 0 11 in_X9 rfl rfl (by decide) fl_X9_63 rfl dX9_comesBird_62 ?_
        refine wf_aload_n 0 dX9_comesBird_65 rfl ?_
        refine wf_getf (C := RX9) (T := TX9) (N := 27) (v := .ref (am 14)) 0 17 in_X9 rfl rfl (by decide) fl_X9_49 rfl dX9_comesBird_66 ?_
        refine wf_iload_n 1 dX9_comesBird_69 rfl ?_
        refine wf_iconst (nI 1) dX9_comesBird_70 (by decide) ?_
        refine wf_iadd (nI (q + 1)) dX9_comesBird_71 (nI_add q 1) ?_
        refine wf_iald_n (td (q + 1)) 14 rfl (by omega) (by decide) rfl dX9_comesBird_72 ?_
        refine wf_top (y := .int (nI t)) (by rw [h1]) ?_
        refine wf_iast_n (wm E am (gs (gs g 3 (g 9 1) k) 4 (g 9 1) t) y j td ++ r) 6 rfl (by omega) (by decide) (sf 6 (Nat.le_of_ble_eq_true rfl) (wm_set4 (g 9 1) t)) dX9_comesBird_73 ?_
        refine wf_aload_n 0 dX9_comesBird_74 rfl ?_
        refine wf_getf (C := RX9) (T := TX9) (N := 27) (v := .ref (am 7)) 0 6 in_X9 rfl rfl (by decide) fl_X9_28 rfl dX9_comesBird_75 ?_
        refine wf_aload_n 0 dX9_comesBird_78 rfl ?_
        refine wf_getf (C := RX9) (T := TX9) (N := 27) (v := .int (nI (g 9 1))) 0 11 in_X9 rfl rfl (by decide) fl_X9_63 rfl dX9_comesBird_79 ?_
        refine wf_aload_n 0 dX9_comesBird_82 rfl ?_
        refine wf_getf (C := RX9) (T := TX9) (N := 27) (v := .ref (am 14)) 0 17 in_X9 rfl rfl (by decide) fl_X9_49 rfl dX9_comesBird_83 ?_
        refine wf_iload_n 1 dX9_comesBird_86 rfl ?_
        refine wf_iconst (nI 2) dX9_comesBird_87 (by decide) ?_
        refine wf_iadd (nI (q + 2)) dX9_comesBird_88 (nI_add q 2) ?_
        refine wf_iald_n (td (q + 2)) 14 rfl (by omega) (by decide) rfl dX9_comesBird_89 ?_
        refine wf_top (y := .int (nI f)) (by rw [h2]) ?_
        refine wf_iast_n (wm E am (gs (gs (gs g 3 (g 9 1) k) 4 (g 9 1) t) 5 (g 9 1) f) y j td ++ r) 7 rfl (by omega) (by decide) (sf 7 (Nat.le_of_ble_eq_true rfl) (wm_set5 (g 9 1) f)) dX9_comesBird_90 ?_
        refine wf_aload_n 0 dX9_comesBird_91 rfl ?_
        refine wf_getf (C := RX9) (T := TX9) (N := 27) (v := .ref (am 8)) 0 7 in_X9 rfl rfl (by decide) fl_X9_31 rfl dX9_comesBird_92 ?_
        refine wf_aload_n 0 dX9_comesBird_95 rfl ?_
        refine wf_getf (C := RX9) (T := TX9) (N := 27) (v := .int (nI (g 9 1))) 0 11 in_X9 rfl rfl (by decide) fl_X9_63 rfl dX9_comesBird_96 ?_
        refine wf_aload_n 0 dX9_comesBird_99 rfl ?_
        refine wf_getf (C := RX9) (T := TX9) (N := 27) (v := .ref (am 14)) 0 17 in_X9 rfl rfl (by decide) fl_X9_49 rfl dX9_comesBird_100 ?_
        refine wf_iload_n 1 dX9_comesBird_103 rfl ?_
        refine wf_iconst (nI 3) dX9_comesBird_104 (by decide) ?_
        refine wf_iadd (nI (q + 3)) dX9_comesBird_105 (nI_add q 3) ?_
        refine wf_iald_n (td (q + 3)) 14 rfl (by omega) (by decide) rfl dX9_comesBird_106 ?_
        refine wf_top (y := .int (nI u)) (by rw [h3]) ?_
        refine wf_iast_n (wm E am (gs (gs (gs (gs g 3 (g 9 1) k) 4 (g 9 1) t) 5 (g 9 1) f) 6 (g 9 1) u) y j td ++ r) 8 rfl (by omega) (by decide) (sf 8 (Nat.le_of_ble_eq_true rfl) (wm_set6 (g 9 1) u)) dX9_comesBird_107 ?_
        refine wf_aload_n 0 dX9_comesBird_108 rfl ?_
        refine wf_dup dX9_comesBird_109 rfl ?_
        refine wf_getf (C := RX9) (T := TX9) (N := 27) (v := .int (nI (g 9 1))) 0 11 in_X9 rfl rfl (by decide) fl_X9_63 rfl dX9_comesBird_110 ?_
        refine wf_iconst (nI 1) dX9_comesBird_113 (by decide) ?_
        refine wf_iadd (nI ((g 9 1) + 1)) dX9_comesBird_114 (nI_add (g 9 1) 1) ?_
        refine wf_putf (C := RX9) (T := TX9) (N := 27) (ty := .int) 0 11 (wm E am (gs (gs (gs (gs (gs g 3 (g 9 1) k) 4 (g 9 1) t) 5 (g 9 1) f) 6 (g 9 1) u) 9 1 ((g 9 1) + 1)) y j td ++ r) tyX9 in_X9 tyX9_ok nmX9 rfl rfl (by decide) fl_X9_63 rfl (by decide +kernel) (by rfl) rfl (Nat.le_of_ble_eq_true rfl) (sf 0 (Nat.le_of_ble_eq_true rfl) (wm_put11 ((g 9 1) + 1))) dX9_comesBird_115 ?_
        refine wf_iconst (nI 1) dX9_comesBird_118 (by decide) ?_
        exact wf_iret .boolean rfl (by decide) ⟨rfl, rfl⟩ ⟨congrArg (fun z => some (Value.int z)) (b1_one (by rw [decide_eq_true (show g 9 1 < 4 by omega), decide_eq_true (show f ≤ u by omega), decide_eq_true (show u < 8 by omega)]; rfl)), (by rw [if_pos (by rw [decide_eq_true (show g 9 1 < 4 by omega), decide_eq_true (show f ≤ u by omega), decide_eq_true (show u < 8 by omega)]; rfl)]; rfl)⟩ dX9_comesBird_119
      · refine wf_iconst (nI 0) dX9_comesBird_40 (by decide) ?_
        exact wf_iret .boolean rfl (by decide) ⟨rfl, rfl⟩ ⟨congrArg (fun z => some (Value.int z)) (b1_zero (by rw [decide_eq_false (show ¬ f ≤ u by omega), Bool.false_and, Bool.and_false])), (by rw [if_neg (by rw [decide_eq_false (show ¬ f ≤ u by omega), Bool.false_and, Bool.and_false]; decide)])⟩ dX9_comesBird_41
abbrev rmX9_comesWatch : Room := { frames := 1, cells := 0, slots := 0, locals := 21 }
set_option maxHeartbeats 4000000 in
set_option maxRecDepth 100000 in
theorem c_X9_comesWatch {l : Launch} {E : Ev} {q a f u : Nat} {g y j : Gd} {td : Nat → Int32} {am : Nat → Nat} {r : va_W} (hI : Inv g) (h0 : td q = nI a) (h1 : td (q + 1) = nI f) (h2 : td (q + 2) = nI u) (ha9 : a ≤ 9) (hf : f ≤ 9) (hu : u ≤ 9) (hq : q + 4 ≤ 160) : CT l E yX9_comesWatch cX9_comesWatch 3 (some .boolean) rmX9_comesWatch [.ref (am 0), .int (nI q)] (wm E am g y j td ++ r) (IS (some (.int (bI (decide (a < g 9 0) && (decide (f ≤ u) && decide (u < 8)))))) (wm E am (if (decide (a < g 9 0) && (decide (f ≤ u) && decide (u < 8))) = true then eWr g a f (u + 1 - f) else g) y j td ++ r)) := by
  refine CT.of (lv := [(0, .ref (am 0)), (1, .int (nI q))]) false (by decide +kernel) (by decide) (Nat.le_of_ble_eq_true rfl) rfl ?_
  have f0 := hI.words
  have f1 := hI.birds
  have f2 := hI.gone
  have f3 := hI.hour
  have sh : 1 <<< a < 1024 := by rw [Nat.shiftLeft_eq, Nat.one_mul]; exact Nat.lt_of_lt_of_le (Nat.pow_lt_pow_right (by decide) (show a < 10 by omega)) (by decide)
  refine wf_aload_n 0 dX9_comesWatch_0 rfl ?_
  refine wf_aload_n 0 dX9_comesWatch_1 rfl ?_
  refine wf_getf (C := RX9) (T := TX9) (N := 27) (v := .ref (am 14)) 0 17 in_X9 rfl rfl (by decide) fl_X9_49 rfl dX9_comesWatch_2 ?_
  refine wf_iload_n 1 dX9_comesWatch_5 rfl ?_
  refine wf_iald_n (td q) 14 rfl (by omega) (by decide) rfl dX9_comesWatch_6 ?_
  refine wf_top (y := .int (nI a)) (by rw [h0]) ?_
  refine wf_callVD (As := [.int (nI a)]) (rest := []) 0 (c_X9_isWord) kV_X9_102 rfl (by decide) (by decide) (Nat.le_of_ble_eq_true rfl) rfl rfl rfl dX9_comesWatch_7 ?_
  refine wf_top (y := .int (bI (decide (a < g 9 0)))) (by rw [eHas_n (by omega) (by omega)]) ?_
  refine wf_if_eq_b 45 dX9_comesWatch_10 (by decide) (fun c10 => ?_) (fun c10 => ?_)
  · refine wf_iconst (nI 0) dX9_comesWatch_45 (by decide) ?_
    exact wf_iret .boolean rfl (by decide) ⟨rfl, rfl⟩ ⟨congrArg (fun z => some (Value.int z)) (b1_zero (by rw [c10, Bool.false_and])), (by rw [if_neg (by rw [c10, Bool.false_and]; decide)])⟩ dX9_comesWatch_46
  · have ha := of_decide_eq_true c10
    refine wf_aload_n 0 dX9_comesWatch_13 rfl ?_
    refine wf_getf (C := RX9) (T := TX9) (N := 27) (v := .ref (am 14)) 0 17 in_X9 rfl rfl (by decide) fl_X9_49 rfl dX9_comesWatch_14 ?_
    refine wf_iload_n 1 dX9_comesWatch_17 rfl ?_
    refine wf_iconst (nI 2) dX9_comesWatch_18 (by decide) ?_
    refine wf_iadd (nI (q + 2)) dX9_comesWatch_19 (nI_add q 2) ?_
    refine wf_iald_n (td (q + 2)) 14 rfl (by omega) (by decide) rfl dX9_comesWatch_20 ?_
    refine wf_top (y := .int (nI u)) (by rw [h2]) ?_
    refine wf_bipush (nI 7) dX9_comesWatch_21 (by decide) ?_
    refine wf_icmp_gt_n 45 dX9_comesWatch_23 (by decide) (by omega) (by omega) (fun c23 => ?_) (fun c23 => ?_)
    · refine wf_iconst (nI 0) dX9_comesWatch_45 (by decide) ?_
      exact wf_iret .boolean rfl (by decide) ⟨rfl, rfl⟩ ⟨congrArg (fun z => some (Value.int z)) (b1_zero (by rw [decide_eq_false (show ¬ u < 8 by omega), Bool.and_false, Bool.and_false])), (by rw [if_neg (by rw [decide_eq_false (show ¬ u < 8 by omega), Bool.and_false, Bool.and_false]; decide)])⟩ dX9_comesWatch_46
    · refine wf_aload_n 0 dX9_comesWatch_26 rfl ?_
      refine wf_getf (C := RX9) (T := TX9) (N := 27) (v := .ref (am 14)) 0 17 in_X9 rfl rfl (by decide) fl_X9_49 rfl dX9_comesWatch_27 ?_
      refine wf_iload_n 1 dX9_comesWatch_30 rfl ?_
      refine wf_iconst (nI 1) dX9_comesWatch_31 (by decide) ?_
      refine wf_iadd (nI (q + 1)) dX9_comesWatch_32 (nI_add q 1) ?_
      refine wf_iald_n (td (q + 1)) 14 rfl (by omega) (by decide) rfl dX9_comesWatch_33 ?_
      refine wf_top (y := .int (nI f)) (by rw [h1]) ?_
      refine wf_aload_n 0 dX9_comesWatch_34 rfl ?_
      refine wf_getf (C := RX9) (T := TX9) (N := 27) (v := .ref (am 14)) 0 17 in_X9 rfl rfl (by decide) fl_X9_49 rfl dX9_comesWatch_35 ?_
      refine wf_iload_n 1 dX9_comesWatch_38 rfl ?_
      refine wf_iconst (nI 2) dX9_comesWatch_39 (by decide) ?_
      refine wf_iadd (nI (q + 2)) dX9_comesWatch_40 (nI_add q 2) ?_
      refine wf_iald_n (td (q + 2)) 14 rfl (by omega) (by decide) rfl dX9_comesWatch_41 ?_
      refine wf_top (y := .int (nI u)) (by rw [h2]) ?_
      refine wf_icmp_le_n 47 dX9_comesWatch_42 (by decide) (by omega) (by omega) (fun c42 => ?_) (fun c42 => ?_)
      · refine wf_aload_n 0 dX9_comesWatch_47 rfl ?_
        refine wf_getf (C := RX9) (T := TX9) (N := 27) (v := .ref (am 14)) 0 17 in_X9 rfl rfl (by decide) fl_X9_49 rfl dX9_comesWatch_48 ?_
        refine wf_iload_n 1 dX9_comesWatch_51 rfl ?_
        refine wf_iconst (nI 1) dX9_comesWatch_52 (by decide) ?_
        refine wf_iadd (nI (q + 1)) dX9_comesWatch_53 (nI_add q 1) ?_
        refine wf_iald_n (td (q + 1)) 14 rfl (by omega) (by decide) rfl dX9_comesWatch_54 ?_
        refine wf_top (y := .int (nI f)) (by rw [h1]) ?_
        refine wf_istore_n [(2, .int (nI f)), (0, .ref (am 0)), (1, .int (nI q))] dX9_comesWatch_55 rfl (by decide) rfl ?_
        have L56 : ∀ (fu56 : Nat) (k : Nat), u + 1 - f - k < fu56 → (k ≤ u + 1 - f) → WF l E RX9 cX9_comesWatch 3 (some .boolean) rmX9_comesWatch false (fun _ => True) (QM E (wm E am g y j td ++ r) (IS (some (.int (bI (decide (a < g 9 0) && (decide (f ≤ u) && decide (u < 8)))))) (wm E am (if (decide (a < g 9 0) && (decide (f ≤ u) && decide (u < 8))) = true then eWr g a f (u + 1 - f) else g) y j td ++ r)) rmX9_comesWatch) (wm E am g y j td ++ r) 0 0 56 [(2, .int (nI (f + k))), (0, .ref (am 0)), (1, .int (nI q))] [] (wm E am (eWr g a f k) y j td ++ r) := by
          intro fu56
          induction fu56 with
          | zero => intro k hn; exact absurd hn (Nat.not_lt_zero _)
          | succ fu56 ih56 =>
            intro k hn hk
            have hwk := (hI.oWr (w := a) (f := f) ha k).wat (f + k)
            refine wf_iload_n 0 dX9_comesWatch_56 rfl ?_
            refine wf_aload_n 1 dX9_comesWatch_57 rfl ?_
            refine wf_getf (C := RX9) (T := TX9) (N := 27) (v := .ref (am 14)) 0 17 in_X9 rfl rfl (by decide) fl_X9_49 rfl dX9_comesWatch_58 ?_
            refine wf_iload_n 2 dX9_comesWatch_61 rfl ?_
            refine wf_iconst (nI 2) dX9_comesWatch_62 (by decide) ?_
            refine wf_iadd (nI (q + 2)) dX9_comesWatch_63 (nI_add q 2) ?_
            refine wf_iald_n (td (q + 2)) 14 rfl (by omega) (by decide) rfl dX9_comesWatch_64 ?_
            refine wf_top (y := .int (nI u)) (by rw [h2]) ?_
            refine wf_icmp_gt_n 91 dX9_comesWatch_65 (by decide) (by omega) (by omega) (fun c65 => ?_) (fun c65 => ?_)
            · refine wf_iconst (nI 1) dX9_comesWatch_91 (by decide) ?_
              exact wf_iret .boolean rfl (by decide) ⟨rfl, rfl⟩ ⟨congrArg (fun z => some (Value.int z)) (b1_one (by rw [decide_eq_true ha, decide_eq_true (show f ≤ u by omega), decide_eq_true (show u < 8 by omega)]; rfl)), (by rw [if_pos (by rw [decide_eq_true ha, decide_eq_true (show f ≤ u by omega), decide_eq_true (show u < 8 by omega)]; rfl), show u + 1 - f = k by omega])⟩ dX9_comesWatch_92
            · refine wf_aload_n 1 dX9_comesWatch_68 rfl ?_
              refine wf_getf (C := RX9) (T := TX9) (N := 27) (v := .ref (am 10)) 0 9 in_X9 rfl rfl (by decide) fl_X9_37 rfl dX9_comesWatch_69 ?_
              refine wf_iload_n 0 dX9_comesWatch_72 rfl ?_
              refine wf_dup2 dX9_comesWatch_73 rfl rfl ?_
              refine wf_iald_n (nI ((eWr g a f k) 8 (f + k))) 10 rfl (by omega) (by decide) rfl dX9_comesWatch_74 ?_
              refine wf_iconst (nI 1) dX9_comesWatch_75 (by decide) ?_
              refine wf_aload_n 1 dX9_comesWatch_76 rfl ?_
              refine wf_getf (C := RX9) (T := TX9) (N := 27) (v := .ref (am 14)) 0 17 in_X9 rfl rfl (by decide) fl_X9_49 rfl dX9_comesWatch_77 ?_
              refine wf_iload_n 2 dX9_comesWatch_80 rfl ?_
              refine wf_iald_n (td q) 14 rfl (by omega) (by decide) rfl dX9_comesWatch_81 ?_
              refine wf_top (y := .int (nI a)) (by rw [h0]) ?_
              refine wf_ishl (nI (1 <<< a)) dX9_comesWatch_82 (nI_shl (by omega) (by omega)) ?_
              refine wf_ior (nI (((eWr g a f k) 8 (f + k)) ||| (1 <<< a))) dX9_comesWatch_83 (nI_lor (by omega) (by omega)) ?_
              refine wf_iast_n (wm E am (gs (eWr g a f k) 8 (f + k) (((eWr g a f k) 8 (f + k)) ||| (1 <<< a))) y j td ++ r) 10 rfl (by omega) (by decide) (sf 10 (Nat.le_of_ble_eq_true rfl) (wm_set8 (f + k) (((eWr g a f k) 8 (f + k)) ||| (1 <<< a)))) dX9_comesWatch_84 ?_
              refine wf_iinc (nI (f + k + 1)) 0 [(2, .int (nI (f + k + 1))), (0, .ref (am 0)), (1, .int (nI q))] dX9_comesWatch_85 rfl (nI_1 (f + k)) (by decide) rfl ?_
              refine wf_goto 56 dX9_comesWatch_88 (by decide) ?_
              refine wf_sub (lv' := [(2, .int (nI (f + k + 1))), (0, .ref (am 0)), (1, .int (nI q))]) [0, 1, 2] rfl ?_
              refine wf_lvc [(2, .int (nI (f + (k + 1)))), (0, .ref (am 0)), (1, .int (nI q))] rfl ?_
              refine wf_world (wm E am (eWr g a f (k + 1)) y j td ++ r) (by rw [eWr_or]) ?_
              exact ih56 (k + 1) (by omega) (by omega)
        refine wf_sub (lv' := [(2, .int (nI f)), (0, .ref (am 0)), (1, .int (nI q))]) [0, 1, 2] rfl ?_
        refine wf_lvc [(2, .int (nI (f + 0))), (0, .ref (am 0)), (1, .int (nI q))] rfl ?_
        refine wf_world (wm E am (eWr g a f 0) y j td ++ r) rfl ?_
        exact L56 _ 0 (Nat.lt_succ_self _) (Nat.zero_le _)
      · refine wf_iconst (nI 0) dX9_comesWatch_45 (by decide) ?_
        exact wf_iret .boolean rfl (by decide) ⟨rfl, rfl⟩ ⟨congrArg (fun z => some (Value.int z)) (b1_zero (by rw [decide_eq_false (show ¬ f ≤ u by omega), Bool.false_and, Bool.and_false])), (by rw [if_neg (by rw [decide_eq_false (show ¬ f ≤ u by omega), Bool.false_and, Bool.and_false]; decide)])⟩ dX9_comesWatch_46
abbrev rmX9_comes : Room := { frames := 2, cells := 0, slots := 0, locals := 43 }
set_option maxHeartbeats 4000000 in
set_option maxRecDepth 100000 in
theorem c_X9_comes {l : Launch} {E : Ev} {u : Gd} {q k : Nat} {g y j : Gd} {td : Nat → Int32} {am : Nat → Nat} {r : va_W} (hI : Inv g) (hL : j 2 k = eLet u q) (hT : TD u q td (4 * k)) (hS : WS u q) (hk : k < 40) : CT l E yX9_comes cX9_comes 3 (some .boolean) rmX9_comes [.ref (am 0), .int (nI k)] (wm E am g y j td ++ r) (IS (some (.int (bI (eFit u q (g 9 0) (g 9 1))))) (wm E am (if eFit u q (g 9 0) (g 9 1) = true then eTell u q g else g) y j td ++ r)) := by
  refine CT.of (lv := [(0, .ref (am 0)), (1, .int (nI k))]) false (by decide +kernel) (by decide) (Nat.le_of_ble_eq_true rfl) rfl ?_
  have f0 := hI.words
  have f1 := hI.birds
  have f2 := hI.gone
  have f3 := hI.hour
  have hl := ws_let hS
  refine wf_iconst (nI 4) dX9_comes_0 (by decide) ?_
  refine wf_iload_n 1 dX9_comes_1 rfl ?_
  refine wf_imul (nI (4 * k)) dX9_comes_2 (pk_mul 4 k) ?_
  refine wf_istore_n [(2, .int (nI (4 * k))), (0, .ref (am 0)), (1, .int (nI k))] dX9_comes_3 rfl (by decide) rfl ?_
  refine wf_aload_n 1 dX9_comes_4 rfl ?_
  refine wf_getf (C := RX9) (T := TX9) (N := 27) (v := .ref (am 12)) 0 15 in_X9 rfl rfl (by decide) fl_X9_43 rfl dX9_comes_5 ?_
  refine wf_iload_n 2 dX9_comes_8 rfl ?_
  refine wf_iald_n (nI (j 2 k)) 12 rfl (by omega) (by decide) rfl dX9_comes_9 ?_
  refine wf_top (y := .int (nI (eLet u q))) (by rw [hL]) ?_
  by_cases s10_98 : eLet u q = 98
  · refine wf_lookup (off := 40) 50 dX9_comes_10 (by decide) (by rw [s10_98]; decide) (by decide) ?_
    have hT2 := TD_b hT s10_98
    have hd := ws_b hS s10_98
    refine wf_aload_n 1 dX9_comes_50 rfl ?_
    refine wf_iload_n 0 dX9_comes_51 rfl ?_
    refine wf_callVD (As := [.int (nI (4 * k))]) (rest := []) 0 (c_X9_comesBird (k := (kixO (eLet u (q + 1))).getD 0) (t := eDg u (q + 2)) (f := eDg u (q + 3)) (u := eDg u (q + 4)) hI hT2.1 hT2.2.1 hT2.2.2.1 hT2.2.2.2 (dg_le hd.2.2.1) (dg_le hd.2.2.2) (by omega)) kV_X9_108 rfl (by decide) (by decide) (Nat.le_of_ble_eq_true rfl) rfl rfl rfl dX9_comes_52 ?_
    exact wf_iret .boolean rfl (bI_nar _) ⟨rfl, rfl⟩ ⟨congrArg (fun z => some (Value.int z)) (by rw [eFit_b s10_98]), (by rw [eFit_b s10_98, eTe_b s10_98])⟩ dX9_comes_55
  by_cases s10_114 : eLet u q = 114
  · refine wf_lookup (off := 46) 56 dX9_comes_10 (by decide) (by rw [s10_114]; decide) (by decide) ?_
    have hT2 := TD_w hT (Or.inr s10_114)
    have hd := ws_w hS (Or.inr s10_114)
    refine wf_aload_n 1 dX9_comes_56 rfl ?_
    refine wf_iload_n 0 dX9_comes_57 rfl ?_
    refine wf_callVD (As := [.int (nI (4 * k))]) (rest := []) 0 (c_X9_comesWatch (a := eDg u (q + 1)) (f := eDg u (q + 2)) (u := eDg u (q + 3)) hI hT2.1 hT2.2.1 hT2.2.2 (dg_le hd.1) (dg_le hd.2.1) (dg_le hd.2.2) (by omega)) kV_X9_111 rfl (by decide) (by decide) (Nat.le_of_ble_eq_true rfl) rfl rfl rfl dX9_comes_58 ?_
    exact wf_iret .boolean rfl (bI_nar _) ⟨rfl, rfl⟩ ⟨congrArg (fun z => some (Value.int z)) (by rw [eFit_r s10_114]), (by rw [eFit_r s10_114, eTe_r s10_114])⟩ dX9_comes_61
  by_cases s10_119 : eLet u q = 119
  · refine wf_lookup (off := 34) 44 dX9_comes_10 (by decide) (by rw [s10_119]; decide) (by decide) ?_
    have hT2 := TD_w hT (Or.inl s10_119)
    have hd := ws_w hS (Or.inl s10_119)
    refine wf_aload_n 1 dX9_comes_44 rfl ?_
    refine wf_iload_n 0 dX9_comes_45 rfl ?_
    refine wf_callVD (As := [.int (nI (4 * k))]) (rest := []) 0 (c_X9_comesWord (a := eDg u (q + 1)) (b := eDg u (q + 2)) (c := eDg u (q + 3)) hI hT2.1 hT2.2.1 hT2.2.2 (dg_le hd.2.1) (by omega)) kV_X9_105 rfl (by decide) (by decide) (Nat.le_of_ble_eq_true rfl) rfl rfl rfl dX9_comes_46 ?_
    exact wf_iret .boolean rfl (bI_nar _) ⟨rfl, rfl⟩ ⟨congrArg (fun z => some (Value.int z)) (by rw [eFit_w s10_119]), (by rw [eFit_w s10_119, eTe_w s10_119])⟩ dX9_comes_49
  refine wf_lookup (off := 52) 62 dX9_comes_10 (by decide) (lk_out (by omega) (by intro q hq; simp at hq; rcases hq with rfl | rfl | rfl <;> (dsimp only; omega))) (by decide) ?_
  have h105 : eLet u q = 105 := by omega
  have hT2 := TD_i hT h105
  have hd := ws_i hS h105
  have hd1 := dg_le hd.1
  have hd2 := dg_le hd.2
  refine wf_aload_n 1 dX9_comes_62 rfl ?_
  refine wf_getf (C := RX9) (T := TX9) (N := 27) (v := .ref (am 14)) 0 17 in_X9 rfl rfl (by decide) fl_X9_49 rfl dX9_comes_63 ?_
  refine wf_iload_n 0 dX9_comes_66 rfl ?_
  refine wf_iald_n (td (4 * k)) 14 rfl (by omega) (by decide) rfl dX9_comes_67 ?_
  refine wf_top (y := .int (nI (eDg u (q + 1)))) (by rw [hT2.1]) ?_
  refine wf_iconst (nI 2) dX9_comes_68 (by decide) ?_
  refine wf_icmp_le_n 74 dX9_comes_69 (by decide) (by omega) (by omega) (fun c69 => ?_) (fun c69 => ?_)
  · refine wf_aload_n 1 dX9_comes_74 rfl ?_
    refine wf_getf (C := RX9) (T := TX9) (N := 27) (v := .ref (am 9)) 0 8 in_X9 rfl rfl (by decide) fl_X9_34 rfl dX9_comes_75 ?_
    refine wf_aload_n 1 dX9_comes_78 rfl ?_
    refine wf_getf (C := RX9) (T := TX9) (N := 27) (v := .ref (am 14)) 0 17 in_X9 rfl rfl (by decide) fl_X9_49 rfl dX9_comes_79 ?_
    refine wf_iload_n 0 dX9_comes_82 rfl ?_
    refine wf_iald_n (td (4 * k)) 14 rfl (by omega) (by decide) rfl dX9_comes_83 ?_
    refine wf_top (y := .int (nI (eDg u (q + 1)))) (by rw [hT2.1]) ?_
    refine wf_aload_n 1 dX9_comes_84 rfl ?_
    refine wf_getf (C := RX9) (T := TX9) (N := 27) (v := .ref (am 14)) 0 17 in_X9 rfl rfl (by decide) fl_X9_49 rfl dX9_comes_85 ?_
    refine wf_iload_n 0 dX9_comes_88 rfl ?_
    refine wf_iconst (nI 1) dX9_comes_89 (by decide) ?_
    refine wf_iadd (nI ((4 * k) + 1)) dX9_comes_90 (nI_add (4 * k) 1) ?_
    refine wf_iald_n (td ((4 * k) + 1)) 14 rfl (by omega) (by decide) rfl dX9_comes_91 ?_
    refine wf_top (y := .int (nI (eDg u (q + 2)))) (by rw [hT2.2]) ?_
    refine wf_iast_n (wm E am (gs g 7 (eDg u (q + 1)) (eDg u (q + 2))) y j td ++ r) 9 rfl (by omega) (by decide) (sf 9 (Nat.le_of_ble_eq_true rfl) (wm_set7 (eDg u (q + 1)) (eDg u (q + 2)))) dX9_comes_92 ?_
    refine wf_iconst (nI 1) dX9_comes_93 (by decide) ?_
    exact wf_iret .boolean rfl (by decide) ⟨rfl, rfl⟩ ⟨congrArg (fun z => some (Value.int z)) (b1_one (by rw [eFit_i h105]; exact decide_eq_true (by omega))), (by rw [if_pos (by rw [eFit_i h105]; exact decide_eq_true (by omega)), eTe_i h105])⟩ dX9_comes_94
  · refine wf_iconst (nI 0) dX9_comes_72 (by decide) ?_
    exact wf_iret .boolean rfl (by decide) ⟨rfl, rfl⟩ ⟨congrArg (fun z => some (Value.int z)) (b1_zero (by rw [eFit_i h105]; exact decide_eq_false (by omega))), (by rw [if_neg (by rw [eFit_i h105, decide_eq_false (by omega)]; decide)])⟩ dX9_comes_73
