abbrev rmX9_next : Room := { frames := 0, cells := 0, slots := 0, locals := 0 }
set_option maxHeartbeats 4000000 in
set_option maxRecDepth 100000 in
theorem c_X9_next {l : Launch} {E : Ev}  {g y j : Gd} {td : Nat → Int32} {am : Nat → Nat} {r : va_W} (hy : YI y) (hp : j 0 1 < 1000) : CT l E yX9_next cX9_next 1 (some .int) rmX9_next [.ref (am 0)] (wm E am g y j td ++ r) (IS (some (.int (mN y (j 0 1)))) (wm E am g y j td ++ r)) := by
  refine CT.of (lv := [(0, .ref (am 0))]) false (by decide +kernel) (by decide) (Nat.le_of_ble_eq_true rfl) rfl ?_
  obtain ⟨y00, y01, y02, y1, y2⟩ := id hy
  have q1 := y1 (j 0 1)
  refine wf_aload_n 0 dX9_next_0 rfl ?_
  refine wf_getf (C := RX9) (T := TX9) (N := 27) (v := .int (nI (j 0 1))) 0 19 in_X9 rfl rfl (by decide) fl_X9_77 rfl dX9_next_1 ?_
  refine wf_aload_n 0 dX9_next_4 rfl ?_
  refine wf_getf (C := RX9) (T := TX9) (N := 27) (v := .int (nI (y 0 1))) 0 18 in_X9 rfl rfl (by decide) fl_X9_70 rfl dX9_next_5 ?_
  refine wf_icmp_ge_n 23 dX9_next_8 (by decide) (by omega) (by omega) (fun c8 => ?_) (fun c8 => ?_)
  · refine wf_iconst (-1) dX9_next_23 (by decide) ?_
    exact wf_iret .int rfl (vp_nar_int _) ⟨rfl, rfl⟩ ⟨congrArg (fun z => some (Value.int z)) (by unfold mN; rw [if_neg (by omega)]), rfl⟩ dX9_next_24
  · refine wf_aload_n 0 dX9_next_11 rfl ?_
    refine wf_getf (C := RX9) (T := TX9) (N := 27) (v := .ref (am 11)) 0 14 in_X9 rfl rfl (by decide) fl_X9_40 rfl dX9_next_12 ?_
    refine wf_aload_n 0 dX9_next_15 rfl ?_
    refine wf_getf (C := RX9) (T := TX9) (N := 27) (v := .int (nI (j 0 1))) 0 19 in_X9 rfl rfl (by decide) fl_X9_77 rfl dX9_next_16 ?_
    refine wf_iald_n (nI (y 1 (j 0 1))) 11 rfl (by omega) (by decide) rfl dX9_next_19 ?_
    refine wf_goto 24 dX9_next_20 (by decide) ?_
    exact wf_iret .int rfl (vp_nar_int _) ⟨rfl, rfl⟩ ⟨congrArg (fun z => some (Value.int z)) (by unfold mN; rw [if_pos (by omega)]), rfl⟩ dX9_next_24
abbrev rmX9_kindOf : Room := { frames := 0, cells := 0, slots := 0, locals := 0 }
set_option maxHeartbeats 4000000 in
set_option maxRecDepth 100000 in
theorem c_X9_kindOf {l : Launch} {E : Ev} {r : va_W} {y : Gd} {p : Nat} (hy : YI y) : CT l E yX9_kindOf cX9_kindOf 1 (some .int) rmX9_kindOf [.int (mN y p)] (r) (IS (some (.int (eM (kixO (eLet y p))))) r) := by
  refine CT.of (lv := [(0, .int (mN y p))]) false (by decide +kernel) (by decide) (Nat.le_of_ble_eq_true rfl) rfl ?_
  obtain ⟨y00, y01, y02, y1, y2⟩ := id hy
  by_cases hp : p < y 0 1
  · refine wf_lvc [(0, .int (nI (y 1 p)))] (by rw [show mN y p = nI (y 1 p) from if_pos hp]) ?_
    have q1 := y1 p
    refine wf_iload_n 0 dX9_kindOf_0 rfl ?_
    by_cases tlo : y 1 p < 99
    · refine wf_tableOut 100 dX9_kindOf_1 (Or.inl (by rw [nI_toInt (by omega)]; omega)) (by decide) ?_
      refine wf_iconst (-1) dX9_kindOf_100 (by decide) ?_
      exact wf_iret .int rfl (vp_nar_int _) ⟨rfl, rfl⟩ ⟨congrArg (fun z => some (Value.int z)) (by rw [show eLet y p = y 1 p from if_pos hp]; unfold kixO; rw [if_neg (by omega), if_neg (by omega), if_neg (by omega), if_neg (by omega), if_neg (by omega), if_neg (by omega)]; rfl), rfl⟩ dX9_kindOf_101
    by_cases thi : 116 < y 1 p
    · refine wf_tableOut 100 dX9_kindOf_1 (Or.inr (by rw [nI_toInt (by omega)]; omega)) (by decide) ?_
      refine wf_iconst (-1) dX9_kindOf_100 (by decide) ?_
      exact wf_iret .int rfl (vp_nar_int _) ⟨rfl, rfl⟩ ⟨congrArg (fun z => some (Value.int z)) (by rw [show eLet y p = y 1 p from if_pos hp]; unfold kixO; rw [if_neg (by omega), if_neg (by omega), if_neg (by omega), if_neg (by omega), if_neg (by omega), if_neg (by omega)]; rfl), rfl⟩ dX9_kindOf_101
    have g99 := tlo
    by_cases s1_99 : y 1 p = 99
    · refine wf_tableIn 92 dX9_kindOf_1 (by rw [s1_99]; decide) (by rw [s1_99]; decide) (by rw [s1_99]; rfl) (by decide) ?_
      refine wf_iconst (nI 2) dX9_kindOf_92 (by decide) ?_
      exact wf_iret .int rfl (vp_nar_int _) ⟨rfl, rfl⟩ ⟨congrArg (fun z => some (Value.int z)) (by rw [show eLet y p = y 1 p from if_pos hp, s1_99]; rfl), rfl⟩ dX9_kindOf_93
    have g100 := k_next g99 s1_99
    by_cases s1_100 : y 1 p = 100
    · refine wf_tableIn 100 dX9_kindOf_1 (by rw [s1_100]; decide) (by rw [s1_100]; decide) (by rw [s1_100]; rfl) (by decide) ?_
      refine wf_iconst (-1) dX9_kindOf_100 (by decide) ?_
      exact wf_iret .int rfl (vp_nar_int _) ⟨rfl, rfl⟩ ⟨congrArg (fun z => some (Value.int z)) (by rw [show eLet y p = y 1 p from if_pos hp, s1_100]; rfl), rfl⟩ dX9_kindOf_101
    have g101 := k_next g100 s1_100
    by_cases s1_101 : y 1 p = 101
    · refine wf_tableIn 100 dX9_kindOf_1 (by rw [s1_101]; decide) (by rw [s1_101]; decide) (by rw [s1_101]; rfl) (by decide) ?_
      refine wf_iconst (-1) dX9_kindOf_100 (by decide) ?_
      exact wf_iret .int rfl (vp_nar_int _) ⟨rfl, rfl⟩ ⟨congrArg (fun z => some (Value.int z)) (by rw [show eLet y p = y 1 p from if_pos hp, s1_101]; rfl), rfl⟩ dX9_kindOf_101
    have g102 := k_next g101 s1_101
    by_cases s1_102 : y 1 p = 102
    · refine wf_tableIn 98 dX9_kindOf_1 (by rw [s1_102]; decide) (by rw [s1_102]; decide) (by rw [s1_102]; rfl) (by decide) ?_
      refine wf_iconst (nI 5) dX9_kindOf_98 (by decide) ?_
      exact wf_iret .int rfl (vp_nar_int _) ⟨rfl, rfl⟩ ⟨congrArg (fun z => some (Value.int z)) (by rw [show eLet y p = y 1 p from if_pos hp, s1_102]; rfl), rfl⟩ dX9_kindOf_99
    have g103 := k_next g102 s1_102
    by_cases s1_103 : y 1 p = 103
    · refine wf_tableIn 96 dX9_kindOf_1 (by rw [s1_103]; decide) (by rw [s1_103]; decide) (by rw [s1_103]; rfl) (by decide) ?_
      refine wf_iconst (nI 4) dX9_kindOf_96 (by decide) ?_
      exact wf_iret .int rfl (vp_nar_int _) ⟨rfl, rfl⟩ ⟨congrArg (fun z => some (Value.int z)) (by rw [show eLet y p = y 1 p from if_pos hp, s1_103]; rfl), rfl⟩ dX9_kindOf_97
    have g104 := k_next g103 s1_103
    by_cases s1_104 : y 1 p = 104
    · refine wf_tableIn 100 dX9_kindOf_1 (by rw [s1_104]; decide) (by rw [s1_104]; decide) (by rw [s1_104]; rfl) (by decide) ?_
      refine wf_iconst (-1) dX9_kindOf_100 (by decide) ?_
      exact wf_iret .int rfl (vp_nar_int _) ⟨rfl, rfl⟩ ⟨congrArg (fun z => some (Value.int z)) (by rw [show eLet y p = y 1 p from if_pos hp, s1_104]; rfl), rfl⟩ dX9_kindOf_101
    have g105 := k_next g104 s1_104
    by_cases s1_105 : y 1 p = 105
    · refine wf_tableIn 100 dX9_kindOf_1 (by rw [s1_105]; decide) (by rw [s1_105]; decide) (by rw [s1_105]; rfl) (by decide) ?_
      refine wf_iconst (-1) dX9_kindOf_100 (by decide) ?_
      exact wf_iret .int rfl (vp_nar_int _) ⟨rfl, rfl⟩ ⟨congrArg (fun z => some (Value.int z)) (by rw [show eLet y p = y 1 p from if_pos hp, s1_105]; rfl), rfl⟩ dX9_kindOf_101
    have g106 := k_next g105 s1_105
    by_cases s1_106 : y 1 p = 106
    · refine wf_tableIn 100 dX9_kindOf_1 (by rw [s1_106]; decide) (by rw [s1_106]; decide) (by rw [s1_106]; rfl) (by decide) ?_
      refine wf_iconst (-1) dX9_kindOf_100 (by decide) ?_
      exact wf_iret .int rfl (vp_nar_int _) ⟨rfl, rfl⟩ ⟨congrArg (fun z => some (Value.int z)) (by rw [show eLet y p = y 1 p from if_pos hp, s1_106]; rfl), rfl⟩ dX9_kindOf_101
    have g107 := k_next g106 s1_106
    by_cases s1_107 : y 1 p = 107
    · refine wf_tableIn 100 dX9_kindOf_1 (by rw [s1_107]; decide) (by rw [s1_107]; decide) (by rw [s1_107]; rfl) (by decide) ?_
      refine wf_iconst (-1) dX9_kindOf_100 (by decide) ?_
      exact wf_iret .int rfl (vp_nar_int _) ⟨rfl, rfl⟩ ⟨congrArg (fun z => some (Value.int z)) (by rw [show eLet y p = y 1 p from if_pos hp, s1_107]; rfl), rfl⟩ dX9_kindOf_101
    have g108 := k_next g107 s1_107
    by_cases s1_108 : y 1 p = 108
    · refine wf_tableIn 100 dX9_kindOf_1 (by rw [s1_108]; decide) (by rw [s1_108]; decide) (by rw [s1_108]; rfl) (by decide) ?_
      refine wf_iconst (-1) dX9_kindOf_100 (by decide) ?_
      exact wf_iret .int rfl (vp_nar_int _) ⟨rfl, rfl⟩ ⟨congrArg (fun z => some (Value.int z)) (by rw [show eLet y p = y 1 p from if_pos hp, s1_108]; rfl), rfl⟩ dX9_kindOf_101
    have g109 := k_next g108 s1_108
    by_cases s1_109 : y 1 p = 109
    · refine wf_tableIn 100 dX9_kindOf_1 (by rw [s1_109]; decide) (by rw [s1_109]; decide) (by rw [s1_109]; rfl) (by decide) ?_
      refine wf_iconst (-1) dX9_kindOf_100 (by decide) ?_
      exact wf_iret .int rfl (vp_nar_int _) ⟨rfl, rfl⟩ ⟨congrArg (fun z => some (Value.int z)) (by rw [show eLet y p = y 1 p from if_pos hp, s1_109]; rfl), rfl⟩ dX9_kindOf_101
    have g110 := k_next g109 s1_109
    by_cases s1_110 : y 1 p = 110
    · refine wf_tableIn 100 dX9_kindOf_1 (by rw [s1_110]; decide) (by rw [s1_110]; decide) (by rw [s1_110]; rfl) (by decide) ?_
      refine wf_iconst (-1) dX9_kindOf_100 (by decide) ?_
      exact wf_iret .int rfl (vp_nar_int _) ⟨rfl, rfl⟩ ⟨congrArg (fun z => some (Value.int z)) (by rw [show eLet y p = y 1 p from if_pos hp, s1_110]; rfl), rfl⟩ dX9_kindOf_101
    have g111 := k_next g110 s1_110
    by_cases s1_111 : y 1 p = 111
    · refine wf_tableIn 94 dX9_kindOf_1 (by rw [s1_111]; decide) (by rw [s1_111]; decide) (by rw [s1_111]; rfl) (by decide) ?_
      refine wf_iconst (nI 3) dX9_kindOf_94 (by decide) ?_
      exact wf_iret .int rfl (vp_nar_int _) ⟨rfl, rfl⟩ ⟨congrArg (fun z => some (Value.int z)) (by rw [show eLet y p = y 1 p from if_pos hp, s1_111]; rfl), rfl⟩ dX9_kindOf_95
    have g112 := k_next g111 s1_111
    by_cases s1_112 : y 1 p = 112
    · refine wf_tableIn 100 dX9_kindOf_1 (by rw [s1_112]; decide) (by rw [s1_112]; decide) (by rw [s1_112]; rfl) (by decide) ?_
      refine wf_iconst (-1) dX9_kindOf_100 (by decide) ?_
      exact wf_iret .int rfl (vp_nar_int _) ⟨rfl, rfl⟩ ⟨congrArg (fun z => some (Value.int z)) (by rw [show eLet y p = y 1 p from if_pos hp, s1_112]; rfl), rfl⟩ dX9_kindOf_101
    have g113 := k_next g112 s1_112
    by_cases s1_113 : y 1 p = 113
    · refine wf_tableIn 100 dX9_kindOf_1 (by rw [s1_113]; decide) (by rw [s1_113]; decide) (by rw [s1_113]; rfl) (by decide) ?_
      refine wf_iconst (-1) dX9_kindOf_100 (by decide) ?_
      exact wf_iret .int rfl (vp_nar_int _) ⟨rfl, rfl⟩ ⟨congrArg (fun z => some (Value.int z)) (by rw [show eLet y p = y 1 p from if_pos hp, s1_113]; rfl), rfl⟩ dX9_kindOf_101
    have g114 := k_next g113 s1_113
    by_cases s1_114 : y 1 p = 114
    · refine wf_tableIn 100 dX9_kindOf_1 (by rw [s1_114]; decide) (by rw [s1_114]; decide) (by rw [s1_114]; rfl) (by decide) ?_
      refine wf_iconst (-1) dX9_kindOf_100 (by decide) ?_
      exact wf_iret .int rfl (vp_nar_int _) ⟨rfl, rfl⟩ ⟨congrArg (fun z => some (Value.int z)) (by rw [show eLet y p = y 1 p from if_pos hp, s1_114]; rfl), rfl⟩ dX9_kindOf_101
    have g115 := k_next g114 s1_114
    by_cases s1_115 : y 1 p = 115
    · refine wf_tableIn 88 dX9_kindOf_1 (by rw [s1_115]; decide) (by rw [s1_115]; decide) (by rw [s1_115]; rfl) (by decide) ?_
      refine wf_iconst (nI 0) dX9_kindOf_88 (by decide) ?_
      exact wf_iret .int rfl (vp_nar_int _) ⟨rfl, rfl⟩ ⟨congrArg (fun z => some (Value.int z)) (by rw [show eLet y p = y 1 p from if_pos hp, s1_115]; rfl), rfl⟩ dX9_kindOf_89
    have g116 := k_next g115 s1_115
    by_cases s1_116 : y 1 p = 116
    · refine wf_tableIn 90 dX9_kindOf_1 (by rw [s1_116]; decide) (by rw [s1_116]; decide) (by rw [s1_116]; rfl) (by decide) ?_
      refine wf_iconst (nI 1) dX9_kindOf_90 (by decide) ?_
      exact wf_iret .int rfl (vp_nar_int _) ⟨rfl, rfl⟩ ⟨congrArg (fun z => some (Value.int z)) (by rw [show eLet y p = y 1 p from if_pos hp, s1_116]; rfl), rfl⟩ dX9_kindOf_91
    have g117 := k_next g116 s1_116
    exact absurd (Nat.lt_succ_of_le (Nat.le_of_not_lt thi)) g117
  · refine wf_lvc [(0, .int (-1))] (by rw [show mN y p = -1 from if_neg hp]) ?_
    refine wf_iload_n 0 dX9_kindOf_0 rfl ?_
    refine wf_tableOut 100 dX9_kindOf_1 (Or.inl (by decide)) (by decide) ?_
    refine wf_iconst (-1) dX9_kindOf_100 (by decide) ?_
    exact wf_iret .int rfl (vp_nar_int _) ⟨rfl, rfl⟩ ⟨congrArg (fun z => some (Value.int z)) (by rw [show eLet y p = 0 from if_neg hp]; rfl), rfl⟩ dX9_kindOf_101
abbrev rmX9_readsKind : Room := { frames := 1, cells := 0, slots := 0, locals := 20 }
set_option maxHeartbeats 4000000 in
set_option maxRecDepth 100000 in
theorem c_X9_readsKind {l : Launch} {E : Ev} {q : Nat} {g y j : Gd} {td : Nat → Int32} {am : Nat → Nat} {r : va_W} (hy : YI y) (hp : j 0 1 < 1000) (hq : q < 160) : CT l E yX9_readsKind cX9_readsKind 2 (some .boolean) rmX9_readsKind [.ref (am 0), .int (nI q)] (wm E am g y j td ++ r) (IS (some (.int (bI ((kixO (eLet y (j 0 1))).isSome)))) (wm E am g y (gs j 0 1 (j 0 1 + (kixO (eLet y (j 0 1))).isSome.toNat)) (upd td q (eM (kixO (eLet y (j 0 1))))) ++ r)) := by
  refine CT.of (lv := [(0, .ref (am 0)), (1, .int (nI q))]) false (by decide +kernel) (by decide) (Nat.le_of_ble_eq_true rfl) rfl ?_
  obtain ⟨y00, y01, y02, y1, y2⟩ := id hy
  refine wf_aload_n 0 dX9_readsKind_0 rfl ?_
  refine wf_getf (C := RX9) (T := TX9) (N := 27) (v := .ref (am 14)) 0 17 in_X9 rfl rfl (by decide) fl_X9_49 rfl dX9_readsKind_1 ?_
  refine wf_iload_n 1 dX9_readsKind_4 rfl ?_
  refine wf_aload_n 0 dX9_readsKind_5 rfl ?_
  refine wf_callVD (As := []) (rest := [.int (nI q), .ref (am 14)]) 0 (c_X9_next hy (show j 0 1 < 1000 by omega)) kV_X9_80 rfl (by decide) (by decide) (Nat.le_of_ble_eq_true rfl) rfl rfl rfl dX9_readsKind_6 ?_
  refine wf_top (y := .int (mN y (j 0 1))) rfl ?_
  refine wf_callSD (As := [.int (mN y (j 0 1))]) (rest := [.int (nI q), .ref (am 14)]) (c_X9_kindOf hy) kS_X9_84 rfl (by decide) (by decide) (Nat.le_of_ble_eq_true rfl) rfl dX9_readsKind_9 ?_
  refine wf_iast_n (wm E am g y j (upd td q (eM (kixO (eLet y (j 0 1))))) ++ r) 14 rfl (by omega) (by decide) (sf 14 (Nat.le_of_ble_eq_true rfl) (wm_sett q (eM (kixO (eLet y (j 0 1)))))) dX9_readsKind_12 ?_
  refine wf_aload_n 0 dX9_readsKind_13 rfl ?_
  refine wf_dup dX9_readsKind_14 rfl ?_
  refine wf_getf (C := RX9) (T := TX9) (N := 27) (v := .int (nI (j 0 1))) 0 19 in_X9 rfl rfl (by decide) fl_X9_77 rfl dX9_readsKind_15 ?_
  refine wf_aload_n 0 dX9_readsKind_18 rfl ?_
  refine wf_getf (C := RX9) (T := TX9) (N := 27) (v := .ref (am 14)) 0 17 in_X9 rfl rfl (by decide) fl_X9_49 rfl dX9_readsKind_19 ?_
  refine wf_iload_n 1 dX9_readsKind_22 rfl ?_
  refine wf_iald_n ((upd td q (eM (kixO (eLet y (j 0 1))))) q) 14 rfl (by omega) (by decide) rfl dX9_readsKind_23 ?_
  refine wf_top (y := .int (eM (kixO (eLet y (j 0 1))))) (by rw [upd_at]) ?_
  refine wf_if_ge 31 dX9_readsKind_24 (by decide) (fun c24 => ?_) (fun c24 => ?_)
  · refine wf_iconst (nI 1) dX9_readsKind_31 (by decide) ?_
    refine wf_iadd (nI ((j 0 1) + 1)) dX9_readsKind_32 (nI_add (j 0 1) 1) ?_
    refine wf_putf (C := RX9) (T := TX9) (N := 27) (ty := .int) 0 19 (wm E am g y (gs j 0 1 ((j 0 1) + 1)) (upd td q (eM (kixO (eLet y (j 0 1))))) ++ r) tyX9 in_X9 tyX9_ok nmX9 rfl rfl (by decide) fl_X9_77 rfl (by decide +kernel) (by rfl) rfl (Nat.le_of_ble_eq_true rfl) (sf 0 (Nat.le_of_ble_eq_true rfl) (wm_put19 ((j 0 1) + 1))) dX9_readsKind_33 ?_
    refine wf_aload_n 0 dX9_readsKind_36 rfl ?_
    refine wf_getf (C := RX9) (T := TX9) (N := 27) (v := .ref (am 14)) 0 17 in_X9 rfl rfl (by decide) fl_X9_49 rfl dX9_readsKind_37 ?_
    refine wf_iload_n 1 dX9_readsKind_40 rfl ?_
    refine wf_iald_n ((upd td q (eM (kixO (eLet y (j 0 1))))) q) 14 rfl (by omega) (by decide) rfl dX9_readsKind_41 ?_
    refine wf_top (y := .int (eM (kixO (eLet y (j 0 1))))) (by rw [upd_at]) ?_
    refine wf_if_lt 49 dX9_readsKind_42 (by decide) (fun c42 => ?_) (fun c42 => ?_)
    · refine wf_iconst (nI 0) dX9_readsKind_49 (by decide) ?_
      exact wf_iret .boolean rfl (by decide) ⟨rfl, rfl⟩ (absurd c42 (Int32.not_lt.mpr c24)) dX9_readsKind_50
    · refine wf_iconst (nI 1) dX9_readsKind_45 (by decide) ?_
      refine wf_goto 50 dX9_readsKind_46 (by decide) ?_
      exact wf_iret .boolean rfl (by decide) ⟨rfl, rfl⟩ ⟨congrArg (fun z => some (Value.int z)) (b1_one (eM_pos c42)), (by rw [eM_pos c42]; rfl)⟩ dX9_readsKind_50
  · refine wf_iconst (nI 0) dX9_readsKind_27 (by decide) ?_
    refine wf_goto 32 dX9_readsKind_28 (by decide) ?_
    refine wf_iadd (nI ((j 0 1) + 0)) dX9_readsKind_32 (nI_add (j 0 1) 0) ?_
    refine wf_putf (C := RX9) (T := TX9) (N := 27) (ty := .int) 0 19 (wm E am g y (gs j 0 1 ((j 0 1) + 0)) (upd td q (eM (kixO (eLet y (j 0 1))))) ++ r) tyX9 in_X9 tyX9_ok nmX9 rfl rfl (by decide) fl_X9_77 rfl (by decide +kernel) (by rfl) rfl (Nat.le_of_ble_eq_true rfl) (sf 0 (Nat.le_of_ble_eq_true rfl) (wm_put19 ((j 0 1) + 0))) dX9_readsKind_33 ?_
    refine wf_aload_n 0 dX9_readsKind_36 rfl ?_
    refine wf_getf (C := RX9) (T := TX9) (N := 27) (v := .ref (am 14)) 0 17 in_X9 rfl rfl (by decide) fl_X9_49 rfl dX9_readsKind_37 ?_
    refine wf_iload_n 1 dX9_readsKind_40 rfl ?_
    refine wf_iald_n ((upd td q (eM (kixO (eLet y (j 0 1))))) q) 14 rfl (by omega) (by decide) rfl dX9_readsKind_41 ?_
    refine wf_top (y := .int (eM (kixO (eLet y (j 0 1))))) (by rw [upd_at]) ?_
    refine wf_if_lt 49 dX9_readsKind_42 (by decide) (fun c42 => ?_) (fun c42 => ?_)
    · refine wf_iconst (nI 0) dX9_readsKind_49 (by decide) ?_
      exact wf_iret .boolean rfl (by decide) ⟨rfl, rfl⟩ ⟨congrArg (fun z => some (Value.int z)) (b1_zero (eM_neg.mp c42)), (by rw [eM_neg.mp c42]; rfl)⟩ dX9_readsKind_50
    · refine wf_iconst (nI 1) dX9_readsKind_45 (by decide) ?_
      refine wf_goto 50 dX9_readsKind_46 (by decide) ?_
      exact wf_iret .boolean rfl (by decide) ⟨rfl, rfl⟩ (absurd (Int32.not_lt.mp c42) c24) dX9_readsKind_50
abbrev rmX9_readsOnes : Room := { frames := 1, cells := 0, slots := 0, locals := 22 }
set_option maxHeartbeats 4000000 in
set_option maxRecDepth 100000 in
theorem c_X9_readsOnes {l : Launch} {E : Ev} {q n : Nat} {g y j : Gd} {td : Nat → Int32} {am : Nat → Nat} {r : va_W} (hy : YI y) (hp : j 0 1 < 900) (hq : q + n ≤ 160) (hn : n ≤ 4) : CT l E yX9_readsOnes cX9_readsOnes 4 (some .boolean) rmX9_readsOnes [.ref (am 0), .int (nI q), .int (nI n)] (wm E am g y j td ++ r) (IS (some (.int (bI (decide (mRun y (j 0 1) n = n))))) (wm E am g y (gs j 0 1 (j 0 1 + mRun y (j 0 1) n)) (mTd td q y (j 0 1) (mRun y (j 0 1) n)) ++ r)) := by
  refine CT.of (lv := [(0, .ref (am 0)), (1, .int (nI q)), (2, .int (nI n))]) false (by decide +kernel) (by decide) (Nat.le_of_ble_eq_true rfl) rfl ?_
  obtain ⟨y00, y01, y02, y1, y2⟩ := id hy
  refine wf_iconst (nI 0) dX9_readsOnes_0 (by decide) ?_
  refine wf_istore_n [(3, .int (nI 0)), (0, .ref (am 0)), (1, .int (nI q)), (2, .int (nI n))] dX9_readsOnes_1 rfl (by decide) rfl ?_
  have L2 : ∀ (fu2 : Nat) (k : Nat), n - k < fu2 → (k ≤ n) → (mRun y (j 0 1) k = k) → WF l E RX9 cX9_readsOnes 4 (some .boolean) rmX9_readsOnes false (fun _ => True) (QM E (wm E am g y j td ++ r) (IS (some (.int (bI (decide (mRun y (j 0 1) n = n))))) (wm E am g y (gs j 0 1 (j 0 1 + mRun y (j 0 1) n)) (mTd td q y (j 0 1) (mRun y (j 0 1) n)) ++ r)) rmX9_readsOnes) (wm E am g y j td ++ r) 0 0 2 [(3, .int (nI k)), (0, .ref (am 0)), (1, .int (nI q)), (2, .int (nI n))] [] (wm E am g y (gs j 0 1 (j 0 1 + k)) (mTd td q y (j 0 1) k) ++ r) := by
    intro fu2
    induction fu2 with
    | zero => intro k hn; exact absurd hn (Nat.not_lt_zero _)
    | succ fu2 ih2 =>
      intro k hn hk hr
      refine wf_iload_n 0 dX9_readsOnes_2 rfl ?_
      refine wf_iload_n 3 dX9_readsOnes_3 rfl ?_
      refine wf_icmp_ge_n 54 dX9_readsOnes_4 (by decide) (by omega) (by omega) (fun c4 => ?_) (fun c4 => ?_)
      · refine wf_iconst (nI 1) dX9_readsOnes_54 (by decide) ?_
        exact wf_iret .boolean rfl (by decide) ⟨rfl, rfl⟩ ⟨congrArg (fun z => some (Value.int z)) (b1_one (decide_eq_true (by rw [show n = k by omega]; exact hr))), (by rw [show mRun y (j 0 1) n = k by rw [show n = k by omega]; exact hr])⟩ dX9_readsOnes_55
      · refine wf_aload_n 1 dX9_readsOnes_7 rfl ?_
        refine wf_callVD (As := []) (rest := []) 0 (c_X9_next hy (show j 0 1 + k < 1000 by omega)) kV_X9_80 rfl (by decide) (by decide) (Nat.le_of_ble_eq_true rfl) rfl rfl rfl dX9_readsOnes_8 ?_
        refine wf_top (y := .int (mN y (j 0 1 + k))) rfl ?_
        refine wf_bipush (nI 48) dX9_readsOnes_11 (by decide) ?_
        refine wf_bipush (nI 57) dX9_readsOnes_13 (by decide) ?_
        refine wf_callSD (As := [.int (mN y (j 0 1 + k)), .int (nI 48), .int (nI 57)]) (rest := []) (c_X9_isIn) kS_X9_87 rfl (by decide) (by decide) (Nat.le_of_ble_eq_true rfl) rfl dX9_readsOnes_15 ?_
        refine wf_top (y := .int (bI (isDig (eLet y (j 0 1 + k))))) (by rw [mN_dig y1]) ?_
        refine wf_if_ne_b 23 dX9_readsOnes_18 (by decide) (fun c18 => ?_) (fun c18 => ?_)
        · refine wf_aload_n 1 dX9_readsOnes_23 rfl ?_
          refine wf_getf (C := RX9) (T := TX9) (N := 27) (v := .ref (am 14)) 0 17 in_X9 rfl rfl (by decide) fl_X9_49 rfl dX9_readsOnes_24 ?_
          refine wf_iload_n 2 dX9_readsOnes_27 rfl ?_
          refine wf_iload_n 0 dX9_readsOnes_28 rfl ?_
          refine wf_iadd (nI (q + k)) dX9_readsOnes_29 (nI_add q k) ?_
          refine wf_aload_n 1 dX9_readsOnes_30 rfl ?_
          refine wf_callVD (As := []) (rest := [.int (nI (q + k)), .ref (am 14)]) 0 (c_X9_next hy (show j 0 1 + k < 1000 by omega)) kV_X9_80 rfl (by decide) (by decide) (Nat.le_of_ble_eq_true rfl) rfl rfl rfl dX9_readsOnes_31 ?_
          refine wf_top (y := .int (mN y (j 0 1 + k))) rfl ?_
          refine wf_bipush (nI 48) dX9_readsOnes_34 (by decide) ?_
          refine wf_isub ((mN y (j 0 1 + k)) - (nI 48)) dX9_readsOnes_36 rfl ?_
          refine wf_top (y := .int (nI (eDg y (j 0 1 + k)))) (by rw [mN_d c18]) ?_
          refine wf_iast_n (wm E am g y (gs j 0 1 (j 0 1 + k)) (upd (mTd td q y (j 0 1) k) (q + k) (nI (eDg y (j 0 1 + k)))) ++ r) 14 rfl (by omega) (by decide) (sf 14 (Nat.le_of_ble_eq_true rfl) (wm_sett (q + k) (nI (eDg y (j 0 1 + k))))) dX9_readsOnes_37 ?_
          refine wf_aload_n 1 dX9_readsOnes_38 rfl ?_
          refine wf_dup dX9_readsOnes_39 rfl ?_
          refine wf_getf (C := RX9) (T := TX9) (N := 27) (v := .int (nI (j 0 1 + k))) 0 19 in_X9 rfl rfl (by decide) fl_X9_77 rfl dX9_readsOnes_40 ?_
          refine wf_iconst (nI 1) dX9_readsOnes_43 (by decide) ?_
          refine wf_iadd (nI ((j 0 1 + k) + 1)) dX9_readsOnes_44 (nI_add (j 0 1 + k) 1) ?_
          refine wf_putf (C := RX9) (T := TX9) (N := 27) (ty := .int) 0 19 (wm E am g y (gs (gs j 0 1 (j 0 1 + k)) 0 1 ((j 0 1 + k) + 1)) (upd (mTd td q y (j 0 1) k) (q + k) (nI (eDg y (j 0 1 + k)))) ++ r) tyX9 in_X9 tyX9_ok nmX9 rfl rfl (by decide) fl_X9_77 rfl (by decide +kernel) (by rfl) rfl (Nat.le_of_ble_eq_true rfl) (sf 0 (Nat.le_of_ble_eq_true rfl) (wm_put19 ((j 0 1 + k) + 1))) dX9_readsOnes_45 ?_
          refine wf_iinc (nI (k + 1)) 0 [(3, .int (nI (k + 1))), (0, .ref (am 0)), (1, .int (nI q)), (2, .int (nI n))] dX9_readsOnes_48 rfl (nI_1 k) (by decide) rfl ?_
          refine wf_goto 2 dX9_readsOnes_51 (by decide) ?_
          refine wf_sub (lv' := [(3, .int (nI (k + 1))), (0, .ref (am 0)), (1, .int (nI q)), (2, .int (nI n))]) [0, 1, 2, 3] rfl ?_
          refine wf_world (wm E am g y (gs j 0 1 (j 0 1 + (k + 1))) (mTd td q y (j 0 1) (k + 1)) ++ r) (by rw [gs_gs]; rfl) ?_
          exact ih2 (k + 1) (by omega) (by omega) (mRun_s hr c18)
        · refine wf_iconst (nI 0) dX9_readsOnes_21 (by decide) ?_
          exact wf_iret .boolean rfl (by decide) ⟨rfl, rfl⟩ ⟨congrArg (fun z => some (Value.int z)) (b1_zero (decide_eq_false (by rw [mRun_stop hr c18 n (by omega)]; omega))), (by rw [mRun_stop hr c18 n (by omega)])⟩ dX9_readsOnes_22
  refine wf_sub (lv' := [(3, .int (nI 0)), (0, .ref (am 0)), (1, .int (nI q)), (2, .int (nI n))]) [0, 1, 2, 3] rfl ?_
  refine wf_world (wm E am g y (gs j 0 1 (j 0 1 + 0)) (mTd td q y (j 0 1) 0) ++ r) (by rw [Nat.add_zero, gs_id]; rfl) ?_
  exact L2 _ 0 (Nat.lt_succ_self _) (Nat.zero_le _) rfl
abbrev rmX9_statement : Room := { frames := 2, cells := 0, slots := 0, locals := 45 }
set_option maxHeartbeats 4000000 in
set_option maxRecDepth 100000 in
theorem c_X9_statement {l : Launch} {E : Ev} {g y j : Gd} {td : Nat → Int32} {am : Nat → Nat} {r : va_W} (hy : YI y) (hp : j 0 1 ≤ 80) (hn : j 0 2 < 40) : CT l E yX9_statement cX9_statement 4 (some .boolean) rmX9_statement [.ref (am 0)] (wm E am g y j td ++ r) (fun v w2 => ∃ (ok : Bool) (j2 : Gd) (t2 : Nat → Int32), v = some (.int (bI ok)) ∧ w2 = wm E am g y j2 t2 ++ r ∧ SP y j j2 td t2 ok) := by
  refine CT.of (lv := [(0, .ref (am 0))]) false (by decide +kernel) (by decide) (Nat.le_of_ble_eq_true rfl) rfl ?_
  obtain ⟨y00, y01, y02, y1, y2⟩ := id hy
  have r1 := mRun_le y (j 0 1 + 1) 3
  have r2 := mRun_le y (j 0 1 + 1) 2
  have r3 := mRun_le y (j 0 1 + 1 + 1) 3
  refine wf_aload_n 0 dX9_statement_0 rfl ?_
  refine wf_callVD (As := []) (rest := []) 0 (c_X9_next hy (show j 0 1 < 1000 by omega)) kV_X9_80 rfl (by decide) (by decide) (Nat.le_of_ble_eq_true rfl) rfl rfl rfl dX9_statement_1 ?_
  refine wf_top (y := .int (mN y (j 0 1))) rfl ?_
  refine wf_istore_n [(1, .int (mN y (j 0 1))), (0, .ref (am 0))] dX9_statement_4 rfl (by decide) rfl ?_
  by_cases e119 : eLet y (j 0 1) = 119
  · refine wf_lvc [(1, .int (nI 119)), (0, .ref (am 0))] (by rw [(mN_eq y1 (by decide) (by decide)).mpr e119]) ?_
    refine wf_iload_n 0 dX9_statement_5 rfl ?_
    refine wf_bipush (nI 119) dX9_statement_6 (by decide) ?_
    refine wf_icmp_eq_n 31 dX9_statement_8 (by decide) (by omega) (by omega) (fun c8 => ?_) (fun c8 => ?_)
    · refine wf_aload_n 1 dX9_statement_31 rfl ?_
      refine wf_getf (C := RX9) (T := TX9) (N := 27) (v := .ref (am 12)) 0 15 in_X9 rfl rfl (by decide) fl_X9_43 rfl dX9_statement_32 ?_
      refine wf_aload_n 1 dX9_statement_35 rfl ?_
      refine wf_getf (C := RX9) (T := TX9) (N := 27) (v := .int (nI (j 0 2))) 0 20 in_X9 rfl rfl (by decide) fl_X9_91 rfl dX9_statement_36 ?_
      refine wf_iload_n 0 dX9_statement_39 rfl ?_
      refine wf_iast_n (wm E am g y (gs j 2 (j 0 2) 119) td ++ r) 12 rfl (by omega) (by decide) (sf 12 (Nat.le_of_ble_eq_true rfl) (wm_setj2 (j 0 2) 119)) dX9_statement_40 ?_
      refine wf_aload_n 1 dX9_statement_41 rfl ?_
      refine wf_getf (C := RX9) (T := TX9) (N := 27) (v := .ref (am 13)) 0 16 in_X9 rfl rfl (by decide) fl_X9_46 rfl dX9_statement_42 ?_
      refine wf_aload_n 1 dX9_statement_45 rfl ?_
      refine wf_getf (C := RX9) (T := TX9) (N := 27) (v := .int (nI (j 0 2))) 0 20 in_X9 rfl rfl (by decide) fl_X9_91 rfl dX9_statement_46 ?_
      refine wf_aload_n 1 dX9_statement_49 rfl ?_
      refine wf_getf (C := RX9) (T := TX9) (N := 27) (v := .int (nI (j 0 1))) 0 19 in_X9 rfl rfl (by decide) fl_X9_77 rfl dX9_statement_50 ?_
      refine wf_iast_n (wm E am g y (gs (gs j 2 (j 0 2) 119) 3 (j 0 2) (j 0 1)) td ++ r) 13 rfl (by omega) (by decide) (sf 13 (Nat.le_of_ble_eq_true rfl) (wm_setj3 (j 0 2) (j 0 1))) dX9_statement_53 ?_
      refine wf_aload_n 1 dX9_statement_54 rfl ?_
      refine wf_dup dX9_statement_55 rfl ?_
      refine wf_getf (C := RX9) (T := TX9) (N := 27) (v := .int (nI (j 0 1))) 0 19 in_X9 rfl rfl (by decide) fl_X9_77 rfl dX9_statement_56 ?_
      refine wf_iconst (nI 1) dX9_statement_59 (by decide) ?_
      refine wf_iadd (nI ((j 0 1) + 1)) dX9_statement_60 (nI_add (j 0 1) 1) ?_
      refine wf_putf (C := RX9) (T := TX9) (N := 27) (ty := .int) 0 19 (wm E am g y (gs (gs (gs j 2 (j 0 2) 119) 3 (j 0 2) (j 0 1)) 0 1 ((j 0 1) + 1)) td ++ r) tyX9 in_X9 tyX9_ok nmX9 rfl rfl (by decide) fl_X9_77 rfl (by decide +kernel) (by rfl) rfl (Nat.le_of_ble_eq_true rfl) (sf 0 (Nat.le_of_ble_eq_true rfl) (wm_put19 ((j 0 1) + 1))) dX9_statement_61 ?_
      refine wf_iconst (nI 4) dX9_statement_64 (by decide) ?_
      refine wf_aload_n 1 dX9_statement_65 rfl ?_
      refine wf_getf (C := RX9) (T := TX9) (N := 27) (v := .int (nI (j 0 2))) 0 20 in_X9 rfl rfl (by decide) fl_X9_91 rfl dX9_statement_66 ?_
      refine wf_imul (nI (4 * (j 0 2))) dX9_statement_69 (pk_mul 4 (j 0 2)) ?_
      refine wf_istore_n [(2, .int (nI (4 * (j 0 2)))), (1, .int (nI 119)), (0, .ref (am 0))] dX9_statement_70 rfl (by decide) rfl ?_
      refine wf_iload_n 1 dX9_statement_71 rfl ?_
      refine wf_bipush (nI 98) dX9_statement_72 (by decide) ?_
      refine wf_icmp_ne_n 104 dX9_statement_74 (by decide) (by omega) (by omega) (fun c74 => ?_) (fun c74 => ?_)
      · refine wf_aload_n 2 dX9_statement_104 rfl ?_
        refine wf_iload_n 0 dX9_statement_105 rfl ?_
        refine wf_iload_n 1 dX9_statement_106 rfl ?_
        refine wf_bipush (nI 105) dX9_statement_107 (by decide) ?_
        refine wf_icmp_ne_n 116 dX9_statement_109 (by decide) (by omega) (by omega) (fun c109 => ?_) (fun c109 => ?_)
        · refine wf_iconst (nI 3) dX9_statement_116 (by decide) ?_
          refine wf_callVD (As := [.int (nI (4 * (j 0 2))), .int (nI 3)]) (rest := []) 0 (c_X9_readsOnes hy (show (j 0 1) + 1 < 900 by omega) (by omega) (by decide)) kV_X9_98 rfl (by decide) (by decide) (Nat.le_of_ble_eq_true rfl) rfl rfl rfl dX9_statement_117 ?_
          refine wf_top (y := .int (bI (decide (mRun y ((j 0 1) + 1) 3 = 3)))) rfl ?_
          refine wf_world (wm E am g y (gs (gs (gs (gs j 2 (j 0 2) 119) 3 (j 0 2) (j 0 1)) 0 1 ((j 0 1) + 1)) 0 1 (((j 0 1) + 1) + mRun y ((j 0 1) + 1) 3)) (mTd td (4 * (j 0 2)) y ((j 0 1) + 1) (mRun y ((j 0 1) + 1) 3)) ++ r) rfl ?_
          refine wf_istore_n [(3, .int (bI (decide (mRun y ((j 0 1) + 1) 3 = 3)))), (2, .int (nI (4 * (j 0 2)))), (1, .int (nI 119)), (0, .ref (am 0))] dX9_statement_120 rfl (by decide) rfl ?_
          refine wf_iload_n 0 dX9_statement_121 rfl ?_
          refine wf_if_eq_b 134 dX9_statement_122 (by decide) (fun c122 => ?_) (fun c122 => ?_)
          · refine wf_iconst (nI 0) dX9_statement_134 (by decide) ?_
            refine wf_world (wm E am g y (jR j 119 (((j 0 1) + 1) + mRun y ((j 0 1) + 1) 3)) (mTd td (4 * (j 0 2)) y ((j 0 1) + 1) (mRun y ((j 0 1) + 1) 3)) ++ r) (by simp only [gs_gs]; rfl) ?_
            exact wf_iret .boolean rfl (by decide) ⟨rfl, rfl⟩ (⟨false, _, _, congrArg (fun z => some (Value.int z)) (b1_zero rfl), rfl, sp_wb e119 (Or.inl rfl) (fun z => of_decide_eq_false c122 z.1)⟩) dX9_statement_135
          · refine wf_aload_n 3 dX9_statement_125 rfl ?_
            refine wf_callVD (As := []) (rest := []) 0 (c_X9_next hy (show ((j 0 1) + 1) + mRun y ((j 0 1) + 1) 3 < 1000 by omega)) kV_X9_80 rfl (by decide) (by decide) (Nat.le_of_ble_eq_true rfl) rfl rfl rfl dX9_statement_126 ?_
            refine wf_top (y := .int (mN y (((j 0 1) + 1) + mRun y ((j 0 1) + 1) 3))) rfl ?_
            refine wf_bipush (nI 59) dX9_statement_129 (by decide) ?_
            refine wf_icmp_eq 136 dX9_statement_131 (by decide) (fun c131 => ?_) (fun c131 => ?_)
            · refine wf_aload_n 3 dX9_statement_136 rfl ?_
              refine wf_dup dX9_statement_137 rfl ?_
              refine wf_getf (C := RX9) (T := TX9) (N := 27) (v := .int (nI (((j 0 1) + 1) + mRun y ((j 0 1) + 1) 3))) 0 19 in_X9 rfl rfl (by decide) fl_X9_77 rfl dX9_statement_138 ?_
              refine wf_iconst (nI 1) dX9_statement_141 (by decide) ?_
              refine wf_iadd (nI ((((j 0 1) + 1) + mRun y ((j 0 1) + 1) 3) + 1)) dX9_statement_142 (nI_add (((j 0 1) + 1) + mRun y ((j 0 1) + 1) 3) 1) ?_
              refine wf_putf (C := RX9) (T := TX9) (N := 27) (ty := .int) 0 19 (wm E am g y (gs (gs (gs (gs (gs j 2 (j 0 2) 119) 3 (j 0 2) (j 0 1)) 0 1 ((j 0 1) + 1)) 0 1 (((j 0 1) + 1) + mRun y ((j 0 1) + 1) 3)) 0 1 ((((j 0 1) + 1) + mRun y ((j 0 1) + 1) 3) + 1)) (mTd td (4 * (j 0 2)) y ((j 0 1) + 1) (mRun y ((j 0 1) + 1) 3)) ++ r) tyX9 in_X9 tyX9_ok nmX9 rfl rfl (by decide) fl_X9_77 rfl (by decide +kernel) (by rfl) rfl (Nat.le_of_ble_eq_true rfl) (sf 0 (Nat.le_of_ble_eq_true rfl) (wm_put19 ((((j 0 1) + 1) + mRun y ((j 0 1) + 1) 3) + 1))) dX9_statement_143 ?_
              refine wf_iconst (nI 1) dX9_statement_146 (by decide) ?_
              refine wf_world (wm E am g y (jR j 119 ((((j 0 1) + 1) + mRun y ((j 0 1) + 1) 3) + 1)) (mTd td (4 * (j 0 2)) y ((j 0 1) + 1) (mRun y ((j 0 1) + 1) 3)) ++ r) (by simp only [gs_gs]; rfl) ?_
              exact wf_iret .boolean rfl (by decide) ⟨rfl, rfl⟩ (⟨true, _, _, congrArg (fun z => some (Value.int z)) (b1_one rfl), rfl, sp_w e119 (Or.inl rfl) (of_decide_eq_true c122) ((mN_eq y1 (by decide) (by decide)).mp c131)⟩) dX9_statement_147
            · refine wf_iconst (nI 0) dX9_statement_134 (by decide) ?_
              refine wf_world (wm E am g y (jR j 119 (((j 0 1) + 1) + mRun y ((j 0 1) + 1) 3)) (mTd td (4 * (j 0 2)) y ((j 0 1) + 1) (mRun y ((j 0 1) + 1) 3)) ++ r) (by simp only [gs_gs]; rfl) ?_
              exact wf_iret .boolean rfl (by decide) ⟨rfl, rfl⟩ (⟨false, _, _, congrArg (fun z => some (Value.int z)) (b1_zero rfl), rfl, sp_wb e119 (Or.inl rfl) (fun z => c131 ((mN_eq y1 (by decide) (by decide)).mpr z.2))⟩) dX9_statement_135
        · exact absurd c109 (by decide)
      · exact absurd c74 (by decide)
    · exact absurd c8 (by decide)
  by_cases e98 : eLet y (j 0 1) = 98
  · refine wf_lvc [(1, .int (nI 98)), (0, .ref (am 0))] (by rw [(mN_eq y1 (by decide) (by decide)).mpr e98]) ?_
    refine wf_iload_n 0 dX9_statement_5 rfl ?_
    refine wf_bipush (nI 119) dX9_statement_6 (by decide) ?_
    refine wf_icmp_eq_n 31 dX9_statement_8 (by decide) (by omega) (by omega) (fun c8 => ?_) (fun c8 => ?_)
    · exact absurd c8 (by decide)
    · refine wf_iload_n 0 dX9_statement_11 rfl ?_
      refine wf_bipush (nI 98) dX9_statement_12 (by decide) ?_
      refine wf_icmp_eq_n 31 dX9_statement_14 (by decide) (by omega) (by omega) (fun c14 => ?_) (fun c14 => ?_)
      · refine wf_aload_n 1 dX9_statement_31 rfl ?_
        refine wf_getf (C := RX9) (T := TX9) (N := 27) (v := .ref (am 12)) 0 15 in_X9 rfl rfl (by decide) fl_X9_43 rfl dX9_statement_32 ?_
        refine wf_aload_n 1 dX9_statement_35 rfl ?_
        refine wf_getf (C := RX9) (T := TX9) (N := 27) (v := .int (nI (j 0 2))) 0 20 in_X9 rfl rfl (by decide) fl_X9_91 rfl dX9_statement_36 ?_
        refine wf_iload_n 0 dX9_statement_39 rfl ?_
        refine wf_iast_n (wm E am g y (gs j 2 (j 0 2) 98) td ++ r) 12 rfl (by omega) (by decide) (sf 12 (Nat.le_of_ble_eq_true rfl) (wm_setj2 (j 0 2) 98)) dX9_statement_40 ?_
        refine wf_aload_n 1 dX9_statement_41 rfl ?_
        refine wf_getf (C := RX9) (T := TX9) (N := 27) (v := .ref (am 13)) 0 16 in_X9 rfl rfl (by decide) fl_X9_46 rfl dX9_statement_42 ?_
        refine wf_aload_n 1 dX9_statement_45 rfl ?_
        refine wf_getf (C := RX9) (T := TX9) (N := 27) (v := .int (nI (j 0 2))) 0 20 in_X9 rfl rfl (by decide) fl_X9_91 rfl dX9_statement_46 ?_
        refine wf_aload_n 1 dX9_statement_49 rfl ?_
        refine wf_getf (C := RX9) (T := TX9) (N := 27) (v := .int (nI (j 0 1))) 0 19 in_X9 rfl rfl (by decide) fl_X9_77 rfl dX9_statement_50 ?_
        refine wf_iast_n (wm E am g y (gs (gs j 2 (j 0 2) 98) 3 (j 0 2) (j 0 1)) td ++ r) 13 rfl (by omega) (by decide) (sf 13 (Nat.le_of_ble_eq_true rfl) (wm_setj3 (j 0 2) (j 0 1))) dX9_statement_53 ?_
        refine wf_aload_n 1 dX9_statement_54 rfl ?_
        refine wf_dup dX9_statement_55 rfl ?_
        refine wf_getf (C := RX9) (T := TX9) (N := 27) (v := .int (nI (j 0 1))) 0 19 in_X9 rfl rfl (by decide) fl_X9_77 rfl dX9_statement_56 ?_
        refine wf_iconst (nI 1) dX9_statement_59 (by decide) ?_
        refine wf_iadd (nI ((j 0 1) + 1)) dX9_statement_60 (nI_add (j 0 1) 1) ?_
        refine wf_putf (C := RX9) (T := TX9) (N := 27) (ty := .int) 0 19 (wm E am g y (gs (gs (gs j 2 (j 0 2) 98) 3 (j 0 2) (j 0 1)) 0 1 ((j 0 1) + 1)) td ++ r) tyX9 in_X9 tyX9_ok nmX9 rfl rfl (by decide) fl_X9_77 rfl (by decide +kernel) (by rfl) rfl (Nat.le_of_ble_eq_true rfl) (sf 0 (Nat.le_of_ble_eq_true rfl) (wm_put19 ((j 0 1) + 1))) dX9_statement_61 ?_
        refine wf_iconst (nI 4) dX9_statement_64 (by decide) ?_
        refine wf_aload_n 1 dX9_statement_65 rfl ?_
        refine wf_getf (C := RX9) (T := TX9) (N := 27) (v := .int (nI (j 0 2))) 0 20 in_X9 rfl rfl (by decide) fl_X9_91 rfl dX9_statement_66 ?_
        refine wf_imul (nI (4 * (j 0 2))) dX9_statement_69 (pk_mul 4 (j 0 2)) ?_
        refine wf_istore_n [(2, .int (nI (4 * (j 0 2)))), (1, .int (nI 98)), (0, .ref (am 0))] dX9_statement_70 rfl (by decide) rfl ?_
        refine wf_iload_n 1 dX9_statement_71 rfl ?_
        refine wf_bipush (nI 98) dX9_statement_72 (by decide) ?_
        refine wf_icmp_ne_n 104 dX9_statement_74 (by decide) (by omega) (by omega) (fun c74 => ?_) (fun c74 => ?_)
        · exact absurd c74 (by decide)
        · refine wf_aload_n 2 dX9_statement_77 rfl ?_
          refine wf_iload_n 0 dX9_statement_78 rfl ?_
          refine wf_callVD (As := [.int (nI (4 * (j 0 2)))]) (rest := []) 0 (c_X9_readsKind hy (show (j 0 1) + 1 < 1000 by omega) (by omega)) kV_X9_94 rfl (by decide) (by decide) (Nat.le_of_ble_eq_true rfl) rfl rfl rfl dX9_statement_79 ?_
          refine wf_top (y := .int (bI ((kixO (eLet y ((j 0 1) + 1))).isSome))) rfl ?_
          refine wf_world (wm E am g y (gs (gs (gs (gs j 2 (j 0 2) 98) 3 (j 0 2) (j 0 1)) 0 1 ((j 0 1) + 1)) 0 1 (((j 0 1) + 1) + (kixO (eLet y ((j 0 1) + 1))).isSome.toNat)) (upd td (4 * (j 0 2)) (eM (kixO (eLet y ((j 0 1) + 1))))) ++ r) rfl ?_
          refine wf_if_eq_b 100 dX9_statement_82 (by decide) (fun c82 => ?_) (fun c82 => ?_)
          · refine wf_world (wm E am g y (gs (gs (gs (gs j 2 (j 0 2) 98) 3 (j 0 2) (j 0 1)) 0 1 ((j 0 1) + 1)) 0 1 ((j 0 1) + 1)) (upd td (4 * (j 0 2)) (eM (kixO (eLet y ((j 0 1) + 1))))) ++ r) (by rw [c82]; rfl) ?_
            refine wf_iconst (nI 0) dX9_statement_100 (by decide) ?_
            refine wf_goto 120 dX9_statement_101 (by decide) ?_
            refine wf_istore_n [(3, .int (nI 0)), (2, .int (nI (4 * (j 0 2)))), (1, .int (nI 98)), (0, .ref (am 0))] dX9_statement_120 rfl (by decide) rfl ?_
            refine wf_iload_n 0 dX9_statement_121 rfl ?_
            refine wf_if_eq_n 134 dX9_statement_122 (by decide) (by decide) (fun c122 => ?_) (fun c122 => ?_)
            · refine wf_iconst (nI 0) dX9_statement_134 (by decide) ?_
              refine wf_world (wm E am g y (jR j 98 ((j 0 1) + 1)) (upd td (4 * (j 0 2)) (eM (kixO (eLet y ((j 0 1) + 1))))) ++ r) (by simp only [gs_gs]; rfl) ?_
              exact wf_iret .boolean rfl (by decide) ⟨rfl, rfl⟩ (⟨false, _, _, congrArg (fun z => some (Value.int z)) (b1_zero rfl), rfl, sp_bk e98 c82⟩) dX9_statement_135
            · exact absurd rfl c122
          · refine wf_world (wm E am g y (gs (gs (gs (gs j 2 (j 0 2) 98) 3 (j 0 2) (j 0 1)) 0 1 ((j 0 1) + 1)) 0 1 ((j 0 1) + 1 + 1)) (upd td (4 * (j 0 2)) (eM (kixO (eLet y ((j 0 1) + 1))))) ++ r) (by rw [c82]; rfl) ?_
            refine wf_aload_n 2 dX9_statement_85 rfl ?_
            refine wf_iload_n 0 dX9_statement_86 rfl ?_
            refine wf_iconst (nI 1) dX9_statement_87 (by decide) ?_
            refine wf_iadd (nI ((4 * (j 0 2)) + 1)) dX9_statement_88 (nI_add (4 * (j 0 2)) 1) ?_
            refine wf_iconst (nI 3) dX9_statement_89 (by decide) ?_
            refine wf_callVD (As := [.int (nI ((4 * (j 0 2)) + 1)), .int (nI 3)]) (rest := []) 0 (c_X9_readsOnes hy (show (j 0 1) + 1 + 1 < 900 by omega) (by omega) (by decide)) kV_X9_98 rfl (by decide) (by decide) (Nat.le_of_ble_eq_true rfl) rfl rfl rfl dX9_statement_90 ?_
            refine wf_top (y := .int (bI (decide (mRun y ((j 0 1) + 1 + 1) 3 = 3)))) rfl ?_
            refine wf_world (wm E am g y (gs (gs (gs (gs (gs j 2 (j 0 2) 98) 3 (j 0 2) (j 0 1)) 0 1 ((j 0 1) + 1)) 0 1 ((j 0 1) + 1 + 1)) 0 1 (((j 0 1) + 1 + 1) + mRun y ((j 0 1) + 1 + 1) 3)) (mTd (upd td (4 * (j 0 2)) (eM (kixO (eLet y ((j 0 1) + 1))))) ((4 * (j 0 2)) + 1) y ((j 0 1) + 1 + 1) (mRun y ((j 0 1) + 1 + 1) 3)) ++ r) rfl ?_
            refine wf_if_eq_b 100 dX9_statement_93 (by decide) (fun c93 => ?_) (fun c93 => ?_)
            · refine wf_iconst (nI 0) dX9_statement_100 (by decide) ?_
              refine wf_goto 120 dX9_statement_101 (by decide) ?_
              refine wf_istore_n [(3, .int (nI 0)), (2, .int (nI (4 * (j 0 2)))), (1, .int (nI 98)), (0, .ref (am 0))] dX9_statement_120 rfl (by decide) rfl ?_
              refine wf_iload_n 0 dX9_statement_121 rfl ?_
              refine wf_if_eq_n 134 dX9_statement_122 (by decide) (by decide) (fun c122 => ?_) (fun c122 => ?_)
              · refine wf_iconst (nI 0) dX9_statement_134 (by decide) ?_
                refine wf_world (wm E am g y (jR j 98 (((j 0 1) + 1 + 1) + mRun y ((j 0 1) + 1 + 1) 3)) (mTd (upd td (4 * (j 0 2)) (eM (kixO (eLet y ((j 0 1) + 1))))) ((4 * (j 0 2)) + 1) y ((j 0 1) + 1 + 1) (mRun y ((j 0 1) + 1 + 1) 3)) ++ r) (by simp only [gs_gs]; rfl) ?_
                exact wf_iret .boolean rfl (by decide) ⟨rfl, rfl⟩ (⟨false, _, _, congrArg (fun z => some (Value.int z)) (b1_zero rfl), rfl, sp_bb e98 c82 (fun z => of_decide_eq_false c93 z.1)⟩) dX9_statement_135
              · exact absurd rfl c122
            · refine wf_iconst (nI 1) dX9_statement_96 (by decide) ?_
              refine wf_goto 120 dX9_statement_97 (by decide) ?_
              refine wf_istore_n [(3, .int (nI 1)), (2, .int (nI (4 * (j 0 2)))), (1, .int (nI 98)), (0, .ref (am 0))] dX9_statement_120 rfl (by decide) rfl ?_
              refine wf_iload_n 0 dX9_statement_121 rfl ?_
              refine wf_if_eq_n 134 dX9_statement_122 (by decide) (by decide) (fun c122 => ?_) (fun c122 => ?_)
              · exact absurd c122 (by decide)
              · refine wf_aload_n 3 dX9_statement_125 rfl ?_
                refine wf_callVD (As := []) (rest := []) 0 (c_X9_next hy (show ((j 0 1) + 1 + 1) + mRun y ((j 0 1) + 1 + 1) 3 < 1000 by omega)) kV_X9_80 rfl (by decide) (by decide) (Nat.le_of_ble_eq_true rfl) rfl rfl rfl dX9_statement_126 ?_
                refine wf_top (y := .int (mN y (((j 0 1) + 1 + 1) + mRun y ((j 0 1) + 1 + 1) 3))) rfl ?_
                refine wf_bipush (nI 59) dX9_statement_129 (by decide) ?_
                refine wf_icmp_eq 136 dX9_statement_131 (by decide) (fun c131 => ?_) (fun c131 => ?_)
                · refine wf_aload_n 3 dX9_statement_136 rfl ?_
                  refine wf_dup dX9_statement_137 rfl ?_
                  refine wf_getf (C := RX9) (T := TX9) (N := 27) (v := .int (nI (((j 0 1) + 1 + 1) + mRun y ((j 0 1) + 1 + 1) 3))) 0 19 in_X9 rfl rfl (by decide) fl_X9_77 rfl dX9_statement_138 ?_
                  refine wf_iconst (nI 1) dX9_statement_141 (by decide) ?_
                  refine wf_iadd (nI ((((j 0 1) + 1 + 1) + mRun y ((j 0 1) + 1 + 1) 3) + 1)) dX9_statement_142 (nI_add (((j 0 1) + 1 + 1) + mRun y ((j 0 1) + 1 + 1) 3) 1) ?_
                  refine wf_putf (C := RX9) (T := TX9) (N := 27) (ty := .int) 0 19 (wm E am g y (gs (gs (gs (gs (gs (gs j 2 (j 0 2) 98) 3 (j 0 2) (j 0 1)) 0 1 ((j 0 1) + 1)) 0 1 ((j 0 1) + 1 + 1)) 0 1 (((j 0 1) + 1 + 1) + mRun y ((j 0 1) + 1 + 1) 3)) 0 1 ((((j 0 1) + 1 + 1) + mRun y ((j 0 1) + 1 + 1) 3) + 1)) (mTd (upd td (4 * (j 0 2)) (eM (kixO (eLet y ((j 0 1) + 1))))) ((4 * (j 0 2)) + 1) y ((j 0 1) + 1 + 1) (mRun y ((j 0 1) + 1 + 1) 3)) ++ r) tyX9 in_X9 tyX9_ok nmX9 rfl rfl (by decide) fl_X9_77 rfl (by decide +kernel) (by rfl) rfl (Nat.le_of_ble_eq_true rfl) (sf 0 (Nat.le_of_ble_eq_true rfl) (wm_put19 ((((j 0 1) + 1 + 1) + mRun y ((j 0 1) + 1 + 1) 3) + 1))) dX9_statement_143 ?_
                  refine wf_iconst (nI 1) dX9_statement_146 (by decide) ?_
                  refine wf_world (wm E am g y (jR j 98 ((((j 0 1) + 1 + 1) + mRun y ((j 0 1) + 1 + 1) 3) + 1)) (mTd (upd td (4 * (j 0 2)) (eM (kixO (eLet y ((j 0 1) + 1))))) ((4 * (j 0 2)) + 1) y ((j 0 1) + 1 + 1) (mRun y ((j 0 1) + 1 + 1) 3)) ++ r) (by simp only [gs_gs]; rfl) ?_
                  exact wf_iret .boolean rfl (by decide) ⟨rfl, rfl⟩ (⟨true, _, _, congrArg (fun z => some (Value.int z)) (b1_one rfl), rfl, sp_b e98 c82 (of_decide_eq_true c93) ((mN_eq y1 (by decide) (by decide)).mp c131)⟩) dX9_statement_147
                · refine wf_iconst (nI 0) dX9_statement_134 (by decide) ?_
                  refine wf_world (wm E am g y (jR j 98 (((j 0 1) + 1 + 1) + mRun y ((j 0 1) + 1 + 1) 3)) (mTd (upd td (4 * (j 0 2)) (eM (kixO (eLet y ((j 0 1) + 1))))) ((4 * (j 0 2)) + 1) y ((j 0 1) + 1 + 1) (mRun y ((j 0 1) + 1 + 1) 3)) ++ r) (by simp only [gs_gs]; rfl) ?_
                  exact wf_iret .boolean rfl (by decide) ⟨rfl, rfl⟩ (⟨false, _, _, congrArg (fun z => some (Value.int z)) (b1_zero rfl), rfl, sp_bb e98 c82 (fun z => c131 ((mN_eq y1 (by decide) (by decide)).mpr z.2))⟩) dX9_statement_135
      · exact absurd c14 (by decide)
  by_cases e105 : eLet y (j 0 1) = 105
  · refine wf_lvc [(1, .int (nI 105)), (0, .ref (am 0))] (by rw [(mN_eq y1 (by decide) (by decide)).mpr e105]) ?_
    refine wf_iload_n 0 dX9_statement_5 rfl ?_
    refine wf_bipush (nI 119) dX9_statement_6 (by decide) ?_
    refine wf_icmp_eq_n 31 dX9_statement_8 (by decide) (by omega) (by omega) (fun c8 => ?_) (fun c8 => ?_)
    · exact absurd c8 (by decide)
    · refine wf_iload_n 0 dX9_statement_11 rfl ?_
      refine wf_bipush (nI 98) dX9_statement_12 (by decide) ?_
      refine wf_icmp_eq_n 31 dX9_statement_14 (by decide) (by omega) (by omega) (fun c14 => ?_) (fun c14 => ?_)
      · exact absurd c14 (by decide)
      · refine wf_iload_n 0 dX9_statement_17 rfl ?_
        refine wf_bipush (nI 105) dX9_statement_18 (by decide) ?_
        refine wf_icmp_eq_n 31 dX9_statement_20 (by decide) (by omega) (by omega) (fun c20 => ?_) (fun c20 => ?_)
        · refine wf_aload_n 1 dX9_statement_31 rfl ?_
          refine wf_getf (C := RX9) (T := TX9) (N := 27) (v := .ref (am 12)) 0 15 in_X9 rfl rfl (by decide) fl_X9_43 rfl dX9_statement_32 ?_
          refine wf_aload_n 1 dX9_statement_35 rfl ?_
          refine wf_getf (C := RX9) (T := TX9) (N := 27) (v := .int (nI (j 0 2))) 0 20 in_X9 rfl rfl (by decide) fl_X9_91 rfl dX9_statement_36 ?_
          refine wf_iload_n 0 dX9_statement_39 rfl ?_
          refine wf_iast_n (wm E am g y (gs j 2 (j 0 2) 105) td ++ r) 12 rfl (by omega) (by decide) (sf 12 (Nat.le_of_ble_eq_true rfl) (wm_setj2 (j 0 2) 105)) dX9_statement_40 ?_
          refine wf_aload_n 1 dX9_statement_41 rfl ?_
          refine wf_getf (C := RX9) (T := TX9) (N := 27) (v := .ref (am 13)) 0 16 in_X9 rfl rfl (by decide) fl_X9_46 rfl dX9_statement_42 ?_
          refine wf_aload_n 1 dX9_statement_45 rfl ?_
          refine wf_getf (C := RX9) (T := TX9) (N := 27) (v := .int (nI (j 0 2))) 0 20 in_X9 rfl rfl (by decide) fl_X9_91 rfl dX9_statement_46 ?_
          refine wf_aload_n 1 dX9_statement_49 rfl ?_
          refine wf_getf (C := RX9) (T := TX9) (N := 27) (v := .int (nI (j 0 1))) 0 19 in_X9 rfl rfl (by decide) fl_X9_77 rfl dX9_statement_50 ?_
          refine wf_iast_n (wm E am g y (gs (gs j 2 (j 0 2) 105) 3 (j 0 2) (j 0 1)) td ++ r) 13 rfl (by omega) (by decide) (sf 13 (Nat.le_of_ble_eq_true rfl) (wm_setj3 (j 0 2) (j 0 1))) dX9_statement_53 ?_
          refine wf_aload_n 1 dX9_statement_54 rfl ?_
          refine wf_dup dX9_statement_55 rfl ?_
          refine wf_getf (C := RX9) (T := TX9) (N := 27) (v := .int (nI (j 0 1))) 0 19 in_X9 rfl rfl (by decide) fl_X9_77 rfl dX9_statement_56 ?_
          refine wf_iconst (nI 1) dX9_statement_59 (by decide) ?_
          refine wf_iadd (nI ((j 0 1) + 1)) dX9_statement_60 (nI_add (j 0 1) 1) ?_
          refine wf_putf (C := RX9) (T := TX9) (N := 27) (ty := .int) 0 19 (wm E am g y (gs (gs (gs j 2 (j 0 2) 105) 3 (j 0 2) (j 0 1)) 0 1 ((j 0 1) + 1)) td ++ r) tyX9 in_X9 tyX9_ok nmX9 rfl rfl (by decide) fl_X9_77 rfl (by decide +kernel) (by rfl) rfl (Nat.le_of_ble_eq_true rfl) (sf 0 (Nat.le_of_ble_eq_true rfl) (wm_put19 ((j 0 1) + 1))) dX9_statement_61 ?_
          refine wf_iconst (nI 4) dX9_statement_64 (by decide) ?_
          refine wf_aload_n 1 dX9_statement_65 rfl ?_
          refine wf_getf (C := RX9) (T := TX9) (N := 27) (v := .int (nI (j 0 2))) 0 20 in_X9 rfl rfl (by decide) fl_X9_91 rfl dX9_statement_66 ?_
          refine wf_imul (nI (4 * (j 0 2))) dX9_statement_69 (pk_mul 4 (j 0 2)) ?_
          refine wf_istore_n [(2, .int (nI (4 * (j 0 2)))), (1, .int (nI 105)), (0, .ref (am 0))] dX9_statement_70 rfl (by decide) rfl ?_
          refine wf_iload_n 1 dX9_statement_71 rfl ?_
          refine wf_bipush (nI 98) dX9_statement_72 (by decide) ?_
          refine wf_icmp_ne_n 104 dX9_statement_74 (by decide) (by omega) (by omega) (fun c74 => ?_) (fun c74 => ?_)
          · refine wf_aload_n 2 dX9_statement_104 rfl ?_
            refine wf_iload_n 0 dX9_statement_105 rfl ?_
            refine wf_iload_n 1 dX9_statement_106 rfl ?_
            refine wf_bipush (nI 105) dX9_statement_107 (by decide) ?_
            refine wf_icmp_ne_n 116 dX9_statement_109 (by decide) (by omega) (by omega) (fun c109 => ?_) (fun c109 => ?_)
            · exact absurd c109 (by decide)
            · refine wf_iconst (nI 2) dX9_statement_112 (by decide) ?_
              refine wf_goto 117 dX9_statement_113 (by decide) ?_
              refine wf_callVD (As := [.int (nI (4 * (j 0 2))), .int (nI 2)]) (rest := []) 0 (c_X9_readsOnes hy (show (j 0 1) + 1 < 900 by omega) (by omega) (by decide)) kV_X9_98 rfl (by decide) (by decide) (Nat.le_of_ble_eq_true rfl) rfl rfl rfl dX9_statement_117 ?_
              refine wf_top (y := .int (bI (decide (mRun y ((j 0 1) + 1) 2 = 2)))) rfl ?_
              refine wf_world (wm E am g y (gs (gs (gs (gs j 2 (j 0 2) 105) 3 (j 0 2) (j 0 1)) 0 1 ((j 0 1) + 1)) 0 1 (((j 0 1) + 1) + mRun y ((j 0 1) + 1) 2)) (mTd td (4 * (j 0 2)) y ((j 0 1) + 1) (mRun y ((j 0 1) + 1) 2)) ++ r) rfl ?_
              refine wf_istore_n [(3, .int (bI (decide (mRun y ((j 0 1) + 1) 2 = 2)))), (2, .int (nI (4 * (j 0 2)))), (1, .int (nI 105)), (0, .ref (am 0))] dX9_statement_120 rfl (by decide) rfl ?_
              refine wf_iload_n 0 dX9_statement_121 rfl ?_
              refine wf_if_eq_b 134 dX9_statement_122 (by decide) (fun c122 => ?_) (fun c122 => ?_)
              · refine wf_iconst (nI 0) dX9_statement_134 (by decide) ?_
                refine wf_world (wm E am g y (jR j 105 (((j 0 1) + 1) + mRun y ((j 0 1) + 1) 2)) (mTd td (4 * (j 0 2)) y ((j 0 1) + 1) (mRun y ((j 0 1) + 1) 2)) ++ r) (by simp only [gs_gs]; rfl) ?_
                exact wf_iret .boolean rfl (by decide) ⟨rfl, rfl⟩ (⟨false, _, _, congrArg (fun z => some (Value.int z)) (b1_zero rfl), rfl, sp_ib e105 (fun z => of_decide_eq_false c122 z.1)⟩) dX9_statement_135
              · refine wf_aload_n 3 dX9_statement_125 rfl ?_
                refine wf_callVD (As := []) (rest := []) 0 (c_X9_next hy (show ((j 0 1) + 1) + mRun y ((j 0 1) + 1) 2 < 1000 by omega)) kV_X9_80 rfl (by decide) (by decide) (Nat.le_of_ble_eq_true rfl) rfl rfl rfl dX9_statement_126 ?_
                refine wf_top (y := .int (mN y (((j 0 1) + 1) + mRun y ((j 0 1) + 1) 2))) rfl ?_
                refine wf_bipush (nI 59) dX9_statement_129 (by decide) ?_
                refine wf_icmp_eq 136 dX9_statement_131 (by decide) (fun c131 => ?_) (fun c131 => ?_)
                · refine wf_aload_n 3 dX9_statement_136 rfl ?_
                  refine wf_dup dX9_statement_137 rfl ?_
                  refine wf_getf (C := RX9) (T := TX9) (N := 27) (v := .int (nI (((j 0 1) + 1) + mRun y ((j 0 1) + 1) 2))) 0 19 in_X9 rfl rfl (by decide) fl_X9_77 rfl dX9_statement_138 ?_
                  refine wf_iconst (nI 1) dX9_statement_141 (by decide) ?_
                  refine wf_iadd (nI ((((j 0 1) + 1) + mRun y ((j 0 1) + 1) 2) + 1)) dX9_statement_142 (nI_add (((j 0 1) + 1) + mRun y ((j 0 1) + 1) 2) 1) ?_
                  refine wf_putf (C := RX9) (T := TX9) (N := 27) (ty := .int) 0 19 (wm E am g y (gs (gs (gs (gs (gs j 2 (j 0 2) 105) 3 (j 0 2) (j 0 1)) 0 1 ((j 0 1) + 1)) 0 1 (((j 0 1) + 1) + mRun y ((j 0 1) + 1) 2)) 0 1 ((((j 0 1) + 1) + mRun y ((j 0 1) + 1) 2) + 1)) (mTd td (4 * (j 0 2)) y ((j 0 1) + 1) (mRun y ((j 0 1) + 1) 2)) ++ r) tyX9 in_X9 tyX9_ok nmX9 rfl rfl (by decide) fl_X9_77 rfl (by decide +kernel) (by rfl) rfl (Nat.le_of_ble_eq_true rfl) (sf 0 (Nat.le_of_ble_eq_true rfl) (wm_put19 ((((j 0 1) + 1) + mRun y ((j 0 1) + 1) 2) + 1))) dX9_statement_143 ?_
                  refine wf_iconst (nI 1) dX9_statement_146 (by decide) ?_
                  refine wf_world (wm E am g y (jR j 105 ((((j 0 1) + 1) + mRun y ((j 0 1) + 1) 2) + 1)) (mTd td (4 * (j 0 2)) y ((j 0 1) + 1) (mRun y ((j 0 1) + 1) 2)) ++ r) (by simp only [gs_gs]; rfl) ?_
                  exact wf_iret .boolean rfl (by decide) ⟨rfl, rfl⟩ (⟨true, _, _, congrArg (fun z => some (Value.int z)) (b1_one rfl), rfl, sp_i e105 (of_decide_eq_true c122) ((mN_eq y1 (by decide) (by decide)).mp c131)⟩) dX9_statement_147
                · refine wf_iconst (nI 0) dX9_statement_134 (by decide) ?_
                  refine wf_world (wm E am g y (jR j 105 (((j 0 1) + 1) + mRun y ((j 0 1) + 1) 2)) (mTd td (4 * (j 0 2)) y ((j 0 1) + 1) (mRun y ((j 0 1) + 1) 2)) ++ r) (by simp only [gs_gs]; rfl) ?_
                  exact wf_iret .boolean rfl (by decide) ⟨rfl, rfl⟩ (⟨false, _, _, congrArg (fun z => some (Value.int z)) (b1_zero rfl), rfl, sp_ib e105 (fun z => c131 ((mN_eq y1 (by decide) (by decide)).mpr z.2))⟩) dX9_statement_135
          · exact absurd c74 (by decide)
        · exact absurd c20 (by decide)
  by_cases e114 : eLet y (j 0 1) = 114
  · refine wf_lvc [(1, .int (nI 114)), (0, .ref (am 0))] (by rw [(mN_eq y1 (by decide) (by decide)).mpr e114]) ?_
    refine wf_iload_n 0 dX9_statement_5 rfl ?_
    refine wf_bipush (nI 119) dX9_statement_6 (by decide) ?_
    refine wf_icmp_eq_n 31 dX9_statement_8 (by decide) (by omega) (by omega) (fun c8 => ?_) (fun c8 => ?_)
    · exact absurd c8 (by decide)
    · refine wf_iload_n 0 dX9_statement_11 rfl ?_
      refine wf_bipush (nI 98) dX9_statement_12 (by decide) ?_
      refine wf_icmp_eq_n 31 dX9_statement_14 (by decide) (by omega) (by omega) (fun c14 => ?_) (fun c14 => ?_)
      · exact absurd c14 (by decide)
      · refine wf_iload_n 0 dX9_statement_17 rfl ?_
        refine wf_bipush (nI 105) dX9_statement_18 (by decide) ?_
        refine wf_icmp_eq_n 31 dX9_statement_20 (by decide) (by omega) (by omega) (fun c20 => ?_) (fun c20 => ?_)
        · exact absurd c20 (by decide)
        · refine wf_iload_n 0 dX9_statement_23 rfl ?_
          refine wf_bipush (nI 114) dX9_statement_24 (by decide) ?_
          refine wf_icmp_eq_n 31 dX9_statement_26 (by decide) (by omega) (by omega) (fun c26 => ?_) (fun c26 => ?_)
          · refine wf_aload_n 1 dX9_statement_31 rfl ?_
            refine wf_getf (C := RX9) (T := TX9) (N := 27) (v := .ref (am 12)) 0 15 in_X9 rfl rfl (by decide) fl_X9_43 rfl dX9_statement_32 ?_
            refine wf_aload_n 1 dX9_statement_35 rfl ?_
            refine wf_getf (C := RX9) (T := TX9) (N := 27) (v := .int (nI (j 0 2))) 0 20 in_X9 rfl rfl (by decide) fl_X9_91 rfl dX9_statement_36 ?_
            refine wf_iload_n 0 dX9_statement_39 rfl ?_
            refine wf_iast_n (wm E am g y (gs j 2 (j 0 2) 114) td ++ r) 12 rfl (by omega) (by decide) (sf 12 (Nat.le_of_ble_eq_true rfl) (wm_setj2 (j 0 2) 114)) dX9_statement_40 ?_
            refine wf_aload_n 1 dX9_statement_41 rfl ?_
            refine wf_getf (C := RX9) (T := TX9) (N := 27) (v := .ref (am 13)) 0 16 in_X9 rfl rfl (by decide) fl_X9_46 rfl dX9_statement_42 ?_
            refine wf_aload_n 1 dX9_statement_45 rfl ?_
            refine wf_getf (C := RX9) (T := TX9) (N := 27) (v := .int (nI (j 0 2))) 0 20 in_X9 rfl rfl (by decide) fl_X9_91 rfl dX9_statement_46 ?_
            refine wf_aload_n 1 dX9_statement_49 rfl ?_
            refine wf_getf (C := RX9) (T := TX9) (N := 27) (v := .int (nI (j 0 1))) 0 19 in_X9 rfl rfl (by decide) fl_X9_77 rfl dX9_statement_50 ?_
            refine wf_iast_n (wm E am g y (gs (gs j 2 (j 0 2) 114) 3 (j 0 2) (j 0 1)) td ++ r) 13 rfl (by omega) (by decide) (sf 13 (Nat.le_of_ble_eq_true rfl) (wm_setj3 (j 0 2) (j 0 1))) dX9_statement_53 ?_
            refine wf_aload_n 1 dX9_statement_54 rfl ?_
            refine wf_dup dX9_statement_55 rfl ?_
            refine wf_getf (C := RX9) (T := TX9) (N := 27) (v := .int (nI (j 0 1))) 0 19 in_X9 rfl rfl (by decide) fl_X9_77 rfl dX9_statement_56 ?_
            refine wf_iconst (nI 1) dX9_statement_59 (by decide) ?_
            refine wf_iadd (nI ((j 0 1) + 1)) dX9_statement_60 (nI_add (j 0 1) 1) ?_
            refine wf_putf (C := RX9) (T := TX9) (N := 27) (ty := .int) 0 19 (wm E am g y (gs (gs (gs j 2 (j 0 2) 114) 3 (j 0 2) (j 0 1)) 0 1 ((j 0 1) + 1)) td ++ r) tyX9 in_X9 tyX9_ok nmX9 rfl rfl (by decide) fl_X9_77 rfl (by decide +kernel) (by rfl) rfl (Nat.le_of_ble_eq_true rfl) (sf 0 (Nat.le_of_ble_eq_true rfl) (wm_put19 ((j 0 1) + 1))) dX9_statement_61 ?_
            refine wf_iconst (nI 4) dX9_statement_64 (by decide) ?_
            refine wf_aload_n 1 dX9_statement_65 rfl ?_
            refine wf_getf (C := RX9) (T := TX9) (N := 27) (v := .int (nI (j 0 2))) 0 20 in_X9 rfl rfl (by decide) fl_X9_91 rfl dX9_statement_66 ?_
            refine wf_imul (nI (4 * (j 0 2))) dX9_statement_69 (pk_mul 4 (j 0 2)) ?_
            refine wf_istore_n [(2, .int (nI (4 * (j 0 2)))), (1, .int (nI 114)), (0, .ref (am 0))] dX9_statement_70 rfl (by decide) rfl ?_
            refine wf_iload_n 1 dX9_statement_71 rfl ?_
            refine wf_bipush (nI 98) dX9_statement_72 (by decide) ?_
            refine wf_icmp_ne_n 104 dX9_statement_74 (by decide) (by omega) (by omega) (fun c74 => ?_) (fun c74 => ?_)
            · refine wf_aload_n 2 dX9_statement_104 rfl ?_
              refine wf_iload_n 0 dX9_statement_105 rfl ?_
              refine wf_iload_n 1 dX9_statement_106 rfl ?_
              refine wf_bipush (nI 105) dX9_statement_107 (by decide) ?_
              refine wf_icmp_ne_n 116 dX9_statement_109 (by decide) (by omega) (by omega) (fun c109 => ?_) (fun c109 => ?_)
              · refine wf_iconst (nI 3) dX9_statement_116 (by decide) ?_
                refine wf_callVD (As := [.int (nI (4 * (j 0 2))), .int (nI 3)]) (rest := []) 0 (c_X9_readsOnes hy (show (j 0 1) + 1 < 900 by omega) (by omega) (by decide)) kV_X9_98 rfl (by decide) (by decide) (Nat.le_of_ble_eq_true rfl) rfl rfl rfl dX9_statement_117 ?_
                refine wf_top (y := .int (bI (decide (mRun y ((j 0 1) + 1) 3 = 3)))) rfl ?_
                refine wf_world (wm E am g y (gs (gs (gs (gs j 2 (j 0 2) 114) 3 (j 0 2) (j 0 1)) 0 1 ((j 0 1) + 1)) 0 1 (((j 0 1) + 1) + mRun y ((j 0 1) + 1) 3)) (mTd td (4 * (j 0 2)) y ((j 0 1) + 1) (mRun y ((j 0 1) + 1) 3)) ++ r) rfl ?_
                refine wf_istore_n [(3, .int (bI (decide (mRun y ((j 0 1) + 1) 3 = 3)))), (2, .int (nI (4 * (j 0 2)))), (1, .int (nI 114)), (0, .ref (am 0))] dX9_statement_120 rfl (by decide) rfl ?_
                refine wf_iload_n 0 dX9_statement_121 rfl ?_
                refine wf_if_eq_b 134 dX9_statement_122 (by decide) (fun c122 => ?_) (fun c122 => ?_)
                · refine wf_iconst (nI 0) dX9_statement_134 (by decide) ?_
                  refine wf_world (wm E am g y (jR j 114 (((j 0 1) + 1) + mRun y ((j 0 1) + 1) 3)) (mTd td (4 * (j 0 2)) y ((j 0 1) + 1) (mRun y ((j 0 1) + 1) 3)) ++ r) (by simp only [gs_gs]; rfl) ?_
                  exact wf_iret .boolean rfl (by decide) ⟨rfl, rfl⟩ (⟨false, _, _, congrArg (fun z => some (Value.int z)) (b1_zero rfl), rfl, sp_wb e114 (Or.inr rfl) (fun z => of_decide_eq_false c122 z.1)⟩) dX9_statement_135
                · refine wf_aload_n 3 dX9_statement_125 rfl ?_
                  refine wf_callVD (As := []) (rest := []) 0 (c_X9_next hy (show ((j 0 1) + 1) + mRun y ((j 0 1) + 1) 3 < 1000 by omega)) kV_X9_80 rfl (by decide) (by decide) (Nat.le_of_ble_eq_true rfl) rfl rfl rfl dX9_statement_126 ?_
                  refine wf_top (y := .int (mN y (((j 0 1) + 1) + mRun y ((j 0 1) + 1) 3))) rfl ?_
                  refine wf_bipush (nI 59) dX9_statement_129 (by decide) ?_
                  refine wf_icmp_eq 136 dX9_statement_131 (by decide) (fun c131 => ?_) (fun c131 => ?_)
                  · refine wf_aload_n 3 dX9_statement_136 rfl ?_
                    refine wf_dup dX9_statement_137 rfl ?_
                    refine wf_getf (C := RX9) (T := TX9) (N := 27) (v := .int (nI (((j 0 1) + 1) + mRun y ((j 0 1) + 1) 3))) 0 19 in_X9 rfl rfl (by decide) fl_X9_77 rfl dX9_statement_138 ?_
                    refine wf_iconst (nI 1) dX9_statement_141 (by decide) ?_
                    refine wf_iadd (nI ((((j 0 1) + 1) + mRun y ((j 0 1) + 1) 3) + 1)) dX9_statement_142 (nI_add (((j 0 1) + 1) + mRun y ((j 0 1) + 1) 3) 1) ?_
                    refine wf_putf (C := RX9) (T := TX9) (N := 27) (ty := .int) 0 19 (wm E am g y (gs (gs (gs (gs (gs j 2 (j 0 2) 114) 3 (j 0 2) (j 0 1)) 0 1 ((j 0 1) + 1)) 0 1 (((j 0 1) + 1) + mRun y ((j 0 1) + 1) 3)) 0 1 ((((j 0 1) + 1) + mRun y ((j 0 1) + 1) 3) + 1)) (mTd td (4 * (j 0 2)) y ((j 0 1) + 1) (mRun y ((j 0 1) + 1) 3)) ++ r) tyX9 in_X9 tyX9_ok nmX9 rfl rfl (by decide) fl_X9_77 rfl (by decide +kernel) (by rfl) rfl (Nat.le_of_ble_eq_true rfl) (sf 0 (Nat.le_of_ble_eq_true rfl) (wm_put19 ((((j 0 1) + 1) + mRun y ((j 0 1) + 1) 3) + 1))) dX9_statement_143 ?_
                    refine wf_iconst (nI 1) dX9_statement_146 (by decide) ?_
                    refine wf_world (wm E am g y (jR j 114 ((((j 0 1) + 1) + mRun y ((j 0 1) + 1) 3) + 1)) (mTd td (4 * (j 0 2)) y ((j 0 1) + 1) (mRun y ((j 0 1) + 1) 3)) ++ r) (by simp only [gs_gs]; rfl) ?_
                    exact wf_iret .boolean rfl (by decide) ⟨rfl, rfl⟩ (⟨true, _, _, congrArg (fun z => some (Value.int z)) (b1_one rfl), rfl, sp_w e114 (Or.inr rfl) (of_decide_eq_true c122) ((mN_eq y1 (by decide) (by decide)).mp c131)⟩) dX9_statement_147
                  · refine wf_iconst (nI 0) dX9_statement_134 (by decide) ?_
                    refine wf_world (wm E am g y (jR j 114 (((j 0 1) + 1) + mRun y ((j 0 1) + 1) 3)) (mTd td (4 * (j 0 2)) y ((j 0 1) + 1) (mRun y ((j 0 1) + 1) 3)) ++ r) (by simp only [gs_gs]; rfl) ?_
                    exact wf_iret .boolean rfl (by decide) ⟨rfl, rfl⟩ (⟨false, _, _, congrArg (fun z => some (Value.int z)) (b1_zero rfl), rfl, sp_wb e114 (Or.inr rfl) (fun z => c131 ((mN_eq y1 (by decide) (by decide)).mpr z.2))⟩) dX9_statement_135
              · exact absurd c109 (by decide)
            · exact absurd c74 (by decide)
          · exact absurd c26 (by decide)
  refine wf_iload_n 0 dX9_statement_5 rfl ?_
  refine wf_bipush (nI 119) dX9_statement_6 (by decide) ?_
  refine wf_icmp_eq 31 dX9_statement_8 (by decide) (fun c8 => ?_) (fun c8 => ?_)
  · exact absurd ((mN_eq y1 (by decide) (by decide)).mp c8) e119
  · refine wf_iload_n 0 dX9_statement_11 rfl ?_
    refine wf_bipush (nI 98) dX9_statement_12 (by decide) ?_
    refine wf_icmp_eq 31 dX9_statement_14 (by decide) (fun c14 => ?_) (fun c14 => ?_)
    · exact absurd ((mN_eq y1 (by decide) (by decide)).mp c14) e98
    · refine wf_iload_n 0 dX9_statement_17 rfl ?_
      refine wf_bipush (nI 105) dX9_statement_18 (by decide) ?_
      refine wf_icmp_eq 31 dX9_statement_20 (by decide) (fun c20 => ?_) (fun c20 => ?_)
      · exact absurd ((mN_eq y1 (by decide) (by decide)).mp c20) e105
      · refine wf_iload_n 0 dX9_statement_23 rfl ?_
        refine wf_bipush (nI 114) dX9_statement_24 (by decide) ?_
        refine wf_icmp_eq 31 dX9_statement_26 (by decide) (fun c26 => ?_) (fun c26 => ?_)
        · exact absurd ((mN_eq y1 (by decide) (by decide)).mp c26) e114
        · refine wf_iconst (nI 0) dX9_statement_29 (by decide) ?_
          exact wf_iret .boolean rfl (by decide) ⟨rfl, rfl⟩ (⟨false, _, _, congrArg (fun z => some (Value.int z)) (b1_zero rfl), rfl, sp_no e119 e98 e105 e114⟩) dX9_statement_30
