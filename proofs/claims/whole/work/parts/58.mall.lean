abbrev rmX9_passesAll : Room := { frames := 1, cells := 0, slots := 0, locals := 22 }
set_option maxHeartbeats 4000000 in
set_option maxRecDepth 100000 in
theorem c_X9_passesAll_k {l : Launch} {E : Ev} {wh : Nat} {g y j : Gd} {td : Nat → Int32} {am : Nat → Nat} {r : va_W} (hI : Inv g) (hw : wh ≤ 2) : CT l E yX9_passesAll cX9_passesAll 3 none rmX9_passesAll [.ref (am 0), .int (nI wh), .int (nI 1)] (wm E am g y j td ++ r) (IS (none) (wm E am g y (kq j (80 * wh) g 61) td ++ r)) := by
  refine CT.of (lv := [(0, .ref (am 0)), (1, .int (nI wh)), (2, .int (nI 1))]) false (by decide +kernel) (by decide) (Nat.le_of_ble_eq_true rfl) rfl ?_
  have hc : 80 * wh + 61 ≤ 240 := by omega
  refine wf_aload_n 0 dX9_passesAll_0 rfl ?_
  refine wf_bipush (nI 80) dX9_passesAll_1 (by decide) ?_
  refine wf_iload_n 1 dX9_passesAll_3 rfl ?_
  refine wf_imul (nI (80 * wh)) dX9_passesAll_4 (pk_mul 80 wh) ?_
  refine wf_putf (C := RX9) (T := TX9) (N := 27) (ty := .int) 0 24 (wm E am g y (gs j 0 5 (80 * wh)) td ++ r) tyX9 in_X9 tyX9_ok nmX9 rfl rfl (by decide) fl_X9_129 rfl (by decide +kernel) (by rfl) rfl (Nat.le_of_ble_eq_true rfl) (sf 0 (Nat.le_of_ble_eq_true rfl) (wm_put24 (80 * wh))) dX9_passesAll_5 ?_
  refine wf_aload_n 0 dX9_passesAll_8 rfl ?_
  refine wf_iload_n 2 dX9_passesAll_9 rfl ?_
  refine wf_putf (C := RX9) (T := TX9) (N := 27) (ty := .boolean) 0 23 (wm E am g y (gs (gs j 0 5 (80 * wh)) 0 4 1) td ++ r) tyX9 in_X9 tyX9_ok nmX9 rfl rfl (by decide) fl_X9_125 rfl (by decide +kernel) (by decide) (by decide) (Nat.le_of_ble_eq_true rfl) (sf 0 (Nat.le_of_ble_eq_true rfl) (wm_put23 1)) dX9_passesAll_10 ?_
  refine wf_world (wm E am g y (kq j (80 * wh) g 0) td ++ r) (by rw [kq_0]) ?_
  refine wf_aload_n 0 dX9_passesAll_13 rfl ?_
  refine wf_aload_n 0 dX9_passesAll_14 rfl ?_
  refine wf_getf (C := RX9) (T := TX9) (N := 27) (v := .ref (am 2)) 0 1 in_X9 rfl rfl (by decide) fl_X9_13 rfl dX9_passesAll_15 ?_
  refine wf_callVv (As := [.ref (am 2)]) (rest := []) 0 (c_X9_passes_k0 (c := 80 * wh) hI hc) kV_X9_132 rfl (by decide) (by decide) (Nat.le_of_ble_eq_true rfl) rfl rfl rfl dX9_passesAll_18 ?_
  refine wf_aload_n 0 dX9_passesAll_21 rfl ?_
  refine wf_aload_n 0 dX9_passesAll_22 rfl ?_
  refine wf_getf (C := RX9) (T := TX9) (N := 27) (v := .ref (am 3)) 0 2 in_X9 rfl rfl (by decide) fl_X9_16 rfl dX9_passesAll_23 ?_
  refine wf_callVv (As := [.ref (am 3)]) (rest := []) 0 (c_X9_passes_k1 (c := 80 * wh) hI hc) kV_X9_132 rfl (by decide) (by decide) (Nat.le_of_ble_eq_true rfl) rfl rfl rfl dX9_passesAll_26 ?_
  refine wf_aload_n 0 dX9_passesAll_29 rfl ?_
  refine wf_aload_n 0 dX9_passesAll_30 rfl ?_
  refine wf_getf (C := RX9) (T := TX9) (N := 27) (v := .ref (am 4)) 0 3 in_X9 rfl rfl (by decide) fl_X9_19 rfl dX9_passesAll_31 ?_
  refine wf_callVv (As := [.ref (am 4)]) (rest := []) 0 (c_X9_passes_k2 (c := 80 * wh) hI hc) kV_X9_132 rfl (by decide) (by decide) (Nat.le_of_ble_eq_true rfl) rfl rfl rfl dX9_passesAll_34 ?_
  refine wf_aload_n 0 dX9_passesAll_37 rfl ?_
  refine wf_aload_n 0 dX9_passesAll_38 rfl ?_
  refine wf_getf (C := RX9) (T := TX9) (N := 27) (v := .ref (am 5)) 0 4 in_X9 rfl rfl (by decide) fl_X9_22 rfl dX9_passesAll_39 ?_
  refine wf_callVv (As := [.ref (am 5)]) (rest := []) 0 (c_X9_passes_k3 (c := 80 * wh) hI hc) kV_X9_132 rfl (by decide) (by decide) (Nat.le_of_ble_eq_true rfl) rfl rfl rfl dX9_passesAll_42 ?_
  refine wf_aload_n 0 dX9_passesAll_45 rfl ?_
  refine wf_aload_n 0 dX9_passesAll_46 rfl ?_
  refine wf_getf (C := RX9) (T := TX9) (N := 27) (v := .ref (am 6)) 0 5 in_X9 rfl rfl (by decide) fl_X9_25 rfl dX9_passesAll_47 ?_
  refine wf_callVv (As := [.ref (am 6)]) (rest := []) 0 (c_X9_passes_k4 (c := 80 * wh) hI hc) kV_X9_132 rfl (by decide) (by decide) (Nat.le_of_ble_eq_true rfl) rfl rfl rfl dX9_passesAll_50 ?_
  refine wf_aload_n 0 dX9_passesAll_53 rfl ?_
  refine wf_aload_n 0 dX9_passesAll_54 rfl ?_
  refine wf_getf (C := RX9) (T := TX9) (N := 27) (v := .ref (am 7)) 0 6 in_X9 rfl rfl (by decide) fl_X9_28 rfl dX9_passesAll_55 ?_
  refine wf_callVv (As := [.ref (am 7)]) (rest := []) 0 (c_X9_passes_k5 (c := 80 * wh) hI hc) kV_X9_132 rfl (by decide) (by decide) (Nat.le_of_ble_eq_true rfl) rfl rfl rfl dX9_passesAll_58 ?_
  refine wf_aload_n 0 dX9_passesAll_61 rfl ?_
  refine wf_aload_n 0 dX9_passesAll_62 rfl ?_
  refine wf_getf (C := RX9) (T := TX9) (N := 27) (v := .ref (am 8)) 0 7 in_X9 rfl rfl (by decide) fl_X9_31 rfl dX9_passesAll_63 ?_
  refine wf_callVv (As := [.ref (am 8)]) (rest := []) 0 (c_X9_passes_k6 (c := 80 * wh) hI hc) kV_X9_132 rfl (by decide) (by decide) (Nat.le_of_ble_eq_true rfl) rfl rfl rfl dX9_passesAll_66 ?_
  refine wf_aload_n 0 dX9_passesAll_69 rfl ?_
  refine wf_aload_n 0 dX9_passesAll_70 rfl ?_
  refine wf_getf (C := RX9) (T := TX9) (N := 27) (v := .ref (am 9)) 0 8 in_X9 rfl rfl (by decide) fl_X9_34 rfl dX9_passesAll_71 ?_
  refine wf_callVv (As := [.ref (am 9)]) (rest := []) 0 (c_X9_passes_k7 (c := 80 * wh) hI hc) kV_X9_132 rfl (by decide) (by decide) (Nat.le_of_ble_eq_true rfl) rfl rfl rfl dX9_passesAll_74 ?_
  refine wf_aload_n 0 dX9_passesAll_77 rfl ?_
  refine wf_aload_n 0 dX9_passesAll_78 rfl ?_
  refine wf_getf (C := RX9) (T := TX9) (N := 27) (v := .ref (am 10)) 0 9 in_X9 rfl rfl (by decide) fl_X9_37 rfl dX9_passesAll_79 ?_
  refine wf_callVv (As := [.ref (am 10)]) (rest := []) 0 (c_X9_passes_k8 (c := 80 * wh) hI hc) kV_X9_132 rfl (by decide) (by decide) (Nat.le_of_ble_eq_true rfl) rfl rfl rfl dX9_passesAll_82 ?_
  refine wf_aload_n 0 dX9_passesAll_85 rfl ?_
  refine wf_aload_n 0 dX9_passesAll_86 rfl ?_
  refine wf_aload_n 0 dX9_passesAll_87 rfl ?_
  refine wf_getf (C := RX9) (T := TX9) (N := 27) (v := .int (nI (g 9 0))) 0 10 in_X9 rfl rfl (by decide) fl_X9_59 rfl dX9_passesAll_88 ?_
  refine wf_callVD (As := [.int (nI (g 9 0))]) (rest := [.ref (am 0)]) 0 (c_X9_passOne_k (c := 80 * wh) (m := 57) rfl (by decide) hc) kV_X9_136 rfl (by decide) (by decide) (Nat.le_of_ble_eq_true rfl) rfl rfl rfl dX9_passesAll_91 ?_
  refine wf_putf (C := RX9) (T := TX9) (N := 27) (ty := .int) 0 10 (wm E am (gs g 9 0 (g 9 0)) y (kq j (80 * wh) g 58) td ++ r) tyX9 in_X9 tyX9_ok nmX9 rfl rfl (by decide) fl_X9_59 rfl (by decide +kernel) (by rfl) rfl (Nat.le_of_ble_eq_true rfl) (sf 0 (Nat.le_of_ble_eq_true rfl) (wm_put10 (g 9 0))) dX9_passesAll_94 ?_
  refine wf_world (wm E am g y (kq j (80 * wh) g 58) td ++ r) (by rw [gs_id]) ?_
  refine wf_aload_n 0 dX9_passesAll_97 rfl ?_
  refine wf_aload_n 0 dX9_passesAll_98 rfl ?_
  refine wf_aload_n 0 dX9_passesAll_99 rfl ?_
  refine wf_getf (C := RX9) (T := TX9) (N := 27) (v := .int (nI (g 9 1))) 0 11 in_X9 rfl rfl (by decide) fl_X9_63 rfl dX9_passesAll_100 ?_
  refine wf_callVD (As := [.int (nI (g 9 1))]) (rest := [.ref (am 0)]) 0 (c_X9_passOne_k (c := 80 * wh) (m := 58) rfl (by decide) hc) kV_X9_136 rfl (by decide) (by decide) (Nat.le_of_ble_eq_true rfl) rfl rfl rfl dX9_passesAll_103 ?_
  refine wf_putf (C := RX9) (T := TX9) (N := 27) (ty := .int) 0 11 (wm E am (gs g 9 1 (g 9 1)) y (kq j (80 * wh) g 59) td ++ r) tyX9 in_X9 tyX9_ok nmX9 rfl rfl (by decide) fl_X9_63 rfl (by decide +kernel) (by rfl) rfl (Nat.le_of_ble_eq_true rfl) (sf 0 (Nat.le_of_ble_eq_true rfl) (wm_put11 (g 9 1))) dX9_passesAll_106 ?_
  refine wf_world (wm E am g y (kq j (80 * wh) g 59) td ++ r) (by rw [gs_id]) ?_
  refine wf_aload_n 0 dX9_passesAll_109 rfl ?_
  refine wf_aload_n 0 dX9_passesAll_110 rfl ?_
  refine wf_aload_n 0 dX9_passesAll_111 rfl ?_
  refine wf_getf (C := RX9) (T := TX9) (N := 27) (v := .int (nI (g 9 3))) 0 12 in_X9 rfl rfl (by decide) fl_X9_139 rfl dX9_passesAll_112 ?_
  refine wf_callVD (As := [.int (nI (g 9 3))]) (rest := [.ref (am 0)]) 0 (c_X9_passOne_k (c := 80 * wh) (m := 59) rfl (by decide) hc) kV_X9_136 rfl (by decide) (by decide) (Nat.le_of_ble_eq_true rfl) rfl rfl rfl dX9_passesAll_115 ?_
  refine wf_putf (C := RX9) (T := TX9) (N := 27) (ty := .int) 0 12 (wm E am (gs g 9 3 (g 9 3)) y (kq j (80 * wh) g 60) td ++ r) tyX9 in_X9 tyX9_ok nmX9 rfl rfl (by decide) fl_X9_139 rfl (by decide +kernel) (by rfl) rfl (Nat.le_of_ble_eq_true rfl) (sf 0 (Nat.le_of_ble_eq_true rfl) (wm_put12 (g 9 3))) dX9_passesAll_118 ?_
  refine wf_world (wm E am g y (kq j (80 * wh) g 60) td ++ r) (by rw [gs_id]) ?_
  refine wf_aload_n 0 dX9_passesAll_121 rfl ?_
  refine wf_aload_n 0 dX9_passesAll_122 rfl ?_
  refine wf_aload_n 0 dX9_passesAll_123 rfl ?_
  refine wf_getf (C := RX9) (T := TX9) (N := 27) (v := .int (nI (g 9 2))) 0 13 in_X9 rfl rfl (by decide) fl_X9_142 rfl dX9_passesAll_124 ?_
  refine wf_callVD (As := [.int (nI (g 9 2))]) (rest := [.ref (am 0)]) 0 (c_X9_passOne_k (c := 80 * wh) (m := 60) rfl (by decide) hc) kV_X9_136 rfl (by decide) (by decide) (Nat.le_of_ble_eq_true rfl) rfl rfl rfl dX9_passesAll_127 ?_
  refine wf_putf (C := RX9) (T := TX9) (N := 27) (ty := .int) 0 13 (wm E am (gs g 9 2 (g 9 2)) y (kq j (80 * wh) g 61) td ++ r) tyX9 in_X9 tyX9_ok nmX9 rfl rfl (by decide) fl_X9_142 rfl (by decide +kernel) (by rfl) rfl (Nat.le_of_ble_eq_true rfl) (sf 0 (Nat.le_of_ble_eq_true rfl) (wm_put13 (g 9 2))) dX9_passesAll_130 ?_
  refine wf_world (wm E am g y (kq j (80 * wh) g 61) td ++ r) (by rw [gs_id]) ?_
  exact wf_vret rfl ⟨rfl, rfl⟩ ⟨rfl, rfl⟩ dX9_passesAll_133
set_option maxHeartbeats 4000000 in
set_option maxRecDepth 100000 in
theorem c_X9_passesAll_r {l : Launch} {E : Ev} {wh : Nat} {g0 : Gd} {g y j : Gd} {td : Nat → Int32} {am : Nat → Nat} {r : va_W} (hk : ∀ k, k < 61 → j 5 (80 * wh + k) = enc g0 k) (hw : wh ≤ 2) : CT l E yX9_passesAll cX9_passesAll 3 none rmX9_passesAll [.ref (am 0), .int (nI wh), .int (nI 0)] (wm E am g y j td ++ r) (IS (none) (wm E am g0 y (jr j (80 * wh) 61) td ++ r)) := by
  refine CT.of (lv := [(0, .ref (am 0)), (1, .int (nI wh)), (2, .int (nI 0))]) false (by decide +kernel) (by decide) (Nat.le_of_ble_eq_true rfl) rfl ?_
  have hc : 80 * wh + 61 ≤ 240 := by omega
  refine wf_aload_n 0 dX9_passesAll_0 rfl ?_
  refine wf_bipush (nI 80) dX9_passesAll_1 (by decide) ?_
  refine wf_iload_n 1 dX9_passesAll_3 rfl ?_
  refine wf_imul (nI (80 * wh)) dX9_passesAll_4 (pk_mul 80 wh) ?_
  refine wf_putf (C := RX9) (T := TX9) (N := 27) (ty := .int) 0 24 (wm E am g y (gs j 0 5 (80 * wh)) td ++ r) tyX9 in_X9 tyX9_ok nmX9 rfl rfl (by decide) fl_X9_129 rfl (by decide +kernel) (by rfl) rfl (Nat.le_of_ble_eq_true rfl) (sf 0 (Nat.le_of_ble_eq_true rfl) (wm_put24 (80 * wh))) dX9_passesAll_5 ?_
  refine wf_aload_n 0 dX9_passesAll_8 rfl ?_
  refine wf_iload_n 2 dX9_passesAll_9 rfl ?_
  refine wf_putf (C := RX9) (T := TX9) (N := 27) (ty := .boolean) 0 23 (wm E am g y (gs (gs j 0 5 (80 * wh)) 0 4 0) td ++ r) tyX9 in_X9 tyX9_ok nmX9 rfl rfl (by decide) fl_X9_125 rfl (by decide +kernel) (by decide) (by decide) (Nat.le_of_ble_eq_true rfl) (sf 0 (Nat.le_of_ble_eq_true rfl) (wm_put23 0)) dX9_passesAll_10 ?_
  refine wf_world (wm E am (rq g0 g 0) y (jr j (80 * wh) 0) td ++ r) (by rw [jr_0, rq_0]) ?_
  refine wf_aload_n 0 dX9_passesAll_13 rfl ?_
  refine wf_aload_n 0 dX9_passesAll_14 rfl ?_
  refine wf_getf (C := RX9) (T := TX9) (N := 27) (v := .ref (am 2)) 0 1 in_X9 rfl rfl (by decide) fl_X9_13 rfl dX9_passesAll_15 ?_
  refine wf_callVv (As := [.ref (am 2)]) (rest := []) 0 (c_X9_passes_r0 (c := 80 * wh) hk hc) kV_X9_132 rfl (by decide) (by decide) (Nat.le_of_ble_eq_true rfl) rfl rfl rfl dX9_passesAll_18 ?_
  refine wf_aload_n 0 dX9_passesAll_21 rfl ?_
  refine wf_aload_n 0 dX9_passesAll_22 rfl ?_
  refine wf_getf (C := RX9) (T := TX9) (N := 27) (v := .ref (am 3)) 0 2 in_X9 rfl rfl (by decide) fl_X9_16 rfl dX9_passesAll_23 ?_
  refine wf_callVv (As := [.ref (am 3)]) (rest := []) 0 (c_X9_passes_r1 (c := 80 * wh) hk hc) kV_X9_132 rfl (by decide) (by decide) (Nat.le_of_ble_eq_true rfl) rfl rfl rfl dX9_passesAll_26 ?_
  refine wf_aload_n 0 dX9_passesAll_29 rfl ?_
  refine wf_aload_n 0 dX9_passesAll_30 rfl ?_
  refine wf_getf (C := RX9) (T := TX9) (N := 27) (v := .ref (am 4)) 0 3 in_X9 rfl rfl (by decide) fl_X9_19 rfl dX9_passesAll_31 ?_
  refine wf_callVv (As := [.ref (am 4)]) (rest := []) 0 (c_X9_passes_r2 (c := 80 * wh) hk hc) kV_X9_132 rfl (by decide) (by decide) (Nat.le_of_ble_eq_true rfl) rfl rfl rfl dX9_passesAll_34 ?_
  refine wf_aload_n 0 dX9_passesAll_37 rfl ?_
  refine wf_aload_n 0 dX9_passesAll_38 rfl ?_
  refine wf_getf (C := RX9) (T := TX9) (N := 27) (v := .ref (am 5)) 0 4 in_X9 rfl rfl (by decide) fl_X9_22 rfl dX9_passesAll_39 ?_
  refine wf_callVv (As := [.ref (am 5)]) (rest := []) 0 (c_X9_passes_r3 (c := 80 * wh) hk hc) kV_X9_132 rfl (by decide) (by decide) (Nat.le_of_ble_eq_true rfl) rfl rfl rfl dX9_passesAll_42 ?_
  refine wf_aload_n 0 dX9_passesAll_45 rfl ?_
  refine wf_aload_n 0 dX9_passesAll_46 rfl ?_
  refine wf_getf (C := RX9) (T := TX9) (N := 27) (v := .ref (am 6)) 0 5 in_X9 rfl rfl (by decide) fl_X9_25 rfl dX9_passesAll_47 ?_
  refine wf_callVv (As := [.ref (am 6)]) (rest := []) 0 (c_X9_passes_r4 (c := 80 * wh) hk hc) kV_X9_132 rfl (by decide) (by decide) (Nat.le_of_ble_eq_true rfl) rfl rfl rfl dX9_passesAll_50 ?_
  refine wf_aload_n 0 dX9_passesAll_53 rfl ?_
  refine wf_aload_n 0 dX9_passesAll_54 rfl ?_
  refine wf_getf (C := RX9) (T := TX9) (N := 27) (v := .ref (am 7)) 0 6 in_X9 rfl rfl (by decide) fl_X9_28 rfl dX9_passesAll_55 ?_
  refine wf_callVv (As := [.ref (am 7)]) (rest := []) 0 (c_X9_passes_r5 (c := 80 * wh) hk hc) kV_X9_132 rfl (by decide) (by decide) (Nat.le_of_ble_eq_true rfl) rfl rfl rfl dX9_passesAll_58 ?_
  refine wf_aload_n 0 dX9_passesAll_61 rfl ?_
  refine wf_aload_n 0 dX9_passesAll_62 rfl ?_
  refine wf_getf (C := RX9) (T := TX9) (N := 27) (v := .ref (am 8)) 0 7 in_X9 rfl rfl (by decide) fl_X9_31 rfl dX9_passesAll_63 ?_
  refine wf_callVv (As := [.ref (am 8)]) (rest := []) 0 (c_X9_passes_r6 (c := 80 * wh) hk hc) kV_X9_132 rfl (by decide) (by decide) (Nat.le_of_ble_eq_true rfl) rfl rfl rfl dX9_passesAll_66 ?_
  refine wf_aload_n 0 dX9_passesAll_69 rfl ?_
  refine wf_aload_n 0 dX9_passesAll_70 rfl ?_
  refine wf_getf (C := RX9) (T := TX9) (N := 27) (v := .ref (am 9)) 0 8 in_X9 rfl rfl (by decide) fl_X9_34 rfl dX9_passesAll_71 ?_
  refine wf_callVv (As := [.ref (am 9)]) (rest := []) 0 (c_X9_passes_r7 (c := 80 * wh) hk hc) kV_X9_132 rfl (by decide) (by decide) (Nat.le_of_ble_eq_true rfl) rfl rfl rfl dX9_passesAll_74 ?_
  refine wf_aload_n 0 dX9_passesAll_77 rfl ?_
  refine wf_aload_n 0 dX9_passesAll_78 rfl ?_
  refine wf_getf (C := RX9) (T := TX9) (N := 27) (v := .ref (am 10)) 0 9 in_X9 rfl rfl (by decide) fl_X9_37 rfl dX9_passesAll_79 ?_
  refine wf_callVv (As := [.ref (am 10)]) (rest := []) 0 (c_X9_passes_r8 (c := 80 * wh) hk hc) kV_X9_132 rfl (by decide) (by decide) (Nat.le_of_ble_eq_true rfl) rfl rfl rfl dX9_passesAll_82 ?_
  refine wf_aload_n 0 dX9_passesAll_85 rfl ?_
  refine wf_aload_n 0 dX9_passesAll_86 rfl ?_
  refine wf_aload_n 0 dX9_passesAll_87 rfl ?_
  refine wf_getf (C := RX9) (T := TX9) (N := 27) (v := .int (nI ((rq g0 g 57) 9 0))) 0 10 in_X9 rfl rfl (by decide) fl_X9_59 rfl dX9_passesAll_88 ?_
  refine wf_callVD (As := [.int (nI ((rq g0 g 57) 9 0))]) (rest := [.ref (am 0)]) 0 (c_X9_passOne_r (c := 80 * wh) (m := 57) (v := (rq g0 g 57) 9 0) (hk 57 (by decide)) (by decide) hc) kV_X9_136 rfl (by decide) (by decide) (Nat.le_of_ble_eq_true rfl) rfl rfl rfl dX9_passesAll_91 ?_
  refine wf_putf (C := RX9) (T := TX9) (N := 27) (ty := .int) 0 10 (wm E am (gs (rq g0 g 57) 9 0 (enc g0 57)) y (jr j (80 * wh) 58) td ++ r) tyX9 in_X9 tyX9_ok nmX9 rfl rfl (by decide) fl_X9_59 rfl (by decide +kernel) (by rfl) rfl (Nat.le_of_ble_eq_true rfl) (sf 0 (Nat.le_of_ble_eq_true rfl) (wm_put10 (enc g0 57))) dX9_passesAll_94 ?_
  refine wf_world (wm E am (rq g0 g 58) y (jr j (80 * wh) 58) td ++ r) (by rw [rq_s (v := enc g0 57) (m := 57) (f := 9) (i := 0) (by decide) (by decide) rfl]) ?_
  refine wf_aload_n 0 dX9_passesAll_97 rfl ?_
  refine wf_aload_n 0 dX9_passesAll_98 rfl ?_
  refine wf_aload_n 0 dX9_passesAll_99 rfl ?_
  refine wf_getf (C := RX9) (T := TX9) (N := 27) (v := .int (nI ((rq g0 g 58) 9 1))) 0 11 in_X9 rfl rfl (by decide) fl_X9_63 rfl dX9_passesAll_100 ?_
  refine wf_callVD (As := [.int (nI ((rq g0 g 58) 9 1))]) (rest := [.ref (am 0)]) 0 (c_X9_passOne_r (c := 80 * wh) (m := 58) (v := (rq g0 g 58) 9 1) (hk 58 (by decide)) (by decide) hc) kV_X9_136 rfl (by decide) (by decide) (Nat.le_of_ble_eq_true rfl) rfl rfl rfl dX9_passesAll_103 ?_
  refine wf_putf (C := RX9) (T := TX9) (N := 27) (ty := .int) 0 11 (wm E am (gs (rq g0 g 58) 9 1 (enc g0 58)) y (jr j (80 * wh) 59) td ++ r) tyX9 in_X9 tyX9_ok nmX9 rfl rfl (by decide) fl_X9_63 rfl (by decide +kernel) (by rfl) rfl (Nat.le_of_ble_eq_true rfl) (sf 0 (Nat.le_of_ble_eq_true rfl) (wm_put11 (enc g0 58))) dX9_passesAll_106 ?_
  refine wf_world (wm E am (rq g0 g 59) y (jr j (80 * wh) 59) td ++ r) (by rw [rq_s (v := enc g0 58) (m := 58) (f := 9) (i := 1) (by decide) (by decide) rfl]) ?_
  refine wf_aload_n 0 dX9_passesAll_109 rfl ?_
  refine wf_aload_n 0 dX9_passesAll_110 rfl ?_
  refine wf_aload_n 0 dX9_passesAll_111 rfl ?_
  refine wf_getf (C := RX9) (T := TX9) (N := 27) (v := .int (nI ((rq g0 g 59) 9 3))) 0 12 in_X9 rfl rfl (by decide) fl_X9_139 rfl dX9_passesAll_112 ?_
  refine wf_callVD (As := [.int (nI ((rq g0 g 59) 9 3))]) (rest := [.ref (am 0)]) 0 (c_X9_passOne_r (c := 80 * wh) (m := 59) (v := (rq g0 g 59) 9 3) (hk 59 (by decide)) (by decide) hc) kV_X9_136 rfl (by decide) (by decide) (Nat.le_of_ble_eq_true rfl) rfl rfl rfl dX9_passesAll_115 ?_
  refine wf_putf (C := RX9) (T := TX9) (N := 27) (ty := .int) 0 12 (wm E am (gs (rq g0 g 59) 9 3 (enc g0 59)) y (jr j (80 * wh) 60) td ++ r) tyX9 in_X9 tyX9_ok nmX9 rfl rfl (by decide) fl_X9_139 rfl (by decide +kernel) (by rfl) rfl (Nat.le_of_ble_eq_true rfl) (sf 0 (Nat.le_of_ble_eq_true rfl) (wm_put12 (enc g0 59))) dX9_passesAll_118 ?_
  refine wf_world (wm E am (rq g0 g 60) y (jr j (80 * wh) 60) td ++ r) (by rw [rq_s (v := enc g0 59) (m := 59) (f := 9) (i := 3) (by decide) (by decide) rfl]) ?_
  refine wf_aload_n 0 dX9_passesAll_121 rfl ?_
  refine wf_aload_n 0 dX9_passesAll_122 rfl ?_
  refine wf_aload_n 0 dX9_passesAll_123 rfl ?_
  refine wf_getf (C := RX9) (T := TX9) (N := 27) (v := .int (nI ((rq g0 g 60) 9 2))) 0 13 in_X9 rfl rfl (by decide) fl_X9_142 rfl dX9_passesAll_124 ?_
  refine wf_callVD (As := [.int (nI ((rq g0 g 60) 9 2))]) (rest := [.ref (am 0)]) 0 (c_X9_passOne_r (c := 80 * wh) (m := 60) (v := (rq g0 g 60) 9 2) (hk 60 (by decide)) (by decide) hc) kV_X9_136 rfl (by decide) (by decide) (Nat.le_of_ble_eq_true rfl) rfl rfl rfl dX9_passesAll_127 ?_
  refine wf_putf (C := RX9) (T := TX9) (N := 27) (ty := .int) 0 13 (wm E am (gs (rq g0 g 60) 9 2 (enc g0 60)) y (jr j (80 * wh) 61) td ++ r) tyX9 in_X9 tyX9_ok nmX9 rfl rfl (by decide) fl_X9_142 rfl (by decide +kernel) (by rfl) rfl (Nat.le_of_ble_eq_true rfl) (sf 0 (Nat.le_of_ble_eq_true rfl) (wm_put13 (enc g0 60))) dX9_passesAll_130 ?_
  refine wf_world (wm E am (rq g0 g 61) y (jr j (80 * wh) 61) td ++ r) (by rw [rq_s (v := enc g0 60) (m := 60) (f := 9) (i := 2) (by decide) (by decide) rfl]) ?_
  refine wf_cells (w' := wm E am g0 y (jr j (80 * wh) 61) td ++ r) rfl (fun D H hP => wm_eqv rq_61 D H hP) ?_
  exact wf_vret rfl ⟨rfl, rfl⟩ ⟨rfl, rfl⟩ dX9_passesAll_133
