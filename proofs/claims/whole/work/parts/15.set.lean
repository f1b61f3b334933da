abbrev rmX2_keepAway : Room := { frames := 0, cells := 0, slots := 0, locals := 0 }
set_option maxHeartbeats 4000000 in
set_option maxRecDepth 100000 in
theorem c_X2_keepAway {l : Launch} {E : Ev} {b : Nat} {g : Gd} {a kk : Nat → Nat} {r : va_W} (hb : b < 4) : CT l E yX2_keepAway cX2_keepAway 2 none rmX2_keepAway [.ref (a 0), .int (nI b)] (wg E (kk 6) a g ++ (wk E kk ++ r)) (IS (none) (wg E (kk 6) a (gs g 5 b 8) ++ (wk E kk ++ r))) := by
  refine CT.of (lv := [(0, .ref (a 0)), (1, .int (nI b))]) false (by decide +kernel) (by decide) (Nat.le_of_ble_eq_true rfl) rfl ?_
  refine wf_aload_n 0 dX2_keepAway_0 rfl ?_
  refine wf_getf (C := RX2) (T := TX2) (N := 14) (v := .ref (a 6)) 0 7 in_X2 rfl rfl (by decide) fl_X2_27 rfl dX2_keepAway_1 ?_
  refine wf_iload_n 1 dX2_keepAway_4 rfl ?_
  refine wf_bipush (nI 8) dX2_keepAway_5 (by decide) ?_
  refine wf_iast_n (wg E (kk 6) a (gs g 5 b 8) ++ (wk E kk ++ r)) 6 rfl (by omega) (by decide) (sf 6 (Nat.le_of_ble_eq_true rfl) (wg_set5 b 8)) dX2_keepAway_7 ?_
  exact wf_vret rfl ⟨rfl, rfl⟩ ⟨rfl, rfl⟩ dX2_keepAway_8
abbrev rmX2_setBitter : Room := { frames := 1, cells := 0, slots := 0, locals := 20 }
set_option maxHeartbeats 4000000 in
set_option maxRecDepth 100000 in
theorem c_X2_setBitter {l : Launch} {E : Ev} {i v : Nat} {g : Gd} {a kk : Nat → Nat} {r : va_W} (hi : i < 3) : CT l E yX2_setBitter cX2_setBitter 3 none rmX2_setBitter [.ref (a 0), .int (nI i), .int (nI v)] (wg E (kk 6) a g ++ (wk E kk ++ r)) (IS (none) (wg E (kk 6) a (gs g 7 i v) ++ (wk E kk ++ r))) := by
  refine CT.of (lv := [(0, .ref (a 0)), (1, .int (nI i)), (2, .int (nI v))]) false (by decide +kernel) (by decide) (Nat.le_of_ble_eq_true rfl) rfl ?_
  refine wf_iload_n 1 dX2_setBitter_0 rfl ?_
  refine wf_callNSD (As := [.int (nI i)]) (rest := []) (c_X8_isInk) kNS_X2_66 rfl (by decide) (by decide) (Nat.le_of_ble_eq_true rfl) rfl dX2_setBitter_1 ?_
  refine wf_if_eq_b 14 dX2_setBitter_4 (by decide) (fun c4 => ?_) (fun c4 => ?_)
  · exact absurd c4 (by rw [eHas_n (by omega) (by decide), decide_eq_true hi]; decide)
  · refine wf_aload_n 0 dX2_setBitter_7 rfl ?_
    refine wf_getf (C := RX2) (T := TX2) (N := 14) (v := .ref (a 8)) 0 10 in_X2 rfl rfl (by decide) fl_X2_33 rfl dX2_setBitter_8 ?_
    refine wf_iload_n 1 dX2_setBitter_11 rfl ?_
    refine wf_iload_n 2 dX2_setBitter_12 rfl ?_
    refine wf_iast_n (wg E (kk 6) a (gs g 7 i v) ++ (wk E kk ++ r)) 8 rfl (by omega) (by decide) (sf 8 (Nat.le_of_ble_eq_true rfl) (wg_set7 i v)) dX2_setBitter_13 ?_
    exact wf_vret rfl ⟨rfl, rfl⟩ ⟨rfl, rfl⟩ dX2_setBitter_14
abbrev rmX2_addWord : Room := { frames := 1, cells := 0, slots := 0, locals := 20 }
set_option maxHeartbeats 4000000 in
set_option maxRecDepth 100000 in
theorem c_X2_addWord {l : Launch} {E : Ev} {s i m : Nat} {g : Gd} {a kk : Nat → Nat} {r : va_W} (hw : g 9 0 < 10) (hi : i < 3) : CT l E yX2_addWord cX2_addWord 4 none rmX2_addWord [.ref (a 0), .int (nI s), .int (nI i), .int (nI m)] (wg E (kk 6) a g ++ (wk E kk ++ r)) (IS (none) (wg E (kk 6) a (gs (gs (gs (gs g 0 (g 9 0) s) 1 (g 9 0) i) 2 (g 9 0) m) 9 0 (g 9 0 + 1)) ++ (wk E kk ++ r))) := by
  refine CT.of (lv := [(0, .ref (a 0)), (1, .int (nI s)), (2, .int (nI i)), (3, .int (nI m))]) false (by decide +kernel) (by decide) (Nat.le_of_ble_eq_true rfl) rfl ?_
  refine wf_aload_n 0 dX2_addWord_0 rfl ?_
  refine wf_getf (C := RX2) (T := TX2) (N := 14) (v := .int (nI (g 9 0))) 0 4 in_X2 rfl rfl (by decide) fl_X2_49 rfl dX2_addWord_1 ?_
  refine wf_bipush (nI 10) dX2_addWord_4 (by decide) ?_
  refine wf_icmp_ge_n 16 dX2_addWord_6 (by decide) (by omega) (by omega) (fun c6 => ?_) (fun c6 => ?_)
  · exact absurd c6 (by omega)
  · refine wf_iload_n 2 dX2_addWord_9 rfl ?_
    refine wf_callNSD (As := [.int (nI i)]) (rest := []) (c_X8_isInk) kNS_X2_66 rfl (by decide) (by decide) (Nat.le_of_ble_eq_true rfl) rfl dX2_addWord_10 ?_
    refine wf_if_ne_b 17 dX2_addWord_13 (by decide) (fun c13 => ?_) (fun c13 => ?_)
    · refine wf_aload_n 0 dX2_addWord_17 rfl ?_
      refine wf_getf (C := RX2) (T := TX2) (N := 14) (v := .ref (a 1)) 0 1 in_X2 rfl rfl (by decide) fl_X2_9 rfl dX2_addWord_18 ?_
      refine wf_aload_n 0 dX2_addWord_21 rfl ?_
      refine wf_getf (C := RX2) (T := TX2) (N := 14) (v := .int (nI (g 9 0))) 0 4 in_X2 rfl rfl (by decide) fl_X2_49 rfl dX2_addWord_22 ?_
      refine wf_iload_n 1 dX2_addWord_25 rfl ?_
      refine wf_iast_n (wg E (kk 6) a (gs g 0 (g 9 0) s) ++ (wk E kk ++ r)) 1 rfl (by omega) (by decide) (sf 1 (Nat.le_of_ble_eq_true rfl) (wg_set0 (g 9 0) s)) dX2_addWord_26 ?_
      refine wf_aload_n 0 dX2_addWord_27 rfl ?_
      refine wf_getf (C := RX2) (T := TX2) (N := 14) (v := .ref (a 2)) 0 2 in_X2 rfl rfl (by decide) fl_X2_15 rfl dX2_addWord_28 ?_
      refine wf_aload_n 0 dX2_addWord_31 rfl ?_
      refine wf_getf (C := RX2) (T := TX2) (N := 14) (v := .int (nI (g 9 0))) 0 4 in_X2 rfl rfl (by decide) fl_X2_49 rfl dX2_addWord_32 ?_
      refine wf_iload_n 2 dX2_addWord_35 rfl ?_
      refine wf_iast_n (wg E (kk 6) a (gs (gs g 0 (g 9 0) s) 1 (g 9 0) i) ++ (wk E kk ++ r)) 2 rfl (by omega) (by decide) (sf 2 (Nat.le_of_ble_eq_true rfl) (wg_set1 (g 9 0) i)) dX2_addWord_36 ?_
      refine wf_aload_n 0 dX2_addWord_37 rfl ?_
      refine wf_getf (C := RX2) (T := TX2) (N := 14) (v := .ref (a 3)) 0 3 in_X2 rfl rfl (by decide) fl_X2_18 rfl dX2_addWord_38 ?_
      refine wf_aload_n 0 dX2_addWord_41 rfl ?_
      refine wf_getf (C := RX2) (T := TX2) (N := 14) (v := .int (nI (g 9 0))) 0 4 in_X2 rfl rfl (by decide) fl_X2_49 rfl dX2_addWord_42 ?_
      refine wf_iload_n 3 dX2_addWord_45 rfl ?_
      refine wf_iast_n (wg E (kk 6) a (gs (gs (gs g 0 (g 9 0) s) 1 (g 9 0) i) 2 (g 9 0) m) ++ (wk E kk ++ r)) 3 rfl (by omega) (by decide) (sf 3 (Nat.le_of_ble_eq_true rfl) (wg_set2 (g 9 0) m)) dX2_addWord_46 ?_
      refine wf_aload_n 0 dX2_addWord_47 rfl ?_
      refine wf_dup dX2_addWord_48 rfl ?_
      refine wf_getf (C := RX2) (T := TX2) (N := 14) (v := .int (nI (g 9 0))) 0 4 in_X2 rfl rfl (by decide) fl_X2_49 rfl dX2_addWord_49 ?_
      refine wf_iconst (nI 1) dX2_addWord_52 (by decide) ?_
      refine wf_iadd (nI ((g 9 0) + 1)) dX2_addWord_53 (nI_add (g 9 0) 1) ?_
      refine wf_putf (C := RX2) (T := TX2) (N := 14) (ty := .int) 0 4 (wg E (kk 6) a (gs (gs (gs (gs g 0 (g 9 0) s) 1 (g 9 0) i) 2 (g 9 0) m) 9 0 ((g 9 0) + 1)) ++ (wk E kk ++ r)) tyX2 in_X2 tyX2_ok nmX2 rfl rfl (by decide) fl_X2_49 rfl (by decide +kernel) (by rfl) rfl (Nat.le_of_ble_eq_true rfl) (sf 0 (Nat.le_of_ble_eq_true rfl) (wg_put0 ((g 9 0) + 1))) dX2_addWord_54 ?_
      exact wf_vret rfl ⟨rfl, rfl⟩ ⟨rfl, rfl⟩ dX2_addWord_57
    · exact absurd c13 (by rw [eHas_n (by omega) (by decide), decide_eq_true hi]; decide)
abbrev rmX2_addBird : Room := { frames := 0, cells := 0, slots := 0, locals := 0 }
set_option maxHeartbeats 4000000 in
set_option maxRecDepth 100000 in
theorem c_X2_addBird {l : Launch} {E : Ev} {k t f u : Nat} {g : Gd} {a kk : Nat → Nat} {r : va_W} (hb : g 9 1 < 4) (hk : k < 6) : CT l E yX2_addBird cX2_addBird 5 none rmX2_addBird [.ref (a 0), .int (nI k), .int (nI t), .int (nI f), .int (nI u)] (wg E (kk 6) a g ++ (wk E kk ++ r)) (IS (none) (wg E (kk 6) a (gs (gs (gs (gs (gs g 3 (g 9 1) k) 4 (g 9 1) t) 5 (g 9 1) f) 6 (g 9 1) u) 9 1 (g 9 1 + 1)) ++ (wk E kk ++ r))) := by
  refine CT.of (lv := [(0, .ref (a 0)), (1, .int (nI k)), (2, .int (nI t)), (3, .int (nI f)), (4, .int (nI u))]) false (by decide +kernel) (by decide) (Nat.le_of_ble_eq_true rfl) rfl ?_
  refine wf_aload_n 0 dX2_addBird_0 rfl ?_
  refine wf_getf (C := RX2) (T := TX2) (N := 14) (v := .int (nI (g 9 1))) 0 9 in_X2 rfl rfl (by decide) fl_X2_53 rfl dX2_addBird_1 ?_
  refine wf_iconst (nI 4) dX2_addBird_4 (by decide) ?_
  refine wf_icmp_ge_n 21 dX2_addBird_5 (by decide) (by omega) (by omega) (fun c5 => ?_) (fun c5 => ?_)
  · exact absurd c5 (by omega)
  · refine wf_iload_n 1 dX2_addBird_8 rfl ?_
    refine wf_if_lt 21 dX2_addBird_9 (by decide) (fun c9 => ?_) (fun c9 => ?_)
    · exact absurd c9 (nI_pos (by omega))
    · refine wf_iload_n 1 dX2_addBird_12 rfl ?_
      refine wf_aload_n 0 dX2_addBird_13 rfl ?_
      refine wf_getf (C := RX2) (T := TX2) (N := 14) (v := .ref (kk 6)) 0 0 in_X2 rfl rfl (by decide) fl_X2_39 rfl dX2_addBird_14 ?_
      refine wf_alen (t0 := 2) (nI 6) 10 rfl rfl rfl dX2_addBird_17 ?_
      refine wf_icmp_lt_n 22 dX2_addBird_18 (by decide) (by omega) (by omega) (fun c18 => ?_) (fun c18 => ?_)
      · refine wf_aload_n 0 dX2_addBird_22 rfl ?_
        refine wf_getf (C := RX2) (T := TX2) (N := 14) (v := .ref (a 4)) 0 5 in_X2 rfl rfl (by decide) fl_X2_21 rfl dX2_addBird_23 ?_
        refine wf_aload_n 0 dX2_addBird_26 rfl ?_
        refine wf_getf (C := RX2) (T := TX2) (N := 14) (v := .int (nI (g 9 1))) 0 9 in_X2 rfl rfl (by decide) fl_X2_53 rfl dX2_addBird_27 ?_
        refine wf_iload_n 1 dX2_addBird_30 rfl ?_
        refine wf_iast_n (wg E (kk 6) a (gs g 3 (g 9 1) k) ++ (wk E kk ++ r)) 4 rfl (by omega) (by decide) (sf 4 (Nat.le_of_ble_eq_true rfl) (wg_set3 (g 9 1) k)) dX2_addBird_31 ?_
        refine wf_aload_n 0 dX2_addBird_32 rfl ?_
        refine wf_getf (C := RX2) (T := TX2) (N := 14) (v := .ref (a 5)) 0 6 in_X2 rfl rfl (by decide) fl_X2_24 rfl dX2_addBird_33 ?_
        refine wf_aload_n 0 dX2_addBird_36 rfl ?_
        refine wf_getf (C := RX2) (T := TX2) (N := 14) (v := .int (nI (g 9 1))) 0 9 in_X2 rfl rfl (by decide) fl_X2_53 rfl dX2_addBird_37 ?_
        refine wf_iload_n 2 dX2_addBird_40 rfl ?_
        refine wf_iast_n (wg E (kk 6) a (gs (gs g 3 (g 9 1) k) 4 (g 9 1) t) ++ (wk E kk ++ r)) 5 rfl (by omega) (by decide) (sf 5 (Nat.le_of_ble_eq_true rfl) (wg_set4 (g 9 1) t)) dX2_addBird_41 ?_
        refine wf_aload_n 0 dX2_addBird_42 rfl ?_
        refine wf_getf (C := RX2) (T := TX2) (N := 14) (v := .ref (a 6)) 0 7 in_X2 rfl rfl (by decide) fl_X2_27 rfl dX2_addBird_43 ?_
        refine wf_aload_n 0 dX2_addBird_46 rfl ?_
        refine wf_getf (C := RX2) (T := TX2) (N := 14) (v := .int (nI (g 9 1))) 0 9 in_X2 rfl rfl (by decide) fl_X2_53 rfl dX2_addBird_47 ?_
        refine wf_iload_n 3 dX2_addBird_50 rfl ?_
        refine wf_iast_n (wg E (kk 6) a (gs (gs (gs g 3 (g 9 1) k) 4 (g 9 1) t) 5 (g 9 1) f) ++ (wk E kk ++ r)) 6 rfl (by omega) (by decide) (sf 6 (Nat.le_of_ble_eq_true rfl) (wg_set5 (g 9 1) f)) dX2_addBird_51 ?_
        refine wf_aload_n 0 dX2_addBird_52 rfl ?_
        refine wf_getf (C := RX2) (T := TX2) (N := 14) (v := .ref (a 7)) 0 8 in_X2 rfl rfl (by decide) fl_X2_30 rfl dX2_addBird_53 ?_
        refine wf_aload_n 0 dX2_addBird_56 rfl ?_
        refine wf_getf (C := RX2) (T := TX2) (N := 14) (v := .int (nI (g 9 1))) 0 9 in_X2 rfl rfl (by decide) fl_X2_53 rfl dX2_addBird_57 ?_
        refine wf_iload 4 dX2_addBird_60 rfl ?_
        refine wf_iast_n (wg E (kk 6) a (gs (gs (gs (gs g 3 (g 9 1) k) 4 (g 9 1) t) 5 (g 9 1) f) 6 (g 9 1) u) ++ (wk E kk ++ r)) 7 rfl (by omega) (by decide) (sf 7 (Nat.le_of_ble_eq_true rfl) (wg_set6 (g 9 1) u)) dX2_addBird_62 ?_
        refine wf_aload_n 0 dX2_addBird_63 rfl ?_
        refine wf_dup dX2_addBird_64 rfl ?_
        refine wf_getf (C := RX2) (T := TX2) (N := 14) (v := .int (nI (g 9 1))) 0 9 in_X2 rfl rfl (by decide) fl_X2_53 rfl dX2_addBird_65 ?_
        refine wf_iconst (nI 1) dX2_addBird_68 (by decide) ?_
        refine wf_iadd (nI ((g 9 1) + 1)) dX2_addBird_69 (nI_add (g 9 1) 1) ?_
        refine wf_putf (C := RX2) (T := TX2) (N := 14) (ty := .int) 0 9 (wg E (kk 6) a (gs (gs (gs (gs (gs g 3 (g 9 1) k) 4 (g 9 1) t) 5 (g 9 1) f) 6 (g 9 1) u) 9 1 ((g 9 1) + 1)) ++ (wk E kk ++ r)) tyX2 in_X2 tyX2_ok nmX2 rfl rfl (by decide) fl_X2_53 rfl (by decide +kernel) (by rfl) rfl (Nat.le_of_ble_eq_true rfl) (sf 0 (Nat.le_of_ble_eq_true rfl) (wg_put1 ((g 9 1) + 1))) dX2_addBird_70 ?_
        exact wf_vret rfl ⟨rfl, rfl⟩ ⟨rfl, rfl⟩ dX2_addBird_73
      · exact absurd c18 (by omega)
def eWset (g : Gd) (w h z : Nat) : Gd := gs g 8 h (if z = 0 then ldf (g 8 h) (1 <<< w) else ldf (g 8 h) (1 <<< w) ||| (1 <<< w))
abbrev rmX2_setWatched : Room := { frames := 1, cells := 0, slots := 0, locals := 21 }
set_option maxHeartbeats 4000000 in
set_option maxRecDepth 100000 in
theorem c_X2_setWatched {l : Launch} {E : Ev} {w h z : Nat} {g : Gd} {a kk : Nat → Nat} {r : va_W} (hI : Inv g) (hw : w < g 9 0) (hh : h < 8) (hz : z ≤ 1) : CT l E yX2_setWatched cX2_setWatched 5 none rmX2_setWatched [.ref (a 0), .int (nI w), .int (nI h), .int (nI z)] (wg E (kk 6) a g ++ (wk E kk ++ r)) (IS (none) (wg E (kk 6) a (eWset g w h z) ++ (wk E kk ++ r))) := by
  refine CT.of (lv := [(0, .ref (a 0)), (1, .int (nI w)), (2, .int (nI h)), (3, .int (nI z))]) false (by decide +kernel) (by decide) (Nat.le_of_ble_eq_true rfl) rfl ?_
  have f0 := hI.words
  have f1 := hI.birds
  have f2 := hI.gone
  have f3 := hI.hour
  have f4 := hI.wat h
  have sh : 1 <<< w < 1024 := by rw [Nat.shiftLeft_eq, Nat.one_mul]; exact Nat.lt_of_lt_of_le (Nat.pow_lt_pow_right (by decide) (show w < 10 by omega)) (by decide)
  have f5 := ldf_le (g 8 h) (1 <<< w)
  refine wf_aload_n 0 dX2_setWatched_0 rfl ?_
  refine wf_iload_n 1 dX2_setWatched_1 rfl ?_
  refine wf_callVD (As := [.int (nI w)]) (rest := []) 0 (c_X2_hasWord ) kV_X2_70 rfl (by decide) (by decide) (Nat.le_of_ble_eq_true rfl) rfl rfl rfl dX2_setWatched_2 ?_
  refine wf_if_eq_b 18 dX2_setWatched_5 (by decide) (fun c5 => ?_) (fun c5 => ?_)
  · exact absurd c5 (by rw [eHas_n (by omega) (by omega), decide_eq_true hw]; decide)
  · refine wf_iload_n 2 dX2_setWatched_8 rfl ?_
    refine wf_if_lt 18 dX2_setWatched_9 (by decide) (fun c9 => ?_) (fun c9 => ?_)
    · exact absurd c9 (nI_pos (by omega))
    · refine wf_iload_n 2 dX2_setWatched_12 rfl ?_
      refine wf_bipush (nI 8) dX2_setWatched_13 (by decide) ?_
      refine wf_icmp_lt_n 19 dX2_setWatched_15 (by decide) (by omega) (by omega) (fun c15 => ?_) (fun c15 => ?_)
      · refine wf_aload_n 0 dX2_setWatched_19 rfl ?_
        refine wf_getf (C := RX2) (T := TX2) (N := 14) (v := .ref (a 9)) 0 11 in_X2 rfl rfl (by decide) fl_X2_36 rfl dX2_setWatched_20 ?_
        refine wf_iload_n 2 dX2_setWatched_23 rfl ?_
        refine wf_iald_n (nI (g 8 h)) 9 rfl (by omega) (by decide) rfl dX2_setWatched_24 ?_
        refine wf_iconst (nI 1) dX2_setWatched_25 (by decide) ?_
        refine wf_iload_n 1 dX2_setWatched_26 rfl ?_
        refine wf_ishl (nI (1 <<< w)) dX2_setWatched_27 (nI_shl (by omega) (by omega)) ?_
        refine wf_iconst (-1) dX2_setWatched_28 (by decide) ?_
        refine wf_ixor (nI (1 <<< w) ^^^ -1) dX2_setWatched_29 rfl ?_
        refine wf_iand (nI (ldf (g 8 h) (1 <<< w))) dX2_setWatched_30 (nI_andn (by omega) (by omega)) ?_
        refine wf_istore [(4, .int (nI (ldf (g 8 h) (1 <<< w)))), (0, .ref (a 0)), (1, .int (nI w)), (2, .int (nI h)), (3, .int (nI z))] dX2_setWatched_31 (by decide) rfl ?_
        refine wf_aload_n 1 dX2_setWatched_33 rfl ?_
        refine wf_getf (C := RX2) (T := TX2) (N := 14) (v := .ref (a 9)) 0 11 in_X2 rfl rfl (by decide) fl_X2_36 rfl dX2_setWatched_34 ?_
        refine wf_iload_n 3 dX2_setWatched_37 rfl ?_
        refine wf_iload_n 4 dX2_setWatched_38 rfl ?_
        refine wf_if_eq_n 51 dX2_setWatched_39 (by decide) (by omega) (fun c39 => ?_) (fun c39 => ?_)
        · refine wf_iload 0 dX2_setWatched_51 rfl ?_
          refine wf_iast_n (wg E (kk 6) a (gs g 8 h (ldf (g 8 h) (1 <<< w))) ++ (wk E kk ++ r)) 9 rfl (by omega) (by decide) (sf 9 (Nat.le_of_ble_eq_true rfl) (wg_set8 h (ldf (g 8 h) (1 <<< w)))) dX2_setWatched_53 ?_
          exact wf_vret rfl ⟨rfl, rfl⟩ ⟨rfl, (by unfold eWset; rw [if_pos c39])⟩ dX2_setWatched_54
        · refine wf_iload 0 dX2_setWatched_42 rfl ?_
          refine wf_iconst (nI 1) dX2_setWatched_44 (by decide) ?_
          refine wf_iload_n 2 dX2_setWatched_45 rfl ?_
          refine wf_ishl (nI (1 <<< w)) dX2_setWatched_46 (nI_shl (by omega) (by omega)) ?_
          refine wf_ior (nI ((ldf (g 8 h) (1 <<< w)) ||| (1 <<< w))) dX2_setWatched_47 (nI_lor (by omega) (by omega)) ?_
          refine wf_goto 53 dX2_setWatched_48 (by decide) ?_
          refine wf_iast_n (wg E (kk 6) a (gs g 8 h ((ldf (g 8 h) (1 <<< w)) ||| (1 <<< w))) ++ (wk E kk ++ r)) 9 rfl (by omega) (by decide) (sf 9 (Nat.le_of_ble_eq_true rfl) (wg_set8 h ((ldf (g 8 h) (1 <<< w)) ||| (1 <<< w)))) dX2_setWatched_53 ?_
          exact wf_vret rfl ⟨rfl, rfl⟩ ⟨rfl, (by unfold eWset; rw [if_neg c39])⟩ dX2_setWatched_54
      · exact absurd c15 (by omega)
abbrev rmX2_becomeAs : Room := { frames := 1, cells := 0, slots := 0, locals := 40 }
set_option maxHeartbeats 4000000 in
set_option maxRecDepth 100000 in
theorem c_X2_becomeAs {l : Launch} {E : Ev} {b : Nat → Nat} {g2 : Gd} {g : Gd} {a kk : Nat → Nat} {r : va_W} {ax al : Nat → Nat} {an am ai : Nat} {y : Gd}  : CT l E yX2_becomeAs cX2_becomeAs 2 none rmX2_becomeAs [.ref (a 0), .ref (b 0)] (wg E (kk 6) a g ++ (wk E kk ++ (wl E al y ++ (wx E ax an am ai (al 0) y ++ (wg E (kk 6) b g2 ++ r))))) (IS (none) (wg E (kk 6) a g2 ++ (wk E kk ++ (wl E al y ++ (wx E ax an am ai (al 0) y ++ (wg E (kk 6) b g2 ++ r)))))) := by
  refine CT.of (lv := [(0, .ref (a 0)), (1, .ref (b 0))]) false (by decide +kernel) (by decide) (Nat.le_of_ble_eq_true rfl) rfl ?_
  refine wf_aload_n 1 dX2_becomeAs_0 rfl ?_
  refine wf_getf (C := RX2) (T := TX2) (N := 14) (v := .ref (b 1)) 22 1 in_X2 rfl rfl (by decide) fl_X2_9 rfl dX2_becomeAs_1 ?_
  refine wf_iconst (nI 0) dX2_becomeAs_4 (by decide) ?_
  refine wf_aload_n 0 dX2_becomeAs_5 rfl ?_
  refine wf_getf (C := RX2) (T := TX2) (N := 14) (v := .ref (a 1)) 0 1 in_X2 rfl rfl (by decide) fl_X2_9 rfl dX2_becomeAs_6 ?_
  refine wf_iconst (nI 0) dX2_becomeAs_9 (by decide) ?_
  refine wf_bipush (nI 10) dX2_becomeAs_10 (by decide) ?_
  refine wf_copyg 23 1 10 (wg E (kk 6) a (gcp g g2 0) ++ (wk E kk ++ (wl E al y ++ (wx E ax an am ai (al 0) y ++ (wg E (kk 6) b g2 ++ r))))) kac_X2_43 rfl rfl (by decide) (by decide) (by decide) (sf 1 (Nat.le_of_ble_eq_true rfl) (rfl)) dX2_becomeAs_12 ?_
  refine wf_aload_n 1 dX2_becomeAs_15 rfl ?_
  refine wf_getf (C := RX2) (T := TX2) (N := 14) (v := .ref (b 2)) 22 2 in_X2 rfl rfl (by decide) fl_X2_15 rfl dX2_becomeAs_16 ?_
  refine wf_iconst (nI 0) dX2_becomeAs_19 (by decide) ?_
  refine wf_aload_n 0 dX2_becomeAs_20 rfl ?_
  refine wf_getf (C := RX2) (T := TX2) (N := 14) (v := .ref (a 2)) 0 2 in_X2 rfl rfl (by decide) fl_X2_15 rfl dX2_becomeAs_21 ?_
  refine wf_iconst (nI 0) dX2_becomeAs_24 (by decide) ?_
  refine wf_bipush (nI 10) dX2_becomeAs_25 (by decide) ?_
  refine wf_copyg 24 2 10 (wg E (kk 6) a (gcp (gcp g g2 0) g2 1) ++ (wk E kk ++ (wl E al y ++ (wx E ax an am ai (al 0) y ++ (wg E (kk 6) b g2 ++ r))))) kac_X2_43 rfl rfl (by decide) (by decide) (by decide) (sf 2 (Nat.le_of_ble_eq_true rfl) (rfl)) dX2_becomeAs_27 ?_
  refine wf_aload_n 1 dX2_becomeAs_30 rfl ?_
  refine wf_getf (C := RX2) (T := TX2) (N := 14) (v := .ref (b 3)) 22 3 in_X2 rfl rfl (by decide) fl_X2_18 rfl dX2_becomeAs_31 ?_
  refine wf_iconst (nI 0) dX2_becomeAs_34 (by decide) ?_
  refine wf_aload_n 0 dX2_becomeAs_35 rfl ?_
  refine wf_getf (C := RX2) (T := TX2) (N := 14) (v := .ref (a 3)) 0 3 in_X2 rfl rfl (by decide) fl_X2_18 rfl dX2_becomeAs_36 ?_
  refine wf_iconst (nI 0) dX2_becomeAs_39 (by decide) ?_
  refine wf_bipush (nI 10) dX2_becomeAs_40 (by decide) ?_
  refine wf_copyg 25 3 10 (wg E (kk 6) a (gcp (gcp (gcp g g2 0) g2 1) g2 2) ++ (wk E kk ++ (wl E al y ++ (wx E ax an am ai (al 0) y ++ (wg E (kk 6) b g2 ++ r))))) kac_X2_43 rfl rfl (by decide) (by decide) (by decide) (sf 3 (Nat.le_of_ble_eq_true rfl) (rfl)) dX2_becomeAs_42 ?_
  refine wf_aload_n 0 dX2_becomeAs_45 rfl ?_
  refine wf_aload_n 1 dX2_becomeAs_46 rfl ?_
  refine wf_getf (C := RX2) (T := TX2) (N := 14) (v := .int (nI (g2 9 0))) 22 4 in_X2 rfl rfl (by decide) fl_X2_49 rfl dX2_becomeAs_47 ?_
  refine wf_putf (C := RX2) (T := TX2) (N := 14) (ty := .int) 0 4 (wg E (kk 6) a (gs (gcp (gcp (gcp g g2 0) g2 1) g2 2) 9 0 (g2 9 0)) ++ (wk E kk ++ (wl E al y ++ (wx E ax an am ai (al 0) y ++ (wg E (kk 6) b g2 ++ r))))) tyX2 in_X2 tyX2_ok nmX2 rfl rfl (by decide) fl_X2_49 rfl (by decide +kernel) (by rfl) rfl (Nat.le_of_ble_eq_true rfl) (sf 0 (Nat.le_of_ble_eq_true rfl) (wg_put0 (g2 9 0))) dX2_becomeAs_50 ?_
  refine wf_aload_n 1 dX2_becomeAs_53 rfl ?_
  refine wf_getf (C := RX2) (T := TX2) (N := 14) (v := .ref (b 4)) 22 5 in_X2 rfl rfl (by decide) fl_X2_21 rfl dX2_becomeAs_54 ?_
  refine wf_iconst (nI 0) dX2_becomeAs_57 (by decide) ?_
  refine wf_aload_n 0 dX2_becomeAs_58 rfl ?_
  refine wf_getf (C := RX2) (T := TX2) (N := 14) (v := .ref (a 4)) 0 5 in_X2 rfl rfl (by decide) fl_X2_21 rfl dX2_becomeAs_59 ?_
  refine wf_iconst (nI 0) dX2_becomeAs_62 (by decide) ?_
  refine wf_iconst (nI 4) dX2_becomeAs_63 (by decide) ?_
  refine wf_copyg 26 4 4 (wg E (kk 6) a (gcp (gs (gcp (gcp (gcp g g2 0) g2 1) g2 2) 9 0 (g2 9 0)) g2 3) ++ (wk E kk ++ (wl E al y ++ (wx E ax an am ai (al 0) y ++ (wg E (kk 6) b g2 ++ r))))) kac_X2_43 rfl rfl (by decide) (by decide) (by decide) (sf 4 (Nat.le_of_ble_eq_true rfl) (rfl)) dX2_becomeAs_64 ?_
  refine wf_aload_n 1 dX2_becomeAs_67 rfl ?_
  refine wf_getf (C := RX2) (T := TX2) (N := 14) (v := .ref (b 5)) 22 6 in_X2 rfl rfl (by decide) fl_X2_24 rfl dX2_becomeAs_68 ?_
  refine wf_iconst (nI 0) dX2_becomeAs_71 (by decide) ?_
  refine wf_aload_n 0 dX2_becomeAs_72 rfl ?_
  refine wf_getf (C := RX2) (T := TX2) (N := 14) (v := .ref (a 5)) 0 6 in_X2 rfl rfl (by decide) fl_X2_24 rfl dX2_becomeAs_73 ?_
  refine wf_iconst (nI 0) dX2_becomeAs_76 (by decide) ?_
  refine wf_iconst (nI 4) dX2_becomeAs_77 (by decide) ?_
  refine wf_copyg 27 5 4 (wg E (kk 6) a (gcp (gcp (gs (gcp (gcp (gcp g g2 0) g2 1) g2 2) 9 0 (g2 9 0)) g2 3) g2 4) ++ (wk E kk ++ (wl E al y ++ (wx E ax an am ai (al 0) y ++ (wg E (kk 6) b g2 ++ r))))) kac_X2_43 rfl rfl (by decide) (by decide) (by decide) (sf 5 (Nat.le_of_ble_eq_true rfl) (rfl)) dX2_becomeAs_78 ?_
  refine wf_aload_n 1 dX2_becomeAs_81 rfl ?_
  refine wf_getf (C := RX2) (T := TX2) (N := 14) (v := .ref (b 6)) 22 7 in_X2 rfl rfl (by decide) fl_X2_27 rfl dX2_becomeAs_82 ?_
  refine wf_iconst (nI 0) dX2_becomeAs_85 (by decide) ?_
  refine wf_aload_n 0 dX2_becomeAs_86 rfl ?_
  refine wf_getf (C := RX2) (T := TX2) (N := 14) (v := .ref (a 6)) 0 7 in_X2 rfl rfl (by decide) fl_X2_27 rfl dX2_becomeAs_87 ?_
  refine wf_iconst (nI 0) dX2_becomeAs_90 (by decide) ?_
  refine wf_iconst (nI 4) dX2_becomeAs_91 (by decide) ?_
  refine wf_copyg 28 6 4 (wg E (kk 6) a (gcp (gcp (gcp (gs (gcp (gcp (gcp g g2 0) g2 1) g2 2) 9 0 (g2 9 0)) g2 3) g2 4) g2 5) ++ (wk E kk ++ (wl E al y ++ (wx E ax an am ai (al 0) y ++ (wg E (kk 6) b g2 ++ r))))) kac_X2_43 rfl rfl (by decide) (by decide) (by decide) (sf 6 (Nat.le_of_ble_eq_true rfl) (rfl)) dX2_becomeAs_92 ?_
  refine wf_aload_n 1 dX2_becomeAs_95 rfl ?_
  refine wf_getf (C := RX2) (T := TX2) (N := 14) (v := .ref (b 7)) 22 8 in_X2 rfl rfl (by decide) fl_X2_30 rfl dX2_becomeAs_96 ?_
  refine wf_iconst (nI 0) dX2_becomeAs_99 (by decide) ?_
  refine wf_aload_n 0 dX2_becomeAs_100 rfl ?_
  refine wf_getf (C := RX2) (T := TX2) (N := 14) (v := .ref (a 7)) 0 8 in_X2 rfl rfl (by decide) fl_X2_30 rfl dX2_becomeAs_101 ?_
  refine wf_iconst (nI 0) dX2_becomeAs_104 (by decide) ?_
  refine wf_iconst (nI 4) dX2_becomeAs_105 (by decide) ?_
  refine wf_copyg 29 7 4 (wg E (kk 6) a (gcp (gcp (gcp (gcp (gs (gcp (gcp (gcp g g2 0) g2 1) g2 2) 9 0 (g2 9 0)) g2 3) g2 4) g2 5) g2 6) ++ (wk E kk ++ (wl E al y ++ (wx E ax an am ai (al 0) y ++ (wg E (kk 6) b g2 ++ r))))) kac_X2_43 rfl rfl (by decide) (by decide) (by decide) (sf 7 (Nat.le_of_ble_eq_true rfl) (rfl)) dX2_becomeAs_106 ?_
  refine wf_aload_n 0 dX2_becomeAs_109 rfl ?_
  refine wf_aload_n 1 dX2_becomeAs_110 rfl ?_
  refine wf_getf (C := RX2) (T := TX2) (N := 14) (v := .int (nI (g2 9 1))) 22 9 in_X2 rfl rfl (by decide) fl_X2_53 rfl dX2_becomeAs_111 ?_
  refine wf_putf (C := RX2) (T := TX2) (N := 14) (ty := .int) 0 9 (wg E (kk 6) a (gs (gcp (gcp (gcp (gcp (gs (gcp (gcp (gcp g g2 0) g2 1) g2 2) 9 0 (g2 9 0)) g2 3) g2 4) g2 5) g2 6) 9 1 (g2 9 1)) ++ (wk E kk ++ (wl E al y ++ (wx E ax an am ai (al 0) y ++ (wg E (kk 6) b g2 ++ r))))) tyX2 in_X2 tyX2_ok nmX2 rfl rfl (by decide) fl_X2_53 rfl (by decide +kernel) (by rfl) rfl (Nat.le_of_ble_eq_true rfl) (sf 0 (Nat.le_of_ble_eq_true rfl) (wg_put1 (g2 9 1))) dX2_becomeAs_114 ?_
  refine wf_aload_n 1 dX2_becomeAs_117 rfl ?_
  refine wf_getf (C := RX2) (T := TX2) (N := 14) (v := .ref (b 8)) 22 10 in_X2 rfl rfl (by decide) fl_X2_33 rfl dX2_becomeAs_118 ?_
  refine wf_iconst (nI 0) dX2_becomeAs_121 (by decide) ?_
  refine wf_aload_n 0 dX2_becomeAs_122 rfl ?_
  refine wf_getf (C := RX2) (T := TX2) (N := 14) (v := .ref (a 8)) 0 10 in_X2 rfl rfl (by decide) fl_X2_33 rfl dX2_becomeAs_123 ?_
  refine wf_iconst (nI 0) dX2_becomeAs_126 (by decide) ?_
  refine wf_iconst (nI 3) dX2_becomeAs_127 (by decide) ?_
  refine wf_copyg 30 8 3 (wg E (kk 6) a (gcp (gs (gcp (gcp (gcp (gcp (gs (gcp (gcp (gcp g g2 0) g2 1) g2 2) 9 0 (g2 9 0)) g2 3) g2 4) g2 5) g2 6) 9 1 (g2 9 1)) g2 7) ++ (wk E kk ++ (wl E al y ++ (wx E ax an am ai (al 0) y ++ (wg E (kk 6) b g2 ++ r))))) kac_X2_43 rfl rfl (by decide) (by decide) (by decide) (sf 8 (Nat.le_of_ble_eq_true rfl) (rfl)) dX2_becomeAs_128 ?_
  refine wf_aload_n 1 dX2_becomeAs_131 rfl ?_
  refine wf_getf (C := RX2) (T := TX2) (N := 14) (v := .ref (b 9)) 22 11 in_X2 rfl rfl (by decide) fl_X2_36 rfl dX2_becomeAs_132 ?_
  refine wf_iconst (nI 0) dX2_becomeAs_135 (by decide) ?_
  refine wf_aload_n 0 dX2_becomeAs_136 rfl ?_
  refine wf_getf (C := RX2) (T := TX2) (N := 14) (v := .ref (a 9)) 0 11 in_X2 rfl rfl (by decide) fl_X2_36 rfl dX2_becomeAs_137 ?_
  refine wf_iconst (nI 0) dX2_becomeAs_140 (by decide) ?_
  refine wf_bipush (nI 8) dX2_becomeAs_141 (by decide) ?_
  refine wf_copyg 31 9 8 (wg E (kk 6) a (gcp (gcp (gs (gcp (gcp (gcp (gcp (gs (gcp (gcp (gcp g g2 0) g2 1) g2 2) 9 0 (g2 9 0)) g2 3) g2 4) g2 5) g2 6) 9 1 (g2 9 1)) g2 7) g2 8) ++ (wk E kk ++ (wl E al y ++ (wx E ax an am ai (al 0) y ++ (wg E (kk 6) b g2 ++ r))))) kac_X2_43 rfl rfl (by decide) (by decide) (by decide) (sf 9 (Nat.le_of_ble_eq_true rfl) (rfl)) dX2_becomeAs_143 ?_
  refine wf_aload_n 0 dX2_becomeAs_146 rfl ?_
  refine wf_aload_n 1 dX2_becomeAs_147 rfl ?_
  refine wf_getf (C := RX2) (T := TX2) (N := 14) (v := .int (nI (g2 9 2))) 22 12 in_X2 rfl rfl (by decide) fl_X2_56 rfl dX2_becomeAs_148 ?_
  refine wf_putf (C := RX2) (T := TX2) (N := 14) (ty := .int) 0 12 (wg E (kk 6) a (gs (gcp (gcp (gs (gcp (gcp (gcp (gcp (gs (gcp (gcp (gcp g g2 0) g2 1) g2 2) 9 0 (g2 9 0)) g2 3) g2 4) g2 5) g2 6) 9 1 (g2 9 1)) g2 7) g2 8) 9 2 (g2 9 2)) ++ (wk E kk ++ (wl E al y ++ (wx E ax an am ai (al 0) y ++ (wg E (kk 6) b g2 ++ r))))) tyX2 in_X2 tyX2_ok nmX2 rfl rfl (by decide) fl_X2_56 rfl (by decide +kernel) (by rfl) rfl (Nat.le_of_ble_eq_true rfl) (sf 0 (Nat.le_of_ble_eq_true rfl) (wg_put2 (g2 9 2))) dX2_becomeAs_151 ?_
  refine wf_aload_n 0 dX2_becomeAs_154 rfl ?_
  refine wf_aload_n 1 dX2_becomeAs_155 rfl ?_
  refine wf_getf (C := RX2) (T := TX2) (N := 14) (v := .int (nI (g2 9 3))) 22 13 in_X2 rfl rfl (by decide) fl_X2_59 rfl dX2_becomeAs_156 ?_
  refine wf_putf (C := RX2) (T := TX2) (N := 14) (ty := .int) 0 13 (wg E (kk 6) a (gs (gs (gcp (gcp (gs (gcp (gcp (gcp (gcp (gs (gcp (gcp (gcp g g2 0) g2 1) g2 2) 9 0 (g2 9 0)) g2 3) g2 4) g2 5) g2 6) 9 1 (g2 9 1)) g2 7) g2 8) 9 2 (g2 9 2)) 9 3 (g2 9 3)) ++ (wk E kk ++ (wl E al y ++ (wx E ax an am ai (al 0) y ++ (wg E (kk 6) b g2 ++ r))))) tyX2 in_X2 tyX2_ok nmX2 rfl rfl (by decide) fl_X2_59 rfl (by decide +kernel) (by rfl) rfl (Nat.le_of_ble_eq_true rfl) (sf 0 (Nat.le_of_ble_eq_true rfl) (wg_put3 (g2 9 3))) dX2_becomeAs_159 ?_
  exact wf_vret rfl ⟨rfl, rfl⟩ ⟨rfl, rfl⟩ dX2_becomeAs_162
