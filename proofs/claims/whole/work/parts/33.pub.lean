abbrev rmX8_holds : Room := { frames := 2, cells := 0, slots := 0, locals := 44 }
set_option maxHeartbeats 4000000 in
set_option maxRecDepth 100000 in
theorem c_X8_holds {l : Launch} {E : Ev} {x : Int32} {g gm gi y : Gd} {a b c kk al ax : Nat → Nat} {r : va_W} (hI : Inv g) (hM : Inv gm) (hG : Inv gi) (hy : YI y)  : CT l E yX8_holds cX8_holds 4 (some .int) rmX8_holds [.ref (ax 0), .int x] (wg E (kk 6) a g ++ (wk E kk ++ (wl E al y ++ (wx E ax (a 0) (b 0) (c 0) (al 0) y ++ (wg E (kk 6) b gm ++ (wg E (kk 6) c gi ++ r)))))) (PX E kk a b c al ax r (sp_holds g y x) gi) := by
  refine CT.of (lv := [(0, .ref (ax 0)), (1, .int x)]) false (by decide +kernel) (by decide) (Nat.le_of_ble_eq_true rfl) rfl ?_
  have f0 := hI.words
  have f1 := hI.birds
  have f2 := hI.gone
  have f3 := hI.hour
  obtain ⟨y00, y01, y02, y1, y2⟩ := id hy
  refine wf_iload_n 1 dX8_holds_0 rfl ?_
  refine wf_if_le 11 dX8_holds_1 (by decide) (fun c1 => ?_) (fun c1 => ?_)
  · refine wf_aload_n 0 dX8_holds_11 rfl ?_
    refine wf_iconst (-1) dX8_holds_12 (by decide) ?_
    refine wf_callVD (As := [.int (-1)]) (rest := []) 19 (c_X8_refuse (k := 1) (by decide)) kV_X8_56 rfl (by decide) (by decide) (Nat.le_of_ble_eq_true rfl) rfl rfl rfl dX8_holds_13 ?_
    exact wf_iret .int rfl (vp_nar_int _) ⟨rfl, rfl⟩ (px_of (by unfold sp_holds; rw [if_pos c1]; rfl) ⟨_, hM, rfl⟩) dX8_holds_16
  · refine wf_iload_n 1 dX8_holds_4 rfl ?_
    refine wf_sipush (nI 1024) dX8_holds_5 (by decide) ?_
    refine wf_icmp_lt 17 dX8_holds_8 (by decide) (fun c8 => ?_) (fun c8 => ?_)
    · have h1 := c1
      have h0 : ¬ x < 0 := fun z => c1 (Int32.le_of_lt z)
      obtain ⟨n, hn, rfl⟩ := i_nb (k := 1024) (by decide) h0 c8
      refine wf_bipush (nI 10) dX8_holds_17 (by decide) ?_
      refine wf_istore_n [(2, .int (nI 10)), (0, .ref (ax 0)), (1, .int (nI n))] dX8_holds_19 rfl (by decide) rfl ?_
      refine wf_iconst (nI 0) dX8_holds_20 (by decide) ?_
      refine wf_istore_n [(3, .int (nI 0)), (2, .int (nI 10)), (0, .ref (ax 0)), (1, .int (nI n))] dX8_holds_21 rfl (by decide) rfl ?_
      have L22 : ∀ (fu22 : Nat) (m : Nat), 10 - m < fu22 → (m ≤ 10) → WF l E RX8 cX8_holds 4 (some .int) rmX8_holds false (fun _ => True) (QM E (wg E (kk 6) a g ++ (wk E kk ++ (wl E al y ++ (wx E ax (a 0) (b 0) (c 0) (al 0) y ++ (wg E (kk 6) b gm ++ (wg E (kk 6) c gi ++ r)))))) (PX E kk a b c al ax r (sp_holds g y (nI n)) gi) rmX8_holds) (wg E (kk 6) a g ++ (wk E kk ++ (wl E al y ++ (wx E ax (a 0) (b 0) (c 0) (al 0) y ++ (wg E (kk 6) b gm ++ (wg E (kk 6) c gi ++ r)))))) 0 0 22 [(3, .int (nI m)), (2, .int (nI (eFew g n m))), (0, .ref (ax 0)), (1, .int (nI n))] [] (wg E (kk 6) a g ++ (wk E kk ++ (wl E al y ++ (wx E ax (a 0) (b 0) (c 0) (al 0) y ++ (wg E (kk 6) b gm ++ (wg E (kk 6) c gi ++ r)))))) := by
        intro fu22
        induction fu22 with
        | zero => intro m hn; exact absurd hn (Nat.not_lt_zero _)
        | succ fu22 ih22 =>
          intro m hn hm
          have q1 := eFew_le g n m
          have q2 := eOf_le g m (g 9 0)
          refine wf_iload_n 0 dX8_holds_22 rfl ?_
          refine wf_bipush (nI 10) dX8_holds_23 (by decide) ?_
          refine wf_icmp_ge_n 56 dX8_holds_25 (by decide) (by omega) (by omega) (fun c25 => ?_) (fun c25 => ?_)
          · refine wf_iload_n 1 dX8_holds_56 rfl ?_
            refine wf_if_ne_n 65 dX8_holds_57 (by decide) (by omega) (fun c57 => ?_) (fun c57 => ?_)
            · refine wf_iload_n 1 dX8_holds_65 rfl ?_
              refine wf_iconst (nI 1) dX8_holds_66 (by decide) ?_
              refine wf_isub (nI ((eFew g n m) - 1)) dX8_holds_67 (pk_sub (by omega)) ?_
              exact wf_iret .int rfl (vp_nar_int _) ⟨rfl, rfl⟩ (px_of (by unfold sp_holds; rw [if_neg h1, if_pos c8, nI_clamp (by omega)]; unfold oks; rw [show (10 : Nat) = m by omega]; rw [if_neg c57]) ⟨_, hM, rfl⟩) dX8_holds_68
            · refine wf_bipush (-9) dX8_holds_60 (by decide) ?_
              refine wf_goto 68 dX8_holds_62 (by decide) ?_
              exact wf_iret .int rfl (vp_nar_int _) ⟨rfl, rfl⟩ (px_of (by unfold sp_holds; rw [if_neg h1, if_pos c8, nI_clamp (by omega)]; unfold oks; rw [show (10 : Nat) = m by omega]; rw [if_pos c57]) ⟨_, hM, rfl⟩) dX8_holds_68
          · refine wf_iload_n 3 dX8_holds_28 rfl ?_
            refine wf_iload_n 0 dX8_holds_29 rfl ?_
            refine wf_ishr (nI (n >>> m)) dX8_holds_30 (nI_shr (by omega) (by omega)) ?_
            refine wf_iconst (nI 1) dX8_holds_31 (by decide) ?_
            refine wf_iand (nI ((n >>> m) &&& 1)) dX8_holds_32 (nI_land (Nat.lt_of_le_of_lt (Nat.shiftRight_le _ _) (by omega)) (by decide)) ?_
            refine wf_iconst (nI 1) dX8_holds_33 (by decide) ?_
            refine wf_icmp_ne_n 50 dX8_holds_34 (by decide) (Nat.lt_trans (and1 _) (by decide)) (by decide) (fun c34 => ?_) (fun c34 => ?_)
            · refine wf_iinc (nI (m + 1)) 0 [(3, .int (nI (m + 1))), (2, .int (nI (eFew g n m))), (0, .ref (ax 0)), (1, .int (nI n))] dX8_holds_50 rfl (nI_1 m) (by decide) rfl ?_
              refine wf_goto 22 dX8_holds_53 (by decide) ?_
              refine wf_sub (lv' := [(3, .int (nI (m + 1))), (2, .int (nI (eFew g n m))), (0, .ref (ax 0)), (1, .int (nI n))]) [0, 1, 2, 3] rfl ?_
              refine wf_lvc [(3, .int (nI (m + 1))), (2, .int (nI (eFew g n (m + 1)))), (0, .ref (ax 0)), (1, .int (nI n))] (by rw [show (eFew g n m) = eFew g n (m + 1) from by show _ = (if _ then _ else _); rw [if_neg c34]]) ?_
              exact ih22 (m + 1) (by omega) (by omega)
            · refine wf_iload_n 1 dX8_holds_37 rfl ?_
              refine wf_aload_n 2 dX8_holds_38 rfl ?_
              refine wf_getf (C := RX8) (T := TX8) (N := 8) (v := .ref (a 0)) 19 0 in_X8 rfl rfl (by decide) fl_X8_30 rfl dX8_holds_39 ?_
              refine wf_iload_n 0 dX8_holds_42 rfl ?_
              refine wf_callVD (As := [.int (nI m)]) (rest := [.int (nI (eFew g n m))]) 0 (c_X2_countLeftOf hI (by omega)) kV_X8_172 rfl (by decide) (by decide) (Nat.le_of_ble_eq_true rfl) rfl rfl rfl dX8_holds_43 ?_
              refine wf_math_min (nI (min (eFew g n m) (eOf g m (g 9 0)))) km_X8_175 (by decide) (by decide) (by decide) (ii_min (by omega) (by omega)) dX8_holds_46 ?_
              refine wf_istore_n [(2, .int (nI (min (eFew g n m) (eOf g m (g 9 0))))), (3, .int (nI m)), (0, .ref (ax 0)), (1, .int (nI n))] dX8_holds_49 rfl (by decide) rfl ?_
              refine wf_iinc (nI (m + 1)) 1 [(3, .int (nI (m + 1))), (2, .int (nI (min (eFew g n m) (eOf g m (g 9 0))))), (0, .ref (ax 0)), (1, .int (nI n))] dX8_holds_50 rfl (nI_1 m) (by decide) rfl ?_
              refine wf_goto 22 dX8_holds_53 (by decide) ?_
              refine wf_sub (lv' := [(3, .int (nI (m + 1))), (2, .int (nI (min (eFew g n m) (eOf g m (g 9 0))))), (0, .ref (ax 0)), (1, .int (nI n))]) [0, 1, 2, 3] rfl ?_
              refine wf_lvc [(3, .int (nI (m + 1))), (2, .int (nI (eFew g n (m + 1)))), (0, .ref (ax 0)), (1, .int (nI n))] (by rw [show (min (eFew g n m) (eOf g m (g 9 0))) = eFew g n (m + 1) from by show _ = (if _ then _ else _); rw [if_pos c34]]) ?_
              exact ih22 (m + 1) (by omega) (by omega)
      refine wf_sub (lv' := [(3, .int (nI 0)), (2, .int (nI 10)), (0, .ref (ax 0)), (1, .int (nI n))]) [0, 1, 2, 3] rfl ?_
      exact L22 _ 0 (Nat.lt_succ_self _) (by decide)
    · refine wf_aload_n 0 dX8_holds_11 rfl ?_
      refine wf_iconst (-1) dX8_holds_12 (by decide) ?_
      refine wf_callVD (As := [.int (-1)]) (rest := []) 19 (c_X8_refuse (k := 1) (by decide)) kV_X8_56 rfl (by decide) (by decide) (Nat.le_of_ble_eq_true rfl) rfl rfl rfl dX8_holds_13 ?_
      exact wf_iret .int rfl (vp_nar_int _) ⟨rfl, rfl⟩ (px_of (by unfold sp_holds; rw [if_neg c1, if_neg c8]; rfl) ⟨_, hM, rfl⟩) dX8_holds_16
abbrev rmX8_guard : Room := { frames := 5, cells := 0, slots := 0, locals := 116 }
set_option maxHeartbeats 4000000 in
set_option maxRecDepth 100000 in
theorem c_X8_guard {l : Launch} {E : Ev}  {g gm gi y : Gd} {a b c kk al ax : Nat → Nat} {r : va_W} (hI : Inv g) (hM : Inv gm) (hG : Inv gi) (hy : YI y)  : CT l E yX8_guard cX8_guard 6 (some .int) rmX8_guard [.ref (ax 0)] (wg E (kk 6) a g ++ (wk E kk ++ (wl E al y ++ (wx E ax (a 0) (b 0) (c 0) (al 0) y ++ (wg E (kk 6) b gm ++ (wg E (kk 6) c gi ++ r)))))) (PX E kk a b c al ax r (sp_guard g y) gi) := by
  refine CT.of (lv := [(0, .ref (ax 0))]) false (by decide +kernel) (by decide) (Nat.le_of_ble_eq_true rfl) rfl ?_
  have f0 := hI.words
  have f1 := hI.birds
  have f2 := hI.gone
  have f3 := hI.hour
  obtain ⟨y00, y01, y02, y1, y2⟩ := id hy
  refine wf_bipush (-9) dX8_guard_0 (by decide) ?_
  refine wf_istore_n [(1, .int (-9)), (0, .ref (ax 0))] dX8_guard_2 rfl (by decide) rfl ?_
  refine wf_iconst (-1) dX8_guard_3 (by decide) ?_
  refine wf_istore_n [(2, .int (-1)), (1, .int (-9)), (0, .ref (ax 0))] dX8_guard_4 rfl (by decide) rfl ?_
  refine wf_aload_n 2 dX8_guard_5 rfl ?_
  refine wf_getf (C := RX8) (T := TX8) (N := 8) (v := .ref (a 0)) 19 0 in_X8 rfl rfl (by decide) fl_X8_30 rfl dX8_guard_6 ?_
  refine wf_getf (C := RX2) (T := TX2) (N := 14) (v := .int (nI (g 9 3))) 0 13 in_X2 rfl rfl (by decide) fl_X8_105 rfl dX8_guard_9 ?_
  refine wf_istore_n [(3, .int (nI (g 9 3))), (2, .int (-1)), (1, .int (-9)), (0, .ref (ax 0))] dX8_guard_12 rfl (by decide) rfl ?_
  have L13 : ∀ (fu13 : Nat) (n : Nat) (gw : Gd), 8 - g 9 3 - n < fu13 → (n ≤ 8 - g 9 3) → (Inv gw) → WF l E RX8 cX8_guard 6 (some .int) rmX8_guard false (fun _ => True) (QM E (wg E (kk 6) a g ++ (wk E kk ++ (wl E al y ++ (wx E ax (a 0) (b 0) (c 0) (al 0) y ++ (wg E (kk 6) b gm ++ (wg E (kk 6) c gi ++ r)))))) (PX E kk a b c al ax r (sp_guard g y) gi) rmX8_guard) (wg E (kk 6) a g ++ (wk E kk ++ (wl E al y ++ (wx E ax (a 0) (b 0) (c 0) (al 0) y ++ (wg E (kk 6) b gm ++ (wg E (kk 6) c gi ++ r)))))) 0 0 13 [(3, .int (nI (g 9 3 + n))), (2, .int (eG1 (eGu g n).2)), (1, .int (eO (eGu g n).1)), (0, .ref (ax 0))] [] (wg E (kk 6) a g ++ (wk E kk ++ (wl E al y ++ (wx E ax (a 0) (b 0) (c 0) (al 0) y ++ (wg E (kk 6) b gw ++ (wg E (kk 6) c gi ++ r)))))) := by
    intro fu13
    induction fu13 with
    | zero => intro n gw hn; exact absurd hn (Nat.not_lt_zero _)
    | succ fu13 ih13 =>
      intro n gw hn hn0 hW
      have q1 := eGu_le g n
      have q2 := eLeftN_le (eDk (gs g 8 (g 9 3 + n) (eAll g)))
      have q3 : eGuV g (g 9 3 + n) ≤ 10 := q2
      refine wf_iload_n 0 dX8_guard_13 rfl ?_
      refine wf_bipush (nI 8) dX8_guard_14 (by decide) ?_
      refine wf_icmp_ge_n 61 dX8_guard_16 (by decide) (by omega) (by omega) (fun c16 => ?_) (fun c16 => ?_)
      · refine wf_iload_n 2 dX8_guard_61 rfl ?_
        exact wf_iret .int rfl (vp_nar_int _) ⟨rfl, rfl⟩ (px_of (by unfold sp_guard; rw [show n = 8 - g 9 3 by omega]; rfl) ⟨_, hW, rfl⟩) dX8_guard_62
      · refine wf_aload_n 3 dX8_guard_19 rfl ?_
        refine wf_callVD (As := []) (rest := []) 19 (c_X8_mindAsNow) kV_X8_156 rfl (by decide) (by decide) (Nat.le_of_ble_eq_true rfl) rfl rfl rfl dX8_guard_20 ?_
        refine wf_astore [(4, .ref (b 0)), (3, .int (nI (g 9 3 + n))), (2, .int (eG1 (eGu g n).2)), (1, .int (eO (eGu g n).1)), (0, .ref (ax 0))] dX8_guard_23 (by decide) rfl ?_
        refine wf_aload 0 dX8_guard_25 rfl ?_
        refine wf_getf (C := RX2) (T := TX2) (N := 14) (v := .ref (b 9)) 22 11 in_X2 rfl rfl (by decide) fl_X8_194 rfl dX8_guard_27 ?_
        refine wf_iload_n 1 dX8_guard_30 rfl ?_
        refine wf_aload 0 dX8_guard_31 rfl ?_
        refine wf_perm (w' := wg E (kk 6) b g ++ (wk E kk ++ (wl E al y ++ (wx E ax (a 0) (b 0) (c 0) (al 0) y ++ (wg E (kk 6) a g ++ (wg E (kk 6) c gi ++ r)))))) pm4 ?_
        refine wf_callVD (As := []) (rest := [.int (nI (g 9 3 + n)), .ref (b 9)]) 0 (c_X2_allWords hI) kV_X8_188 rfl (by decide) (by decide) (Nat.le_of_ble_eq_true rfl) rfl rfl rfl dX8_guard_33 ?_
        refine wf_perm (w' := wg E (kk 6) a g ++ (wk E kk ++ (wl E al y ++ (wx E ax (a 0) (b 0) (c 0) (al 0) y ++ (wg E (kk 6) b g ++ (wg E (kk 6) c gi ++ r)))))) pm4 ?_
        refine wf_iast_n (wg E (kk 6) a g ++ (wk E kk ++ (wl E al y ++ (wx E ax (a 0) (b 0) (c 0) (al 0) y ++ (wg E (kk 6) b (gs g 8 (g 9 3 + n) (eAll g)) ++ (wg E (kk 6) c gi ++ r)))))) 31 rfl (by omega) (by decide) (so 10 21 rfl (so 7 14 rfl (so 2 12 rfl (so 3 9 rfl (sf 9 (Nat.le_of_ble_eq_true rfl) (wg_set8 (g 9 3 + n) (eAll g))))))) dX8_guard_36 ?_
        refine wf_aload 0 dX8_guard_37 rfl ?_
        refine wf_perm (w' := wg E (kk 6) b (gs g 8 (g 9 3 + n) (eAll g)) ++ (wk E kk ++ (wl E al y ++ (wx E ax (a 0) (b 0) (c 0) (al 0) y ++ (wg E (kk 6) a g ++ (wg E (kk 6) c gi ++ r)))))) pm4 ?_
        refine wf_callVD (As := []) (rest := []) 0 (c_X2_passTillDusk (hI.oWat hI.oAllW)) kV_X8_166 rfl (by decide) (by decide) (Nat.le_of_ble_eq_true rfl) rfl rfl rfl dX8_guard_39 ?_
        refine wf_perm (w' := wg E (kk 6) a g ++ (wk E kk ++ (wl E al y ++ (wx E ax (a 0) (b 0) (c 0) (al 0) y ++ (wg E (kk 6) b (eDk (gs g 8 (g 9 3 + n) (eAll g))) ++ (wg E (kk 6) c gi ++ r)))))) pm4 ?_
        refine wf_istore [(5, .int (nI (eLeftN (eDk (gs g 8 (g 9 3 + n) (eAll g)))))), (4, .ref (b 0)), (3, .int (nI (g 9 3 + n))), (2, .int (eG1 (eGu g n).2)), (1, .int (eO (eGu g n).1)), (0, .ref (ax 0))] dX8_guard_42 (by decide) rfl ?_
        refine wf_iload 0 dX8_guard_44 rfl ?_
        refine wf_iload_n 3 dX8_guard_46 rfl ?_
        refine wf_icmp_le 55 dX8_guard_47 (by decide) (fun c47 => ?_) (fun c47 => ?_)
        · refine wf_iinc (nI (g 9 3 + n + 1)) 2 [(3, .int (nI (g 9 3 + n + 1))), (5, .int (nI (eLeftN (eDk (gs g 8 (g 9 3 + n) (eAll g)))))), (4, .ref (b 0)), (2, .int (eG1 (eGu g n).2)), (1, .int (eO (eGu g n).1)), (0, .ref (ax 0))] dX8_guard_55 rfl (nI_1 (g 9 3 + n)) (by decide) rfl ?_
          refine wf_goto 13 dX8_guard_58 (by decide) ?_
          refine wf_sub (lv' := [(3, .int (nI (g 9 3 + n + 1))), (2, .int (eG1 (eGu g n).2)), (1, .int (eO (eGu g n).1)), (0, .ref (ax 0))]) [0, 3, 4, 5] rfl ?_
          have hq : eGu g (n + 1) = eGu g n := by show (if _ then _ else _) = _; rw [if_neg (by have := (eG1_lt (by omega) (by omega)).mp c47; unfold eGuV; omega)]
          refine wf_lvc [(3, .int (nI (g 9 3 + n + 1))), (2, .int (eG1 (eGu g (n + 1)).2)), (1, .int (eO (eGu g (n + 1)).1)), (0, .ref (ax 0))] (by rw [hq]) ?_
          exact ih13 (n + 1) _ (by omega) (by omega) ((hI.oWat hI.oAllW).oHrs _)
        · refine wf_iload 0 dX8_guard_50 rfl ?_
          refine wf_istore_n [(2, .int (nI (eLeftN (eDk (gs g 8 (g 9 3 + n) (eAll g)))))), (5, .int (nI (eLeftN (eDk (gs g 8 (g 9 3 + n) (eAll g)))))), (4, .ref (b 0)), (3, .int (nI (g 9 3 + n))), (1, .int (eO (eGu g n).1)), (0, .ref (ax 0))] dX8_guard_52 rfl (by decide) rfl ?_
          refine wf_iload_n 3 dX8_guard_53 rfl ?_
          refine wf_istore_n [(1, .int (nI (g 9 3 + n))), (2, .int (nI (eLeftN (eDk (gs g 8 (g 9 3 + n) (eAll g)))))), (5, .int (nI (eLeftN (eDk (gs g 8 (g 9 3 + n) (eAll g)))))), (4, .ref (b 0)), (3, .int (nI (g 9 3 + n))), (0, .ref (ax 0))] dX8_guard_54 rfl (by decide) rfl ?_
          refine wf_iinc (nI (g 9 3 + n + 1)) 4 [(3, .int (nI (g 9 3 + n + 1))), (1, .int (nI (g 9 3 + n))), (2, .int (nI (eLeftN (eDk (gs g 8 (g 9 3 + n) (eAll g)))))), (5, .int (nI (eLeftN (eDk (gs g 8 (g 9 3 + n) (eAll g)))))), (4, .ref (b 0)), (0, .ref (ax 0))] dX8_guard_55 rfl (nI_1 (g 9 3 + n)) (by decide) rfl ?_
          refine wf_goto 13 dX8_guard_58 (by decide) ?_
          refine wf_sub (lv' := [(3, .int (nI (g 9 3 + n + 1))), (2, .int (nI (eLeftN (eDk (gs g 8 (g 9 3 + n) (eAll g)))))), (1, .int (nI (g 9 3 + n))), (0, .ref (ax 0))]) [0, 2, 1, 5] rfl ?_
          have hq : eGu g (n + 1) = (some (g 9 3 + n), eGuV g (g 9 3 + n) + 1) := by show (if _ then _ else _) = _; rw [if_pos (by have := mt (eG1_lt (v := eGuV g (g 9 3 + n)) (m := (eGu g n).2) (by omega) (by omega)).mpr c47; omega)]
          refine wf_lvc [(3, .int (nI (g 9 3 + n + 1))), (2, .int (eG1 (eGu g (n + 1)).2)), (1, .int (eO (eGu g (n + 1)).1)), (0, .ref (ax 0))] (by rw [hq, eG1_s]; rfl) ?_
          exact ih13 (n + 1) _ (by omega) (by omega) ((hI.oWat hI.oAllW).oHrs _)
  refine wf_sub (lv' := [(3, .int (nI (g 9 3))), (2, .int (-1)), (1, .int (-9)), (0, .ref (ax 0))]) [0, 1, 2, 3] rfl ?_
  refine wf_lvc [(3, .int (nI (g 9 3 + 0))), (2, .int (eG1 (eGu g 0).2)), (1, .int (eO (eGu g 0).1)), (0, .ref (ax 0))] (by rw [show (eGu g 0).2 = 0 from rfl, eG1_0]; rfl) ?_
  exact L13 _ 0 gm (Nat.lt_succ_self _) (Nat.zero_le _) hM
abbrev rmX8_winter : Room := { frames := 5, cells := 0, slots := 0, locals := 116 }
set_option maxHeartbeats 4000000 in
set_option maxRecDepth 100000 in
theorem c_X8_winter {l : Launch} {E : Ev} {x : Int32} {g gm gi y : Gd} {a b c kk al ax : Nat → Nat} {r : va_W} (hI : Inv g) (hM : Inv gm) (hG : Inv gi) (hy : YI y)  : CT l E yX8_winter cX8_winter 4 (some .int) rmX8_winter [.ref (ax 0), .int x] (wg E (kk 6) a g ++ (wk E kk ++ (wl E al y ++ (wx E ax (a 0) (b 0) (c 0) (al 0) y ++ (wg E (kk 6) b gm ++ (wg E (kk 6) c gi ++ r)))))) (PX E kk a b c al ax r (sp_winter g y x) gi) := by
  refine CT.of (lv := [(0, .ref (ax 0)), (1, .int x)]) false (by decide +kernel) (by decide) (Nat.le_of_ble_eq_true rfl) rfl ?_
  have f0 := hI.words
  have f1 := hI.birds
  have f2 := hI.gone
  have f3 := hI.hour
  obtain ⟨y00, y01, y02, y1, y2⟩ := id hy
  refine wf_aload_n 0 dX8_winter_0 rfl ?_
  refine wf_getf (C := RX8) (T := TX8) (N := 8) (v := .ref (a 0)) 19 0 in_X8 rfl rfl (by decide) fl_X8_30 rfl dX8_winter_1 ?_
  refine wf_iload_n 1 dX8_winter_4 rfl ?_
  refine wf_callVD (As := [.int x]) (rest := []) 0 (c_X2_hasBird ) kV_X8_112 rfl (by decide) (by decide) (Nat.le_of_ble_eq_true rfl) rfl rfl rfl dX8_winter_5 ?_
  refine wf_if_ne_b 20 dX8_winter_8 (by decide) (fun c8 => ?_) (fun c8 => ?_)
  · obtain ⟨j, hj, rfl⟩ := eHas_i (by omega) c8
    refine wf_aload_n 0 dX8_winter_20 rfl ?_
    refine wf_callVD (As := []) (rest := []) 19 (c_X8_mindAsNow) kV_X8_156 rfl (by decide) (by decide) (Nat.le_of_ble_eq_true rfl) rfl rfl rfl dX8_winter_21 ?_
    refine wf_perm (w' := wg E (kk 6) b g ++ (wk E kk ++ (wl E al y ++ (wx E ax (a 0) (b 0) (c 0) (al 0) y ++ (wg E (kk 6) a g ++ (wg E (kk 6) c gi ++ r)))))) pm4 ?_
    refine wf_callVD (As := []) (rest := []) 0 (c_X2_passTillDusk hI) kV_X8_166 rfl (by decide) (by decide) (Nat.le_of_ble_eq_true rfl) rfl rfl rfl dX8_winter_24 ?_
    refine wf_perm (w' := wg E (kk 6) a g ++ (wk E kk ++ (wl E al y ++ (wx E ax (a 0) (b 0) (c 0) (al 0) y ++ (wg E (kk 6) b (eDk g) ++ (wg E (kk 6) c gi ++ r)))))) pm4 ?_
    refine wf_istore_n [(2, .int (nI (eLeftN (eDk g)))), (0, .ref (ax 0)), (1, .int (nI j))] dX8_winter_27 rfl (by decide) rfl ?_
    refine wf_aload_n 1 dX8_winter_28 rfl ?_
    refine wf_callVD (As := []) (rest := []) 19 (c_X8_mindAsNow) kV_X8_156 rfl (by decide) (by decide) (Nat.le_of_ble_eq_true rfl) rfl rfl rfl dX8_winter_29 ?_
    refine wf_astore_n [(3, .ref (b 0)), (2, .int (nI (eLeftN (eDk g)))), (0, .ref (ax 0)), (1, .int (nI j))] dX8_winter_32 rfl (by decide) rfl ?_
    refine wf_aload_n 0 dX8_winter_33 rfl ?_
    refine wf_iload_n 3 dX8_winter_34 rfl ?_
    refine wf_perm (w' := wg E (kk 6) b g ++ (wk E kk ++ (wl E al y ++ (wx E ax (a 0) (b 0) (c 0) (al 0) y ++ (wg E (kk 6) a g ++ (wg E (kk 6) c gi ++ r)))))) pm4 ?_
    refine wf_callVv (As := [.int (nI j)]) (rest := []) 0 (c_X2_keepAway (by omega)) kV_X8_198 rfl (by decide) (by decide) (Nat.le_of_ble_eq_true rfl) rfl rfl rfl dX8_winter_35 ?_
    refine wf_perm (w' := wg E (kk 6) a g ++ (wk E kk ++ (wl E al y ++ (wx E ax (a 0) (b 0) (c 0) (al 0) y ++ (wg E (kk 6) b (gs g 5 j 8) ++ (wg E (kk 6) c gi ++ r)))))) pm4 ?_
    refine wf_aload_n 0 dX8_winter_38 rfl ?_
    refine wf_perm (w' := wg E (kk 6) b (gs g 5 j 8) ++ (wk E kk ++ (wl E al y ++ (wx E ax (a 0) (b 0) (c 0) (al 0) y ++ (wg E (kk 6) a g ++ (wg E (kk 6) c gi ++ r)))))) pm4 ?_
    refine wf_callVD (As := []) (rest := []) 0 (c_X2_passTillDusk (hI.oFrom (by decide))) kV_X8_166 rfl (by decide) (by decide) (Nat.le_of_ble_eq_true rfl) rfl rfl rfl dX8_winter_39 ?_
    refine wf_perm (w' := wg E (kk 6) a g ++ (wk E kk ++ (wl E al y ++ (wx E ax (a 0) (b 0) (c 0) (al 0) y ++ (wg E (kk 6) b (eDk (gs g 5 j 8)) ++ (wg E (kk 6) c gi ++ r)))))) pm4 ?_
    refine wf_iload_n 1 dX8_winter_42 rfl ?_
    refine wf_isub ((nI (eLeftN (eDk (gs g 5 j 8)))) - (nI (eLeftN (eDk g)))) dX8_winter_43 rfl ?_
    exact wf_iret .int rfl (vp_nar_int _) ⟨rfl, rfl⟩ (px_of (by unfold sp_winter; rw [if_neg (by rw [c8]; decide), nI_clamp (by omega)]; rfl) ⟨_, ((hI.oFrom (by decide)).oHrs _), rfl⟩) dX8_winter_44
  · refine wf_ldc (v := (nI 1000000000)) con_X8_197 dX8_winter_11 ?_
    refine wf_aload_n 0 dX8_winter_13 rfl ?_
    refine wf_iconst (-1) dX8_winter_14 (by decide) ?_
    refine wf_callVD (As := [.int (-1)]) (rest := [.int (nI 1000000000)]) 19 (c_X8_refuse (k := 1) (by decide)) kV_X8_56 rfl (by decide) (by decide) (Nat.le_of_ble_eq_true rfl) rfl rfl rfl dX8_winter_15 ?_
    refine wf_isub ((nI 1000000000) - (-nI 1)) dX8_winter_18 rfl ?_
    exact wf_iret .int rfl (vp_nar_int _) ⟨rfl, rfl⟩ (px_of (by unfold sp_winter; rw [if_pos c8]) ⟨_, hM, rfl⟩) dX8_winter_19
abbrev rmX8_becomes : Room := { frames := 4, cells := 0, slots := 0, locals := 95 }
set_option maxHeartbeats 4000000 in
set_option maxRecDepth 100000 in
theorem c_X8_becomes {l : Launch} {E : Ev}  {g gm gi y : Gd} {a b c kk al ax : Nat → Nat} {r : va_W} (hI : Inv g) (hM : Inv gm) (hG : Inv gi) (hy : YI y)  : CT l E yX8_becomes cX8_becomes 4 (some .int) rmX8_becomes [.ref (ax 0)] (wg E (kk 6) a g ++ (wk E kk ++ (wl E al y ++ (wx E ax (a 0) (b 0) (c 0) (al 0) y ++ (wg E (kk 6) b gm ++ (wg E (kk 6) c gi ++ r)))))) (PX E kk a b c al ax r (sp_becomes g y) gi) := by
  refine CT.of (lv := [(0, .ref (ax 0))]) false (by decide +kernel) (by decide) (Nat.le_of_ble_eq_true rfl) rfl ?_
  have f0 := hI.words
  have f1 := hI.birds
  have f2 := hI.gone
  have f3 := hI.hour
  obtain ⟨y00, y01, y02, y1, y2⟩ := id hy
  refine wf_aload_n 0 dX8_becomes_0 rfl ?_
  refine wf_callVD (As := []) (rest := []) 19 (c_X8_mindAsNow) kV_X8_156 rfl (by decide) (by decide) (Nat.le_of_ble_eq_true rfl) rfl rfl rfl dX8_becomes_1 ?_
  refine wf_astore_n [(1, .ref (b 0)), (0, .ref (ax 0))] dX8_becomes_4 rfl (by decide) rfl ?_
  refine wf_bipush (nI 8) dX8_becomes_5 (by decide) ?_
  refine wf_aload_n 1 dX8_becomes_7 rfl ?_
  refine wf_getf (C := RX8) (T := TX8) (N := 8) (v := .ref (a 0)) 19 0 in_X8 rfl rfl (by decide) fl_X8_30 rfl dX8_becomes_8 ?_
  refine wf_getf (C := RX2) (T := TX2) (N := 14) (v := .int (nI (g 9 3))) 0 13 in_X2 rfl rfl (by decide) fl_X8_105 rfl dX8_becomes_11 ?_
  refine wf_isub (nI (8 - (g 9 3))) dX8_becomes_14 (pk_sub (by omega)) ?_
  refine wf_istore_n [(2, .int (nI (8 - (g 9 3)))), (1, .ref (b 0)), (0, .ref (ax 0))] dX8_becomes_15 rfl (by decide) rfl ?_
  refine wf_iconst (nI 0) dX8_becomes_16 (by decide) ?_
  refine wf_istore_n [(3, .int (nI 0)), (2, .int (nI (8 - (g 9 3)))), (1, .ref (b 0)), (0, .ref (ax 0))] dX8_becomes_17 rfl (by decide) rfl ?_
  have L18 : ∀ (fu18 : Nat) (n : Nat), 9 - g 9 3 - n < fu18 → (n ≤ 9 - g 9 3) → (eBec g y (9 - g 9 3 - n) n = eBec g y (9 - g 9 3) 0) → WF l E RX8 cX8_becomes 4 (some .int) rmX8_becomes false (fun _ => True) (QM E (wg E (kk 6) a g ++ (wk E kk ++ (wl E al y ++ (wx E ax (a 0) (b 0) (c 0) (al 0) y ++ (wg E (kk 6) b gm ++ (wg E (kk 6) c gi ++ r)))))) (PX E kk a b c al ax r (sp_becomes g y) gi) rmX8_becomes) (wg E (kk 6) a g ++ (wk E kk ++ (wl E al y ++ (wx E ax (a 0) (b 0) (c 0) (al 0) y ++ (wg E (kk 6) b gm ++ (wg E (kk 6) c gi ++ r)))))) 0 0 18 [(3, .int (nI n)), (2, .int (nI (8 - g 9 3))), (1, .ref (b 0)), (0, .ref (ax 0))] [] (wg E (kk 6) a g ++ (wk E kk ++ (wl E al y ++ (wx E ax (a 0) (b 0) (c 0) (al 0) y ++ (wg E (kk 6) b (eHrs g n) ++ (wg E (kk 6) c gi ++ r)))))) := by
    intro fu18
    induction fu18 with
    | zero => intro n hn; exact absurd hn (Nat.not_lt_zero _)
    | succ fu18 ih18 =>
      intro n hn hn0 hb
      have e90 : eHrs g n 9 0 = g 9 0 := eHrs_f (by decide) (by decide)
      have hpo : eO (eOther (eHrs g n) (y 2) (y 0 2) (eHrs g n 9 0) 0 0) = -9 ↔ eOther (eHrs g n) (y 2) (y 0 2) (g 9 0) 0 0 = none := by rw [e90]; exact eO_none_iff (eOther_lt _ _ _ (by omega))
      refine wf_iload_n 0 dX8_becomes_18 rfl ?_
      refine wf_iload_n 1 dX8_becomes_19 rfl ?_
      refine wf_icmp_gt_n 53 dX8_becomes_20 (by decide) (by omega) (by omega) (fun c20 => ?_) (fun c20 => ?_)
      · refine wf_bipush (-9) dX8_becomes_53 (by decide) ?_
        exact wf_iret .int rfl (vp_nar_int _) ⟨rfl, rfl⟩ (px_of (by unfold sp_becomes; rw [← hb, show 9 - g 9 3 - n = 0 by omega]; rfl) ⟨_, (hI.oHrs n), rfl⟩) dX8_becomes_55
      · refine wf_aload_n 2 dX8_becomes_23 rfl ?_
        refine wf_aload_n 3 dX8_becomes_24 rfl ?_
        refine wf_getf (C := RX8) (T := TX8) (N := 8) (v := .ref (ax 1)) 19 5 in_X8 rfl rfl (by decide) fl_X8_49 rfl dX8_becomes_25 ?_
        refine wf_aload_n 3 dX8_becomes_28 rfl ?_
        refine wf_getf (C := RX8) (T := TX8) (N := 8) (v := .int (nI (y 0 2))) 19 6 in_X8 rfl rfl (by decide) fl_X8_202 rfl dX8_becomes_29 ?_
        refine wf_perm (w' := wg E (kk 6) b (eHrs g n) ++ (wk E kk ++ (wl E al y ++ (wx E ax (a 0) (b 0) (c 0) (al 0) y ++ (wg E (kk 6) a g ++ (wg E (kk 6) c gi ++ r)))))) pm4 ?_
        refine wf_callVD (As := [.ref (ax 1), .int (nI (y 0 2))]) (rest := []) 0 (c_X2_placeOtherThan (hI.oHrs n) y2 y02) kV_X8_205 rfl (by decide) (by decide) (Nat.le_of_ble_eq_true rfl) rfl rfl rfl dX8_becomes_32 ?_
        refine wf_perm (w' := wg E (kk 6) a g ++ (wk E kk ++ (wl E al y ++ (wx E ax (a 0) (b 0) (c 0) (al 0) y ++ (wg E (kk 6) b (eHrs g n) ++ (wg E (kk 6) c gi ++ r)))))) pm4 ?_
        refine wf_bipush (-9) dX8_becomes_35 (by decide) ?_
        refine wf_icmp_ne 42 dX8_becomes_37 (by decide) (fun c37 => ?_) (fun c37 => ?_)
        · refine wf_aload_n 2 dX8_becomes_42 rfl ?_
          refine wf_perm (w' := wg E (kk 6) b (eHrs g n) ++ (wk E kk ++ (wl E al y ++ (wx E ax (a 0) (b 0) (c 0) (al 0) y ++ (wg E (kk 6) a g ++ (wg E (kk 6) c gi ++ r)))))) pm4 ?_
          refine wf_callVD (As := []) (rest := []) 0 (c_X2_passHour (hI.oHrs n)) kV_X8_149 rfl (by decide) (by decide) (Nat.le_of_ble_eq_true rfl) rfl rfl rfl dX8_becomes_43 ?_
          refine wf_perm (w' := wg E (kk 6) a g ++ (wk E kk ++ (wl E al y ++ (wx E ax (a 0) (b 0) (c 0) (al 0) y ++ (wg E (kk 6) b (eHr (eHrs g n)) ++ (wg E (kk 6) c gi ++ r)))))) pm4 ?_
          refine wf_pop dX8_becomes_46 rfl ?_
          refine wf_iinc (nI (n + 1)) 0 [(3, .int (nI (n + 1))), (2, .int (nI (8 - g 9 3))), (1, .ref (b 0)), (0, .ref (ax 0))] dX8_becomes_47 rfl (nI_1 n) (by decide) rfl ?_
          refine wf_goto 18 dX8_becomes_50 (by decide) ?_
          refine wf_sub (lv' := [(3, .int (nI (n + 1))), (2, .int (nI (8 - g 9 3))), (1, .ref (b 0)), (0, .ref (ax 0))]) [0, 1, 2, 3] rfl ?_
          exact ih18 (n + 1) (by omega) (by omega) (by rw [← hb, show 9 - g 9 3 - n = (9 - g 9 3 - (n + 1)) + 1 by omega]; symm; show (if _ then _ else _) = _; rw [if_neg (fun z => c37 (hpo.mpr z))])
        · refine wf_iload_n 0 dX8_becomes_40 rfl ?_
          exact wf_iret .int rfl (vp_nar_int _) ⟨rfl, rfl⟩ (px_of (by unfold sp_becomes; rw [← hb, show 9 - g 9 3 - n = (8 - g 9 3 - n) + 1 by omega]; show _ = (nI n, _, _); unfold oks; rw [show eBec g y (8 - g 9 3 - n + 1) n = nI n from by show (if _ then _ else _) = _; rw [if_pos (hpo.mp c37)]]) ⟨_, (hI.oHrs n), rfl⟩) dX8_becomes_41
  refine wf_sub (lv' := [(3, .int (nI 0)), (2, .int (nI (8 - (g 9 3)))), (1, .ref (b 0)), (0, .ref (ax 0))]) [0, 1, 2, 3] rfl ?_
  exact L18 _ 0 (Nat.lt_succ_self _) (Nat.zero_le _) rfl
abbrev rmX8_danger : Room := { frames := 5, cells := 0, slots := 0, locals := 116 }
set_option maxHeartbeats 4000000 in
set_option maxRecDepth 100000 in
theorem c_X8_danger {l : Launch} {E : Ev}  {g gm gi y : Gd} {a b c kk al ax : Nat → Nat} {r : va_W} (hI : Inv g) (hM : Inv gm) (hG : Inv gi) (hy : YI y)  : CT l E yX8_danger cX8_danger 3 (some .int) rmX8_danger [.ref (ax 0)] (wg E (kk 6) a g ++ (wk E kk ++ (wl E al y ++ (wx E ax (a 0) (b 0) (c 0) (al 0) y ++ (wg E (kk 6) b gm ++ (wg E (kk 6) c gi ++ r)))))) (PX E kk a b c al ax r (sp_danger g y) gi) := by
  refine CT.of (lv := [(0, .ref (ax 0))]) false (by decide +kernel) (by decide) (Nat.le_of_ble_eq_true rfl) rfl ?_
  have f0 := hI.words
  have f1 := hI.birds
  have f2 := hI.gone
  have f3 := hI.hour
  have q1 := eMean_lt hI (g 9 0)
  have q2 := eMean_lt (hI.oHrs (8 - g 9 3)) (eDk g 9 0)
  obtain ⟨y00, y01, y02, y1, y2⟩ := id hy
  refine wf_aload_n 0 dX8_danger_0 rfl ?_
  refine wf_getf (C := RX8) (T := TX8) (N := 8) (v := .ref (a 0)) 19 0 in_X8 rfl rfl (by decide) fl_X8_30 rfl dX8_danger_1 ?_
  refine wf_callVD (As := []) (rest := []) 0 (c_X2_leftMeanings hI) kV_X8_169 rfl (by decide) (by decide) (Nat.le_of_ble_eq_true rfl) rfl rfl rfl dX8_danger_4 ?_
  refine wf_istore_n [(1, .int (nI (eMean g (g 9 0)))), (0, .ref (ax 0))] dX8_danger_7 rfl (by decide) rfl ?_
  refine wf_aload_n 1 dX8_danger_8 rfl ?_
  refine wf_callVD (As := []) (rest := []) 19 (c_X8_mindAsNow) kV_X8_156 rfl (by decide) (by decide) (Nat.le_of_ble_eq_true rfl) rfl rfl rfl dX8_danger_9 ?_
  refine wf_astore_n [(2, .ref (b 0)), (1, .int (nI (eMean g (g 9 0)))), (0, .ref (ax 0))] dX8_danger_12 rfl (by decide) rfl ?_
  refine wf_aload_n 0 dX8_danger_13 rfl ?_
  refine wf_perm (w' := wg E (kk 6) b g ++ (wk E kk ++ (wl E al y ++ (wx E ax (a 0) (b 0) (c 0) (al 0) y ++ (wg E (kk 6) a g ++ (wg E (kk 6) c gi ++ r)))))) pm4 ?_
  refine wf_callVD (As := []) (rest := []) 0 (c_X2_passTillDusk hI) kV_X8_166 rfl (by decide) (by decide) (Nat.le_of_ble_eq_true rfl) rfl rfl rfl dX8_danger_14 ?_
  refine wf_perm (w' := wg E (kk 6) a g ++ (wk E kk ++ (wl E al y ++ (wx E ax (a 0) (b 0) (c 0) (al 0) y ++ (wg E (kk 6) b (eDk g) ++ (wg E (kk 6) c gi ++ r)))))) pm4 ?_
  refine wf_pop dX8_danger_17 rfl ?_
  refine wf_iload_n 1 dX8_danger_18 rfl ?_
  refine wf_aload_n 0 dX8_danger_19 rfl ?_
  refine wf_perm (w' := wg E (kk 6) b (eDk g) ++ (wk E kk ++ (wl E al y ++ (wx E ax (a 0) (b 0) (c 0) (al 0) y ++ (wg E (kk 6) a g ++ (wg E (kk 6) c gi ++ r)))))) pm4 ?_
  refine wf_callVD (As := []) (rest := [.int (nI (eMean g (g 9 0)))]) 0 (c_X2_leftMeanings (hI.oHrs _)) kV_X8_169 rfl (by decide) (by decide) (Nat.le_of_ble_eq_true rfl) rfl rfl rfl dX8_danger_20 ?_
  refine wf_perm (w' := wg E (kk 6) a g ++ (wk E kk ++ (wl E al y ++ (wx E ax (a 0) (b 0) (c 0) (al 0) y ++ (wg E (kk 6) b (eDk g) ++ (wg E (kk 6) c gi ++ r)))))) pm4 ?_
  refine wf_iconst (-1) dX8_danger_23 (by decide) ?_
  refine wf_ixor (nI (eMean (eDk g) ((eDk g) 9 0)) ^^^ -1) dX8_danger_24 rfl ?_
  refine wf_iand (nI (ldf (eMean g (g 9 0)) (eMean (eDk g) ((eDk g) 9 0)))) dX8_danger_25 (nI_andn (by omega) (by show eMean (eHrs g (8 - g 9 3)) _ < _; exact Nat.lt_trans q2 (by decide))) ?_
  exact wf_iret .int rfl (vp_nar_int _) ⟨rfl, rfl⟩ (px_of (by unfold sp_danger; rw [show eDk g 9 0 = g 9 0 from eHrs_f (by decide) (by decide)]; rfl) ⟨_, (hI.oHrs _), rfl⟩) dX8_danger_26
abbrev rmX8_lasts : Room := { frames := 5, cells := 0, slots := 0, locals := 117 }
set_option maxHeartbeats 4000000 in
set_option maxRecDepth 100000 in
theorem c_X8_lasts {l : Launch} {E : Ev} {x : Int32} {g gm gi y : Gd} {a b c kk al ax : Nat → Nat} {r : va_W} (hI : Inv g) (hM : Inv gm) (hG : Inv gi) (hy : YI y)  : CT l E yX8_lasts cX8_lasts 7 (some .int) rmX8_lasts [.ref (ax 0), .int x] (wg E (kk 6) a g ++ (wk E kk ++ (wl E al y ++ (wx E ax (a 0) (b 0) (c 0) (al 0) y ++ (wg E (kk 6) b gm ++ (wg E (kk 6) c gi ++ r)))))) (PX E kk a b c al ax r (sp_lasts g y x) gi) := by
  refine CT.of (lv := [(0, .ref (ax 0)), (1, .int x)]) false (by decide +kernel) (by decide) (Nat.le_of_ble_eq_true rfl) rfl ?_
  have f0 := hI.words
  have f1 := hI.birds
  have f2 := hI.gone
  have f3 := hI.hour
  obtain ⟨y00, y01, y02, y1, y2⟩ := id hy
  refine wf_aload_n 0 dX8_lasts_0 rfl ?_
  refine wf_getf (C := RX8) (T := TX8) (N := 8) (v := .ref (a 0)) 19 0 in_X8 rfl rfl (by decide) fl_X8_30 rfl dX8_lasts_1 ?_
  refine wf_iload_n 1 dX8_lasts_4 rfl ?_
  refine wf_callVD (As := [.int x]) (rest := []) 0 (c_X2_hasWord ) kV_X8_86 rfl (by decide) (by decide) (Nat.le_of_ble_eq_true rfl) rfl rfl rfl dX8_lasts_5 ?_
  refine wf_if_ne_b 17 dX8_lasts_8 (by decide) (fun c8 => ?_) (fun c8 => ?_)
  · obtain ⟨j, hj, rfl⟩ := eHas_i (by omega) c8
    refine wf_aload_n 0 dX8_lasts_17 rfl ?_
    refine wf_getf (C := RX8) (T := TX8) (N := 8) (v := .ref (a 0)) 19 0 in_X8 rfl rfl (by decide) fl_X8_30 rfl dX8_lasts_18 ?_
    refine wf_iload_n 1 dX8_lasts_21 rfl ?_
    refine wf_callVD (As := [.int (nI j)]) (rest := []) 0 (c_X2_isGone hI (by omega)) kV_X8_102 rfl (by decide) (by decide) (Nat.le_of_ble_eq_true rfl) rfl rfl rfl dX8_lasts_22 ?_
    refine wf_if_eq_b 35 dX8_lasts_25 (by decide) (fun c25 => ?_) (fun c25 => ?_)
    · refine wf_iconst (nI 0) dX8_lasts_35 (by decide) ?_
      refine wf_istore_n [(2, .int (nI 0)), (0, .ref (ax 0)), (1, .int (nI j))] dX8_lasts_36 rfl (by decide) rfl ?_
      refine wf_iconst (-1) dX8_lasts_37 (by decide) ?_
      refine wf_istore_n [(3, .int (-1)), (2, .int (nI 0)), (0, .ref (ax 0)), (1, .int (nI j))] dX8_lasts_38 rfl (by decide) rfl ?_
      refine wf_iconst (nI 0) dX8_lasts_39 (by decide) ?_
      refine wf_istore [(4, .int (nI 0)), (3, .int (-1)), (2, .int (nI 0)), (0, .ref (ax 0)), (1, .int (nI j))] dX8_lasts_40 (by decide) rfl ?_
      have L42 : ∀ (fu42 : Nat) (i : Nat) (gw : Gd), 3 - i < fu42 → (i ≤ 3) → (Inv gw) → WF l E RX8 cX8_lasts 7 (some .int) rmX8_lasts false (fun _ => True) (QM E (wg E (kk 6) a g ++ (wk E kk ++ (wl E al y ++ (wx E ax (a 0) (b 0) (c 0) (al 0) y ++ (wg E (kk 6) b gm ++ (wg E (kk 6) c gi ++ r)))))) (PX E kk a b c al ax r (sp_lasts g y (nI j)) gi) rmX8_lasts) (wg E (kk 6) a g ++ (wk E kk ++ (wl E al y ++ (wx E ax (a 0) (b 0) (c 0) (al 0) y ++ (wg E (kk 6) b gm ++ (wg E (kk 6) c gi ++ r)))))) 0 0 42 [(4, .int (nI i)), (3, .int (eG1 (eLa g j i).2)), (2, .int (nI ((eLa g j i).1))), (0, .ref (ax 0)), (1, .int (nI j))] [] (wg E (kk 6) a g ++ (wk E kk ++ (wl E al y ++ (wx E ax (a 0) (b 0) (c 0) (al 0) y ++ (wg E (kk 6) b gw ++ (wg E (kk 6) c gi ++ r)))))) := by
        intro fu42
        induction fu42 with
        | zero => intro i gw hn; exact absurd hn (Nat.not_lt_zero _)
        | succ fu42 ih42 =>
          intro i gw hn hi0 hW
          have q1 := eLa_le g j i f3
          have q2 : eLaV g j i ≤ 8 := eGoes_le (gs g 1 j i) j (8 - g 9 3) (by show g 9 3 + _ ≤ 8; omega)
          refine wf_iload 0 dX8_lasts_42 rfl ?_
          refine wf_iconst (nI 3) dX8_lasts_44 (by decide) ?_
          refine wf_icmp_ge_n 89 dX8_lasts_45 (by decide) (by omega) (by omega) (fun c45 => ?_) (fun c45 => ?_)
          · refine wf_iload_n 2 dX8_lasts_89 rfl ?_
            exact wf_iret .int rfl (vp_nar_int _) ⟨rfl, rfl⟩ (px_of (by unfold sp_lasts; rw [if_neg (by rw [c8]; decide), nI_clamp (by omega), if_neg (by rw [c25]; decide), show (3 : Nat) = i by omega]; rfl) ⟨_, hW, rfl⟩) dX8_lasts_90
          · refine wf_aload_n 3 dX8_lasts_48 rfl ?_
            refine wf_callVD (As := []) (rest := []) 19 (c_X8_mindAsNow) kV_X8_156 rfl (by decide) (by decide) (Nat.le_of_ble_eq_true rfl) rfl rfl rfl dX8_lasts_49 ?_
            refine wf_astore [(5, .ref (b 0)), (4, .int (nI i)), (3, .int (eG1 (eLa g j i).2)), (2, .int (nI ((eLa g j i).1))), (0, .ref (ax 0)), (1, .int (nI j))] dX8_lasts_52 (by decide) rfl ?_
            refine wf_aload 0 dX8_lasts_54 rfl ?_
            refine wf_getf (C := RX2) (T := TX2) (N := 14) (v := .ref (b 2)) 22 2 in_X2 rfl rfl (by decide) fl_X8_93 rfl dX8_lasts_56 ?_
            refine wf_iload_n 5 dX8_lasts_59 rfl ?_
            refine wf_iload 1 dX8_lasts_60 rfl ?_
            refine wf_iast_n (wg E (kk 6) a g ++ (wk E kk ++ (wl E al y ++ (wx E ax (a 0) (b 0) (c 0) (al 0) y ++ (wg E (kk 6) b (gs g 1 j i) ++ (wg E (kk 6) c gi ++ r)))))) 24 rfl (by omega) (by decide) (so 10 14 rfl (so 7 7 rfl (so 2 5 rfl (so 3 2 rfl (sf 2 (Nat.le_of_ble_eq_true rfl) (wg_set1 j i)))))) dX8_lasts_62 ?_
            refine wf_aload 0 dX8_lasts_63 rfl ?_
            refine wf_iload_n 5 dX8_lasts_65 rfl ?_
            refine wf_perm (w' := wg E (kk 6) b (gs g 1 j i) ++ (wk E kk ++ (wl E al y ++ (wx E ax (a 0) (b 0) (c 0) (al 0) y ++ (wg E (kk 6) a g ++ (wg E (kk 6) c gi ++ r)))))) pm4 ?_
            refine wf_callV (As := [.int (nI j)]) (rest := []) 0 (c_X2_hourOfGoing (hI.oInk (by omega)) (by omega)) kV_X8_163 rfl (by decide) (by decide) (Nat.le_of_ble_eq_true rfl) rfl rfl rfl dX8_lasts_66 (fun v w2 hp => ?_)
            obtain ⟨rfl, g2, hg2, rfl⟩ := hp
            refine wf_st [.int (nI (eGoes (gs g 1 j i) j (8 - (gs g 1 j i) 9 3)))] rfl ?_
            refine wf_cs rfl rfl ?_
            refine wf_perm (w' := wg E (kk 6) a g ++ (wk E kk ++ (wl E al y ++ (wx E ax (a 0) (b 0) (c 0) (al 0) y ++ (wg E (kk 6) b g2 ++ (wg E (kk 6) c gi ++ r)))))) pm4 ?_
            refine wf_istore [(6, .int (nI (eGoes (gs g 1 j i) j (8 - (gs g 1 j i) 9 3)))), (5, .ref (b 0)), (4, .int (nI i)), (3, .int (eG1 (eLa g j i).2)), (2, .int (nI ((eLa g j i).1))), (0, .ref (ax 0)), (1, .int (nI j))] dX8_lasts_69 (by decide) rfl ?_
            refine wf_iload 0 dX8_lasts_71 rfl ?_
            refine wf_iload_n 3 dX8_lasts_73 rfl ?_
            refine wf_icmp_le 83 dX8_lasts_74 (by decide) (fun c74 => ?_) (fun c74 => ?_)
            · refine wf_iinc (nI (i + 1)) 2 [(4, .int (nI (i + 1))), (6, .int (nI (eGoes (gs g 1 j i) j (8 - (gs g 1 j i) 9 3)))), (5, .ref (b 0)), (3, .int (eG1 (eLa g j i).2)), (2, .int (nI ((eLa g j i).1))), (0, .ref (ax 0)), (1, .int (nI j))] dX8_lasts_83 rfl (nI_1 i) (by decide) rfl ?_
              refine wf_goto 42 dX8_lasts_86 (by decide) ?_
              refine wf_sub (lv' := [(4, .int (nI (i + 1))), (3, .int (eG1 (eLa g j i).2)), (2, .int (nI ((eLa g j i).1))), (0, .ref (ax 0)), (1, .int (nI j))]) [0, 3, 4, 5, 6] rfl ?_
              have hq : eLa g j (i + 1) = eLa g j i := by show (if _ then _ else _) = _; rw [if_neg (by have := (eG1_lt (v := eLaV g j i) (m := (eLa g j i).2) (by omega) (by omega)).mp c74; omega)]
              refine wf_lvc [(4, .int (nI (i + 1))), (3, .int (eG1 (eLa g j (i + 1)).2)), (2, .int (nI ((eLa g j (i + 1)).1))), (0, .ref (ax 0)), (1, .int (nI j))] (by rw [hq]) ?_
              exact ih42 (i + 1) _ (by omega) (by omega) hg2
            · refine wf_iload 0 dX8_lasts_77 rfl ?_
              refine wf_istore_n [(3, .int (nI (eGoes (gs g 1 j i) j (8 - (gs g 1 j i) 9 3)))), (6, .int (nI (eGoes (gs g 1 j i) j (8 - (gs g 1 j i) 9 3)))), (5, .ref (b 0)), (4, .int (nI i)), (2, .int (nI ((eLa g j i).1))), (0, .ref (ax 0)), (1, .int (nI j))] dX8_lasts_79 rfl (by decide) rfl ?_
              refine wf_iload 3 dX8_lasts_80 rfl ?_
              refine wf_istore_n [(2, .int (nI i)), (3, .int (nI (eGoes (gs g 1 j i) j (8 - (gs g 1 j i) 9 3)))), (6, .int (nI (eGoes (gs g 1 j i) j (8 - (gs g 1 j i) 9 3)))), (5, .ref (b 0)), (4, .int (nI i)), (0, .ref (ax 0)), (1, .int (nI j))] dX8_lasts_82 rfl (by decide) rfl ?_
              refine wf_iinc (nI (i + 1)) 4 [(4, .int (nI (i + 1))), (2, .int (nI i)), (3, .int (nI (eGoes (gs g 1 j i) j (8 - (gs g 1 j i) 9 3)))), (6, .int (nI (eGoes (gs g 1 j i) j (8 - (gs g 1 j i) 9 3)))), (5, .ref (b 0)), (0, .ref (ax 0)), (1, .int (nI j))] dX8_lasts_83 rfl (nI_1 i) (by decide) rfl ?_
              refine wf_goto 42 dX8_lasts_86 (by decide) ?_
              refine wf_sub (lv' := [(4, .int (nI (i + 1))), (3, .int (nI (eGoes (gs g 1 j i) j (8 - (gs g 1 j i) 9 3)))), (2, .int (nI i)), (0, .ref (ax 0)), (1, .int (nI j))]) [0, 2, 1, 5, 6] rfl ?_
              have hq : eLa g j (i + 1) = (i, eLaV g j i + 1) := by show (if _ then _ else _) = _; rw [if_pos (by have := mt (eG1_lt (v := eLaV g j i) (m := (eLa g j i).2) (by omega) (by omega)).mpr c74; omega)]
              refine wf_lvc [(4, .int (nI (i + 1))), (3, .int (eG1 (eLa g j (i + 1)).2)), (2, .int (nI ((eLa g j (i + 1)).1))), (0, .ref (ax 0)), (1, .int (nI j))] (by rw [hq, eG1_s]; rfl) ?_
              exact ih42 (i + 1) _ (by omega) (by omega) hg2
      refine wf_sub (lv' := [(4, .int (nI 0)), (3, .int (-1)), (2, .int (nI 0)), (0, .ref (ax 0)), (1, .int (nI j))]) [0, 1, 2, 3, 4] rfl ?_
      refine wf_lvc [(4, .int (nI 0)), (3, .int (eG1 (eLa g j 0).2)), (2, .int (nI ((eLa g j 0).1))), (0, .ref (ax 0)), (1, .int (nI j))] (by rw [show (eLa g j 0).2 = 0 from rfl, eG1_0]; rfl) ?_
      exact L42 _ 0 gm (Nat.lt_succ_self _) (Nat.zero_le _) hM
    · refine wf_aload_n 0 dX8_lasts_28 rfl ?_
      refine wf_bipush (-3) dX8_lasts_29 (by decide) ?_
      refine wf_callVD (As := [.int (-3)]) (rest := []) 19 (c_X8_refuse (k := 3) (by decide)) kV_X8_56 rfl (by decide) (by decide) (Nat.le_of_ble_eq_true rfl) rfl rfl rfl dX8_lasts_31 ?_
      exact wf_iret .int rfl (vp_nar_int _) ⟨rfl, rfl⟩ (px_of (by unfold sp_lasts; rw [if_neg (by rw [c8]; decide), nI_clamp (by omega), if_pos c25]; rfl) ⟨_, hM, rfl⟩) dX8_lasts_34
  · refine wf_aload_n 0 dX8_lasts_11 rfl ?_
    refine wf_iconst (-1) dX8_lasts_12 (by decide) ?_
    refine wf_callVD (As := [.int (-1)]) (rest := []) 19 (c_X8_refuse (k := 1) (by decide)) kV_X8_56 rfl (by decide) (by decide) (Nat.le_of_ble_eq_true rfl) rfl rfl rfl dX8_lasts_13 ?_
    exact wf_iret .int rfl (vp_nar_int _) ⟨rfl, rfl⟩ (px_of (by unfold sp_lasts; rw [if_pos c8]; rfl) ⟨_, hM, rfl⟩) dX8_lasts_16
abbrev rmX8_row : Room := { frames := 1, cells := 0, slots := 0, locals := 22 }
set_option maxHeartbeats 4000000 in
set_option maxRecDepth 100000 in
theorem c_X8_row {l : Launch} {E : Ev} {x : Int32} {g gm gi y : Gd} {a b c kk al ax : Nat → Nat} {r : va_W} (hI : Inv g) (hM : Inv gm) (hG : Inv gi) (hy : YI y)  : CT l E yX8_row cX8_row 2 (some .int) rmX8_row [.ref (ax 0), .int x] (wg E (kk 6) a g ++ (wk E kk ++ (wl E al y ++ (wx E ax (a 0) (b 0) (c 0) (al 0) y ++ (wg E (kk 6) b gm ++ (wg E (kk 6) c gi ++ r)))))) (PX E kk a b c al ax r (sp_row g y x) gi) := by
  refine CT.of (lv := [(0, .ref (ax 0)), (1, .int x)]) false (by decide +kernel) (by decide) (Nat.le_of_ble_eq_true rfl) rfl ?_
  have f0 := hI.words
  have f1 := hI.birds
  have f2 := hI.gone
  have f3 := hI.hour
  obtain ⟨y00, y01, y02, y1, y2⟩ := id hy
  refine wf_iload_n 1 dX8_row_0 rfl ?_
  refine wf_if_ge 11 dX8_row_1 (by decide) (fun c1 => ?_) (fun c1 => ?_)
  · refine wf_iload_n 1 dX8_row_11 rfl ?_
    refine wf_bipush (nI 9) dX8_row_12 (by decide) ?_
    refine wf_icmp_gt 26 dX8_row_14 (by decide) (fun c14 => ?_) (fun c14 => ?_)
    · refine wf_aload_n 0 dX8_row_26 rfl ?_
      refine wf_bipush (-6) dX8_row_27 (by decide) ?_
      refine wf_callVD (As := [.int (-6)]) (rest := []) 19 (c_X8_refuse (k := 6) (by decide)) kV_X8_56 rfl (by decide) (by decide) (Nat.le_of_ble_eq_true rfl) rfl rfl rfl dX8_row_29 ?_
      exact wf_iret .int rfl (vp_nar_int _) ⟨rfl, rfl⟩ (px_of (by unfold sp_row; rw [if_neg (Int32.not_lt.mpr c1), if_pos c14]; rfl) ⟨_, hM, rfl⟩) dX8_row_32
    · have h0 := Int32.not_lt.mpr c1
      obtain ⟨n, hn, rfl⟩ := i_le (k := 9) (by decide) h0 c14
      refine wf_aload_n 0 dX8_row_17 rfl ?_
      refine wf_getf (C := RX8) (T := TX8) (N := 8) (v := .int (nI (y 0 2))) 19 6 in_X8 rfl rfl (by decide) fl_X8_202 rfl dX8_row_18 ?_
      refine wf_bipush (nI 10) dX8_row_21 (by decide) ?_
      refine wf_icmp_lt_n 33 dX8_row_23 (by decide) (by omega) (by omega) (fun c23 => ?_) (fun c23 => ?_)
      · refine wf_aload_n 0 dX8_row_33 rfl ?_
        refine wf_getf (C := RX8) (T := TX8) (N := 8) (v := .ref (ax 1)) 19 5 in_X8 rfl rfl (by decide) fl_X8_49 rfl dX8_row_34 ?_
        refine wf_aload_n 0 dX8_row_37 rfl ?_
        refine wf_getf (C := RX8) (T := TX8) (N := 8) (v := .int (nI (y 0 2))) 19 6 in_X8 rfl rfl (by decide) fl_X8_202 rfl dX8_row_38 ?_
        refine wf_iload_n 1 dX8_row_41 rfl ?_
        refine wf_iast_n (wg E (kk 6) a g ++ (wk E kk ++ (wl E al y ++ (wx E ax (a 0) (b 0) (c 0) (al 0) (gs y 2 (y 0 2) n) ++ (wg E (kk 6) b gm ++ (wg E (kk 6) c gi ++ r)))))) 20 rfl (by omega) (by decide) (so 10 10 rfl (so 7 3 rfl (so 2 1 rfl (sf 1 (Nat.le_of_ble_eq_true rfl) (wx_set2 (y 0 2) n))))) dX8_row_42 ?_
        refine wf_aload_n 0 dX8_row_43 rfl ?_
        refine wf_dup dX8_row_44 rfl ?_
        refine wf_getf (C := RX8) (T := TX8) (N := 8) (v := .int (nI (y 0 2))) 19 6 in_X8 rfl rfl (by decide) fl_X8_202 rfl dX8_row_45 ?_
        refine wf_iconst (nI 1) dX8_row_48 (by decide) ?_
        refine wf_iadd (nI ((y 0 2) + 1)) dX8_row_49 (nI_add (y 0 2) 1) ?_
        refine wf_putf (C := RX8) (T := TX8) (N := 8) (ty := .int) 19 6 (wg E (kk 6) a g ++ (wk E kk ++ (wl E al y ++ (wx E ax (a 0) (b 0) (c 0) (al 0) (gs (gs y 2 (y 0 2) n) 0 2 ((y 0 2) + 1)) ++ (wg E (kk 6) b gm ++ (wg E (kk 6) c gi ++ r)))))) tyX8 in_X8 tyX8_ok nmX8 rfl rfl (by decide) fl_X8_202 rfl (by decide +kernel) (by rfl) rfl (Nat.le_of_ble_eq_true rfl) (so 10 9 rfl (so 7 2 rfl (so 2 0 rfl (sf 0 (Nat.le_of_ble_eq_true rfl) (wx_put2 ((y 0 2) + 1)))))) dX8_row_50 ?_
        refine wf_aload_n 0 dX8_row_53 rfl ?_
        refine wf_getf (C := RX8) (T := TX8) (N := 8) (v := .int (nI ((y 0 2) + 1))) 19 6 in_X8 rfl rfl (by decide) fl_X8_202 rfl dX8_row_54 ?_
        exact wf_iret .int rfl (vp_nar_int _) ⟨rfl, rfl⟩ (px_of (by unfold sp_row; rw [if_neg h0, if_neg c14, if_pos c23, nI_clamp (by omega)]) ⟨_, hM, rfl⟩) dX8_row_57
      · refine wf_aload_n 0 dX8_row_26 rfl ?_
        refine wf_bipush (-6) dX8_row_27 (by decide) ?_
        refine wf_callVD (As := [.int (-6)]) (rest := []) 19 (c_X8_refuse (k := 6) (by decide)) kV_X8_56 rfl (by decide) (by decide) (Nat.le_of_ble_eq_true rfl) rfl rfl rfl dX8_row_29 ?_
        exact wf_iret .int rfl (vp_nar_int _) ⟨rfl, rfl⟩ (px_of (by unfold sp_row; rw [if_neg h0, if_neg c14, if_neg (by omega)]; rfl) ⟨_, hM, rfl⟩) dX8_row_32
  · refine wf_aload_n 0 dX8_row_4 rfl ?_
    refine wf_bipush (-4) dX8_row_5 (by decide) ?_
    refine wf_callVD (As := [.int (-4)]) (rest := []) 19 (c_X8_refuse (k := 4) (by decide)) kV_X8_56 rfl (by decide) (by decide) (Nat.le_of_ble_eq_true rfl) rfl rfl rfl dX8_row_7 ?_
    exact wf_iret .int rfl (vp_nar_int _) ⟨rfl, rfl⟩ (px_of (by unfold sp_row; rw [if_pos (Int32.not_le.mp c1)]; rfl) ⟨_, hM, rfl⟩) dX8_row_10
abbrev rmX8_judge : Room := { frames := 2, cells := 0, slots := 0, locals := 45 }
set_option maxHeartbeats 4000000 in
set_option maxRecDepth 100000 in
theorem c_X8_judge {l : Launch} {E : Ev}  {g gm gi y : Gd} {a b c kk al ax : Nat → Nat} {r : va_W} (hI : Inv g) (hM : Inv gm) (hG : Inv gi) (hy : YI y)  : CT l E yX8_judge cX8_judge 2 (some .int) rmX8_judge [.ref (ax 0)] (wg E (kk 6) a g ++ (wk E kk ++ (wl E al y ++ (wx E ax (a 0) (b 0) (c 0) (al 0) y ++ (wg E (kk 6) b gm ++ (wg E (kk 6) c gi ++ r)))))) (PX E kk a b c al ax r (sp_judge g y) gi) := by
  refine CT.of (lv := [(0, .ref (ax 0))]) false (by decide +kernel) (by decide) (Nat.le_of_ble_eq_true rfl) rfl ?_
  have f0 := hI.words
  have f1 := hI.birds
  have f2 := hI.gone
  have f3 := hI.hour
  obtain ⟨y00, y01, y02, y1, y2⟩ := id hy
  refine wf_aload_n 0 dX8_judge_0 rfl ?_
  refine wf_getf (C := RX8) (T := TX8) (N := 8) (v := .ref (a 0)) 19 0 in_X8 rfl rfl (by decide) fl_X8_30 rfl dX8_judge_1 ?_
  refine wf_aload_n 0 dX8_judge_4 rfl ?_
  refine wf_getf (C := RX8) (T := TX8) (N := 8) (v := .ref (ax 1)) 19 5 in_X8 rfl rfl (by decide) fl_X8_49 rfl dX8_judge_5 ?_
  refine wf_aload_n 0 dX8_judge_8 rfl ?_
  refine wf_getf (C := RX8) (T := TX8) (N := 8) (v := .int (nI (y 0 2))) 19 6 in_X8 rfl rfl (by decide) fl_X8_202 rfl dX8_judge_9 ?_
  refine wf_callVD (As := [.ref (ax 1), .int (nI (y 0 2))]) (rest := []) 0 (c_X2_placeOtherThan hI y2 y02) kV_X8_205 rfl (by decide) (by decide) (Nat.le_of_ble_eq_true rfl) rfl rfl rfl dX8_judge_12 ?_
  refine wf_istore_n [(1, .int (eO (eOther g (y 2) (y 0 2) (g 9 0) 0 0))), (0, .ref (ax 0))] dX8_judge_15 rfl (by decide) rfl ?_
  refine wf_aload_n 1 dX8_judge_16 rfl ?_
  refine wf_iconst (nI 0) dX8_judge_17 (by decide) ?_
  refine wf_putf (C := RX8) (T := TX8) (N := 8) (ty := .int) 19 6 (wg E (kk 6) a g ++ (wk E kk ++ (wl E al y ++ (wx E ax (a 0) (b 0) (c 0) (al 0) (gs y 0 2 0) ++ (wg E (kk 6) b gm ++ (wg E (kk 6) c gi ++ r)))))) tyX8 in_X8 tyX8_ok nmX8 rfl rfl (by decide) fl_X8_202 rfl (by decide +kernel) (by rfl) rfl (Nat.le_of_ble_eq_true rfl) (so 10 9 rfl (so 7 2 rfl (so 2 0 rfl (sf 0 (Nat.le_of_ble_eq_true rfl) (wx_put2 0))))) dX8_judge_18 ?_
  refine wf_iload_n 0 dX8_judge_21 rfl ?_
  exact wf_iret .int rfl (vp_nar_int _) ⟨rfl, rfl⟩ (px_of (by rfl) ⟨_, hM, rfl⟩) dX8_judge_22
abbrev rmX8_image : Room := { frames := 2, cells := 0, slots := 0, locals := 61 }
set_option maxHeartbeats 4000000 in
set_option maxRecDepth 100000 in
theorem c_X8_image {l : Launch} {E : Ev}  {g gm gi y : Gd} {a b c kk al ax : Nat → Nat} {r : va_W} (hI : Inv g) (hM : Inv gm) (hG : Inv gi) (hy : YI y)  : CT l E yX8_image cX8_image 1 (some .int) rmX8_image [.ref (ax 0)] (wg E (kk 6) a g ++ (wk E kk ++ (wl E al y ++ (wx E ax (a 0) (b 0) (c 0) (al 0) y ++ (wg E (kk 6) b gm ++ (wg E (kk 6) c gi ++ r)))))) (PX E kk a b c al ax r (sp_image g y) g) := by
  refine CT.of (lv := [(0, .ref (ax 0))]) false (by decide +kernel) (by decide) (Nat.le_of_ble_eq_true rfl) rfl ?_
  have f0 := hI.words
  have f1 := hI.birds
  have f2 := hI.gone
  have f3 := hI.hour
  obtain ⟨y00, y01, y02, y1, y2⟩ := id hy
  refine wf_aload_n 0 dX8_image_0 rfl ?_
  refine wf_getf (C := RX8) (T := TX8) (N := 8) (v := .ref (c 0)) 19 2 in_X8 rfl rfl (by decide) fl_X8_39 rfl dX8_image_1 ?_
  refine wf_aload_n 0 dX8_image_4 rfl ?_
  refine wf_getf (C := RX8) (T := TX8) (N := 8) (v := .ref (a 0)) 19 0 in_X8 rfl rfl (by decide) fl_X8_30 rfl dX8_image_5 ?_
  refine wf_perm (w' := wg E (kk 6) a g ++ (wk E kk ++ (wl E al y ++ (wx E ax (a 0) (b 0) (c 0) (al 0) y ++ (wg E (kk 6) c gi ++ (wg E (kk 6) b gm ++ r)))))) pm_sw ?_
  refine wf_perm (w' := wg E (kk 6) c gi ++ (wk E kk ++ (wl E al y ++ (wx E ax (a 0) (b 0) (c 0) (al 0) y ++ (wg E (kk 6) a g ++ (wg E (kk 6) b gm ++ r)))))) pm4 ?_
  refine wf_callVv (As := [.ref (a 0)]) (rest := []) 0 (c_X2_becomeAs) kV_X8_228 rfl (by decide) (by decide) (Nat.le_of_ble_eq_true rfl) rfl rfl rfl dX8_image_8 ?_
  refine wf_perm (w' := wg E (kk 6) a g ++ (wk E kk ++ (wl E al y ++ (wx E ax (a 0) (b 0) (c 0) (al 0) y ++ (wg E (kk 6) c g ++ (wg E (kk 6) b gm ++ r)))))) pm4 ?_
  refine wf_perm (w' := wg E (kk 6) a g ++ (wk E kk ++ (wl E al y ++ (wx E ax (a 0) (b 0) (c 0) (al 0) y ++ (wg E (kk 6) b gm ++ (wg E (kk 6) c g ++ r)))))) pm_sw ?_
  refine wf_aload_n 0 dX8_image_11 rfl ?_
  refine wf_iconst (nI 1) dX8_image_12 (by decide) ?_
  refine wf_putf (C := RX8) (T := TX8) (N := 8) (ty := .boolean) 19 3 (wg E (kk 6) a g ++ (wk E kk ++ (wl E al y ++ (wx E ax (a 0) (b 0) (c 0) (al 0) (gs y 0 0 1) ++ (wg E (kk 6) b gm ++ (wg E (kk 6) c g ++ r)))))) tyX8 in_X8 tyX8_ok nmX8 rfl rfl (by decide) fl_X8_232 rfl (by decide +kernel) (by decide) (by decide) (Nat.le_of_ble_eq_true rfl) (so 10 9 rfl (so 7 2 rfl (so 2 0 rfl (sf 0 (Nat.le_of_ble_eq_true rfl) (wx_put0 1))))) dX8_image_13 ?_
  refine wf_aload_n 0 dX8_image_16 rfl ?_
  refine wf_getf (C := RX8) (T := TX8) (N := 8) (v := .ref (a 0)) 19 0 in_X8 rfl rfl (by decide) fl_X8_30 rfl dX8_image_17 ?_
  refine wf_getf (C := RX2) (T := TX2) (N := 14) (v := .int (nI (g 9 3))) 0 13 in_X2 rfl rfl (by decide) fl_X8_105 rfl dX8_image_20 ?_
  exact wf_iret .int rfl (vp_nar_int _) ⟨rfl, rfl⟩ (px_of (by rfl) ⟨_, hM, rfl⟩) dX8_image_23
abbrev rmX8_on : Room := { frames := 2, cells := 0, slots := 0, locals := 61 }
set_option maxHeartbeats 4000000 in
set_option maxRecDepth 100000 in
theorem c_X8_on {l : Launch} {E : Ev}  {g gm gi y : Gd} {a b c kk al ax : Nat → Nat} {r : va_W} (hI : Inv g) (hM : Inv gm) (hG : Inv gi) (hy : YI y)  : CT l E yX8_on cX8_on 1 (some .int) rmX8_on [.ref (ax 0)] (wg E (kk 6) a g ++ (wk E kk ++ (wl E al y ++ (wx E ax (a 0) (b 0) (c 0) (al 0) y ++ (wg E (kk 6) b gm ++ (wg E (kk 6) c gi ++ r)))))) (PX E kk a b c al ax r (sp_on g gi y) gi) := by
  refine CT.of (lv := [(0, .ref (ax 0))]) false (by decide +kernel) (by decide) (Nat.le_of_ble_eq_true rfl) rfl ?_
  have f0 := hI.words
  have f1 := hI.birds
  have f2 := hI.gone
  have f3 := hI.hour
  obtain ⟨y00, y01, y02, y1, y2⟩ := id hy
  refine wf_aload_n 0 dX8_on_0 rfl ?_
  refine wf_getf (C := RX8) (T := TX8) (N := 8) (v := .int (nI (y 0 0))) 19 3 in_X8 rfl rfl (by decide) fl_X8_232 rfl dX8_on_1 ?_
  refine wf_if_ne_n 14 dX8_on_4 (by decide) (by omega) (fun c4 => ?_) (fun c4 => ?_)
  · refine wf_aload_n 0 dX8_on_14 rfl ?_
    refine wf_getf (C := RX8) (T := TX8) (N := 8) (v := .ref (a 0)) 19 0 in_X8 rfl rfl (by decide) fl_X8_30 rfl dX8_on_15 ?_
    refine wf_aload_n 0 dX8_on_18 rfl ?_
    refine wf_getf (C := RX8) (T := TX8) (N := 8) (v := .ref (c 0)) 19 2 in_X8 rfl rfl (by decide) fl_X8_39 rfl dX8_on_19 ?_
    refine wf_perm (w' := wg E (kk 6) a g ++ (wk E kk ++ (wl E al y ++ (wx E ax (a 0) (b 0) (c 0) (al 0) y ++ (wg E (kk 6) c gi ++ (wg E (kk 6) b gm ++ r)))))) pm_sw ?_
    refine wf_callVv (As := [.ref (c 0)]) (rest := []) 0 (c_X2_becomeAs) kV_X8_228 rfl (by decide) (by decide) (Nat.le_of_ble_eq_true rfl) rfl rfl rfl dX8_on_22 ?_
    refine wf_perm (w' := wg E (kk 6) a gi ++ (wk E kk ++ (wl E al y ++ (wx E ax (a 0) (b 0) (c 0) (al 0) y ++ (wg E (kk 6) b gm ++ (wg E (kk 6) c gi ++ r)))))) pm_sw ?_
    refine wf_aload_n 0 dX8_on_25 rfl ?_
    refine wf_getf (C := RX8) (T := TX8) (N := 8) (v := .ref (a 0)) 19 0 in_X8 rfl rfl (by decide) fl_X8_30 rfl dX8_on_26 ?_
    refine wf_getf (C := RX2) (T := TX2) (N := 14) (v := .int (nI (gi 9 3))) 0 13 in_X2 rfl rfl (by decide) fl_X8_105 rfl dX8_on_29 ?_
    exact wf_iret .int rfl (vp_nar_int _) ⟨rfl, rfl⟩ (px_of (by unfold sp_on; rw [if_neg c4]) ⟨_, hM, rfl⟩) dX8_on_32
  · refine wf_aload_n 0 dX8_on_7 rfl ?_
    refine wf_bipush (-3) dX8_on_8 (by decide) ?_
    refine wf_callVD (As := [.int (-3)]) (rest := []) 19 (c_X8_refuse (k := 3) (by decide)) kV_X8_56 rfl (by decide) (by decide) (Nat.le_of_ble_eq_true rfl) rfl rfl rfl dX8_on_10 ?_
    exact wf_iret .int rfl (vp_nar_int _) ⟨rfl, rfl⟩ (px_of (by unfold sp_on; rw [if_pos c4]; rfl) ⟨_, hM, rfl⟩) dX8_on_13
abbrev rmX8_count : Room := { frames := 2, cells := 0, slots := 0, locals := 44 }
set_option maxHeartbeats 4000000 in
set_option maxRecDepth 100000 in
theorem c_X8_count {l : Launch} {E : Ev} {x : Int32} {g gm gi y : Gd} {a b c kk al ax : Nat → Nat} {r : va_W} (hI : Inv g) (hM : Inv gm) (hG : Inv gi) (hy : YI y)  : CT l E yX8_count cX8_count 2 (some .int) rmX8_count [.ref (ax 0), .int x] (wg E (kk 6) a g ++ (wk E kk ++ (wl E al y ++ (wx E ax (a 0) (b 0) (c 0) (al 0) y ++ (wg E (kk 6) b gm ++ (wg E (kk 6) c gi ++ r)))))) (PX E kk a b c al ax r (sp_count g y x) gi) := by
  refine CT.of (lv := [(0, .ref (ax 0)), (1, .int x)]) false (by decide +kernel) (by decide) (Nat.le_of_ble_eq_true rfl) rfl ?_
  have f0 := hI.words
  have f1 := hI.birds
  have f2 := hI.gone
  have f3 := hI.hour
  obtain ⟨y00, y01, y02, y1, y2⟩ := id hy
  refine wf_iload_n 1 dX8_count_0 rfl ?_
  refine wf_bipush (nI 10) dX8_count_1 (by decide) ?_
  refine wf_icmp_le 22 dX8_count_3 (by decide) (fun c3 => ?_) (fun c3 => ?_)
  · refine wf_iload_n 1 dX8_count_22 rfl ?_
    by_cases hneg : x < 0
    · refine wf_tableOut 120 dX8_count_23 (Or.inl (lt_toInt0 hneg)) (by decide) ?_
      refine wf_bipush (-9) dX8_count_120 (by decide) ?_
      exact wf_iret .int rfl (vp_nar_int _) ⟨rfl, rfl⟩ (px_of (by unfold sp_count; rw [if_pos hneg]; rfl) ⟨_, hM, rfl⟩) dX8_count_122
    obtain ⟨n, hn, rfl⟩ := nI_of hneg
    have hr : n ≤ 10 := (nI_leI hn (by decide)).mp c3
    by_cases s23_0 : n = 0
    · refine wf_tableIn 64 dX8_count_23 (by rw [s23_0]; decide) (by rw [s23_0]; decide) (by rw [s23_0]; rfl) (by decide) ?_
      refine wf_aload_n 0 dX8_count_64 rfl ?_
      refine wf_getf (C := RX8) (T := TX8) (N := 8) (v := .ref (a 0)) 19 0 in_X8 rfl rfl (by decide) fl_X8_30 rfl dX8_count_65 ?_
      refine wf_getf (C := RX2) (T := TX2) (N := 14) (v := .int (nI (g 9 0))) 0 4 in_X2 rfl rfl (by decide) fl_X8_68 rfl dX8_count_68 ?_
      exact wf_iret .int rfl (vp_nar_int _) ⟨rfl, rfl⟩ (px_of (by unfold sp_count; rw [if_neg hneg, nI_clamp hn]; unfold vCount; rw [if_pos s23_0]; rfl) ⟨_, hM, rfl⟩) dX8_count_71
    by_cases s23_1 : n = 1
    · refine wf_tableIn 72 dX8_count_23 (by rw [s23_1]; decide) (by rw [s23_1]; decide) (by rw [s23_1]; rfl) (by decide) ?_
      refine wf_aload_n 0 dX8_count_72 rfl ?_
      refine wf_getf (C := RX8) (T := TX8) (N := 8) (v := .ref (a 0)) 19 0 in_X8 rfl rfl (by decide) fl_X8_30 rfl dX8_count_73 ?_
      refine wf_getf (C := RX2) (T := TX2) (N := 14) (v := .int (nI (g 9 1))) 0 9 in_X2 rfl rfl (by decide) fl_X8_72 rfl dX8_count_76 ?_
      exact wf_iret .int rfl (vp_nar_int _) ⟨rfl, rfl⟩ (px_of (by unfold sp_count; rw [if_neg hneg, nI_clamp hn]; unfold vCount; rw [if_neg s23_0, if_pos s23_1]; rfl) ⟨_, hM, rfl⟩) dX8_count_79
    by_cases s23_2 : n = 2
    · refine wf_tableIn 80 dX8_count_23 (by rw [s23_2]; decide) (by rw [s23_2]; decide) (by rw [s23_2]; rfl) (by decide) ?_
      refine wf_aload_n 0 dX8_count_80 rfl ?_
      refine wf_getf (C := RX8) (T := TX8) (N := 8) (v := .ref (a 0)) 19 0 in_X8 rfl rfl (by decide) fl_X8_30 rfl dX8_count_81 ?_
      refine wf_getf (C := RX2) (T := TX2) (N := 14) (v := .int (nI (g 9 3))) 0 13 in_X2 rfl rfl (by decide) fl_X8_105 rfl dX8_count_84 ?_
      exact wf_iret .int rfl (vp_nar_int _) ⟨rfl, rfl⟩ (px_of (by unfold sp_count; rw [if_neg hneg, nI_clamp hn]; unfold vCount; rw [if_neg s23_0, if_neg s23_1, if_pos s23_2]; rfl) ⟨_, hM, rfl⟩) dX8_count_87
    by_cases s23_3 : n = 3
    · refine wf_tableIn 88 dX8_count_23 (by rw [s23_3]; decide) (by rw [s23_3]; decide) (by rw [s23_3]; rfl) (by decide) ?_
      refine wf_aload_n 0 dX8_count_88 rfl ?_
      refine wf_getf (C := RX8) (T := TX8) (N := 8) (v := .ref (a 0)) 19 0 in_X8 rfl rfl (by decide) fl_X8_30 rfl dX8_count_89 ?_
      refine wf_getf (C := RX2) (T := TX2) (N := 14) (v := .int (nI (g 9 2))) 0 12 in_X2 rfl rfl (by decide) fl_X8_153 rfl dX8_count_92 ?_
      refine wf_callSD (As := [.int (nI (g 9 2))]) (rest := []) (c_bitCount (by omega)) kS_X8_183 rfl (by decide) (by decide) (Nat.le_of_ble_eq_true rfl) rfl dX8_count_95 ?_
      exact wf_iret .int rfl (vp_nar_int _) ⟨rfl, rfl⟩ (px_of (by unfold sp_count; rw [if_neg hneg, nI_clamp hn]; unfold vCount; rw [if_neg s23_0, if_neg s23_1, if_neg s23_2, if_pos s23_3]; rfl) ⟨_, hM, rfl⟩) dX8_count_98
    by_cases s23_4 : n = 4
    · refine wf_tableIn 99 dX8_count_23 (by rw [s23_4]; decide) (by rw [s23_4]; decide) (by rw [s23_4]; rfl) (by decide) ?_
      refine wf_aload_n 0 dX8_count_99 rfl ?_
      refine wf_getf (C := RX8) (T := TX8) (N := 8) (v := .ref (a 0)) 19 0 in_X8 rfl rfl (by decide) fl_X8_30 rfl dX8_count_100 ?_
      refine wf_callVD (As := []) (rest := []) 0 (c_X2_strengthLeft hI) kV_X8_236 rfl (by decide) (by decide) (Nat.le_of_ble_eq_true rfl) rfl rfl rfl dX8_count_103 ?_
      exact wf_iret .int rfl (vp_nar_int _) ⟨rfl, rfl⟩ (px_of (by unfold sp_count; rw [if_neg hneg, nI_clamp hn]; unfold vCount; rw [if_neg s23_0, if_neg s23_1, if_neg s23_2, if_neg s23_3, if_pos s23_4]; rfl) ⟨_, hM, rfl⟩) dX8_count_106
    by_cases s23_5 : n = 5
    · refine wf_tableIn 107 dX8_count_23 (by rw [s23_5]; decide) (by rw [s23_5]; decide) (by rw [s23_5]; rfl) (by decide) ?_
      refine wf_aload_n 0 dX8_count_107 rfl ?_
      refine wf_getf (C := RX8) (T := TX8) (N := 8) (v := .int (nI (y 0 2))) 19 6 in_X8 rfl rfl (by decide) fl_X8_202 rfl dX8_count_108 ?_
      exact wf_iret .int rfl (vp_nar_int _) ⟨rfl, rfl⟩ (px_of (by unfold sp_count; rw [if_neg hneg, nI_clamp hn]; unfold vCount; rw [if_neg s23_0, if_neg s23_1, if_neg s23_2, if_neg s23_3, if_neg s23_4, if_pos s23_5]; rfl) ⟨_, hM, rfl⟩) dX8_count_111
    by_cases s23_6 : n = 6
    · refine wf_tableIn 112 dX8_count_23 (by rw [s23_6]; decide) (by rw [s23_6]; decide) (by rw [s23_6]; rfl) (by decide) ?_
      refine wf_aload_n 0 dX8_count_112 rfl ?_
      refine wf_getf (C := RX8) (T := TX8) (N := 8) (v := .ref (al 0)) 19 4 in_X8 rfl rfl (by decide) fl_X8_45 rfl dX8_count_113 ?_
      refine wf_getf (C := RX4) (T := TX4) (N := 2) (v := .int (nI (y 0 1))) 17 1 in_X4 rfl rfl (by decide) fl_X8_239 rfl dX8_count_116 ?_
      exact wf_iret .int rfl (vp_nar_int _) ⟨rfl, rfl⟩ (px_of (by unfold sp_count; rw [if_neg hneg, nI_clamp hn]; unfold vCount; rw [if_neg s23_0, if_neg s23_1, if_neg s23_2, if_neg s23_3, if_neg s23_4, if_neg s23_5, if_pos s23_6]; rfl) ⟨_, hM, rfl⟩) dX8_count_119
    refine wf_tableOut 120 dX8_count_23 (by rw [nI_toInt hn]; omega) (by decide) ?_
    refine wf_bipush (-9) dX8_count_120 (by decide) ?_
    exact wf_iret .int rfl (vp_nar_int _) ⟨rfl, rfl⟩ (px_of (by unfold sp_count; rw [if_neg hneg, nI_clamp hn]; unfold vCount; rw [if_neg (by omega), if_neg (by omega), if_neg (by omega), if_neg (by omega), if_neg (by omega), if_neg (by omega), if_neg (by omega), if_neg (by omega)]; rfl) ⟨_, hM, rfl⟩) dX8_count_122
  · refine wf_iload_n 1 dX8_count_6 rfl ?_
    refine wf_bipush (nI 16) dX8_count_7 (by decide) ?_
    refine wf_icmp_gt 22 dX8_count_9 (by decide) (fun c9 => ?_) (fun c9 => ?_)
    · refine wf_iload_n 1 dX8_count_22 rfl ?_
      by_cases hneg : x < 0
      · refine wf_tableOut 120 dX8_count_23 (Or.inl (lt_toInt0 hneg)) (by decide) ?_
        refine wf_bipush (-9) dX8_count_120 (by decide) ?_
        exact wf_iret .int rfl (vp_nar_int _) ⟨rfl, rfl⟩ (px_of (by unfold sp_count; rw [if_pos hneg]; rfl) ⟨_, hM, rfl⟩) dX8_count_122
      obtain ⟨n, hn, rfl⟩ := nI_of hneg
      have hr : 16 < n := (nI_ltI (by decide) hn).mp c9
      by_cases s23_0 : n = 0
      · refine wf_tableIn 64 dX8_count_23 (by rw [s23_0]; decide) (by rw [s23_0]; decide) (by rw [s23_0]; rfl) (by decide) ?_
        refine wf_aload_n 0 dX8_count_64 rfl ?_
        refine wf_getf (C := RX8) (T := TX8) (N := 8) (v := .ref (a 0)) 19 0 in_X8 rfl rfl (by decide) fl_X8_30 rfl dX8_count_65 ?_
        refine wf_getf (C := RX2) (T := TX2) (N := 14) (v := .int (nI (g 9 0))) 0 4 in_X2 rfl rfl (by decide) fl_X8_68 rfl dX8_count_68 ?_
        exact wf_iret .int rfl (vp_nar_int _) ⟨rfl, rfl⟩ (px_of (by unfold sp_count; rw [if_neg hneg, nI_clamp hn]; unfold vCount; rw [if_pos s23_0]; rfl) ⟨_, hM, rfl⟩) dX8_count_71
      by_cases s23_1 : n = 1
      · refine wf_tableIn 72 dX8_count_23 (by rw [s23_1]; decide) (by rw [s23_1]; decide) (by rw [s23_1]; rfl) (by decide) ?_
        refine wf_aload_n 0 dX8_count_72 rfl ?_
        refine wf_getf (C := RX8) (T := TX8) (N := 8) (v := .ref (a 0)) 19 0 in_X8 rfl rfl (by decide) fl_X8_30 rfl dX8_count_73 ?_
        refine wf_getf (C := RX2) (T := TX2) (N := 14) (v := .int (nI (g 9 1))) 0 9 in_X2 rfl rfl (by decide) fl_X8_72 rfl dX8_count_76 ?_
        exact wf_iret .int rfl (vp_nar_int _) ⟨rfl, rfl⟩ (px_of (by unfold sp_count; rw [if_neg hneg, nI_clamp hn]; unfold vCount; rw [if_neg s23_0, if_pos s23_1]; rfl) ⟨_, hM, rfl⟩) dX8_count_79
      by_cases s23_2 : n = 2
      · refine wf_tableIn 80 dX8_count_23 (by rw [s23_2]; decide) (by rw [s23_2]; decide) (by rw [s23_2]; rfl) (by decide) ?_
        refine wf_aload_n 0 dX8_count_80 rfl ?_
        refine wf_getf (C := RX8) (T := TX8) (N := 8) (v := .ref (a 0)) 19 0 in_X8 rfl rfl (by decide) fl_X8_30 rfl dX8_count_81 ?_
        refine wf_getf (C := RX2) (T := TX2) (N := 14) (v := .int (nI (g 9 3))) 0 13 in_X2 rfl rfl (by decide) fl_X8_105 rfl dX8_count_84 ?_
        exact wf_iret .int rfl (vp_nar_int _) ⟨rfl, rfl⟩ (px_of (by unfold sp_count; rw [if_neg hneg, nI_clamp hn]; unfold vCount; rw [if_neg s23_0, if_neg s23_1, if_pos s23_2]; rfl) ⟨_, hM, rfl⟩) dX8_count_87
      by_cases s23_3 : n = 3
      · refine wf_tableIn 88 dX8_count_23 (by rw [s23_3]; decide) (by rw [s23_3]; decide) (by rw [s23_3]; rfl) (by decide) ?_
        refine wf_aload_n 0 dX8_count_88 rfl ?_
        refine wf_getf (C := RX8) (T := TX8) (N := 8) (v := .ref (a 0)) 19 0 in_X8 rfl rfl (by decide) fl_X8_30 rfl dX8_count_89 ?_
        refine wf_getf (C := RX2) (T := TX2) (N := 14) (v := .int (nI (g 9 2))) 0 12 in_X2 rfl rfl (by decide) fl_X8_153 rfl dX8_count_92 ?_
        refine wf_callSD (As := [.int (nI (g 9 2))]) (rest := []) (c_bitCount (by omega)) kS_X8_183 rfl (by decide) (by decide) (Nat.le_of_ble_eq_true rfl) rfl dX8_count_95 ?_
        exact wf_iret .int rfl (vp_nar_int _) ⟨rfl, rfl⟩ (px_of (by unfold sp_count; rw [if_neg hneg, nI_clamp hn]; unfold vCount; rw [if_neg s23_0, if_neg s23_1, if_neg s23_2, if_pos s23_3]; rfl) ⟨_, hM, rfl⟩) dX8_count_98
      by_cases s23_4 : n = 4
      · refine wf_tableIn 99 dX8_count_23 (by rw [s23_4]; decide) (by rw [s23_4]; decide) (by rw [s23_4]; rfl) (by decide) ?_
        refine wf_aload_n 0 dX8_count_99 rfl ?_
        refine wf_getf (C := RX8) (T := TX8) (N := 8) (v := .ref (a 0)) 19 0 in_X8 rfl rfl (by decide) fl_X8_30 rfl dX8_count_100 ?_
        refine wf_callVD (As := []) (rest := []) 0 (c_X2_strengthLeft hI) kV_X8_236 rfl (by decide) (by decide) (Nat.le_of_ble_eq_true rfl) rfl rfl rfl dX8_count_103 ?_
        exact wf_iret .int rfl (vp_nar_int _) ⟨rfl, rfl⟩ (px_of (by unfold sp_count; rw [if_neg hneg, nI_clamp hn]; unfold vCount; rw [if_neg s23_0, if_neg s23_1, if_neg s23_2, if_neg s23_3, if_pos s23_4]; rfl) ⟨_, hM, rfl⟩) dX8_count_106
      by_cases s23_5 : n = 5
      · refine wf_tableIn 107 dX8_count_23 (by rw [s23_5]; decide) (by rw [s23_5]; decide) (by rw [s23_5]; rfl) (by decide) ?_
        refine wf_aload_n 0 dX8_count_107 rfl ?_
        refine wf_getf (C := RX8) (T := TX8) (N := 8) (v := .int (nI (y 0 2))) 19 6 in_X8 rfl rfl (by decide) fl_X8_202 rfl dX8_count_108 ?_
        exact wf_iret .int rfl (vp_nar_int _) ⟨rfl, rfl⟩ (px_of (by unfold sp_count; rw [if_neg hneg, nI_clamp hn]; unfold vCount; rw [if_neg s23_0, if_neg s23_1, if_neg s23_2, if_neg s23_3, if_neg s23_4, if_pos s23_5]; rfl) ⟨_, hM, rfl⟩) dX8_count_111
      by_cases s23_6 : n = 6
      · refine wf_tableIn 112 dX8_count_23 (by rw [s23_6]; decide) (by rw [s23_6]; decide) (by rw [s23_6]; rfl) (by decide) ?_
        refine wf_aload_n 0 dX8_count_112 rfl ?_
        refine wf_getf (C := RX8) (T := TX8) (N := 8) (v := .ref (al 0)) 19 4 in_X8 rfl rfl (by decide) fl_X8_45 rfl dX8_count_113 ?_
        refine wf_getf (C := RX4) (T := TX4) (N := 2) (v := .int (nI (y 0 1))) 17 1 in_X4 rfl rfl (by decide) fl_X8_239 rfl dX8_count_116 ?_
        exact wf_iret .int rfl (vp_nar_int _) ⟨rfl, rfl⟩ (px_of (by unfold sp_count; rw [if_neg hneg, nI_clamp hn]; unfold vCount; rw [if_neg s23_0, if_neg s23_1, if_neg s23_2, if_neg s23_3, if_neg s23_4, if_neg s23_5, if_pos s23_6]; rfl) ⟨_, hM, rfl⟩) dX8_count_119
      refine wf_tableOut 120 dX8_count_23 (by rw [nI_toInt hn]; omega) (by decide) ?_
      refine wf_bipush (-9) dX8_count_120 (by decide) ?_
      exact wf_iret .int rfl (vp_nar_int _) ⟨rfl, rfl⟩ (px_of (by unfold sp_count; rw [if_neg hneg, nI_clamp hn]; unfold vCount; rw [if_neg (by omega), if_neg (by omega), if_neg (by omega), if_neg (by omega), if_neg (by omega), if_neg (by omega), if_neg (by omega), if_neg (by omega)]; rfl) ⟨_, hM, rfl⟩) dX8_count_122
    · have h0 : ¬ x < 0 := fun z => c3 (Int32.le_of_lt (Int32.lt_of_lt_of_le z (by decide)))
      obtain ⟨n, hn, rfl⟩ := i_le (k := 16) (by decide) h0 c9
      have h10 : 10 < n := by rcases Nat.lt_or_ge 10 n with q | q; exact q; exact absurd (nI_le q (by decide)) c3
      refine wf_aload_n 0 dX8_count_12 rfl ?_
      refine wf_getf (C := RX8) (T := TX8) (N := 8) (v := .ref (ax 2)) 19 7 in_X8 rfl rfl (by decide) fl_X8_53 rfl dX8_count_13 ?_
      refine wf_iload_n 1 dX8_count_16 rfl ?_
      refine wf_bipush (nI 11) dX8_count_17 (by decide) ?_
      refine wf_isub (nI (n - 11)) dX8_count_19 (pk_sub (by omega)) ?_
      refine wf_iald_n (nI (y 3 (n - 11))) 21 rfl (by omega) (by decide) rfl dX8_count_20 ?_
      exact wf_iret .int rfl (vp_nar_int _) ⟨rfl, rfl⟩ (px_of (by unfold sp_count; rw [if_neg h0, nI_clamp (by omega)]; unfold vCount; rw [if_neg (by omega), if_neg (by omega), if_neg (by omega), if_neg (by omega), if_neg (by omega), if_neg (by omega), if_neg (by omega), if_pos (by omega)]; rfl) ⟨_, hM, rfl⟩) dX8_count_21
