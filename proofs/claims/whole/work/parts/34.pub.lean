abbrev rmX8_tastes : Room := { frames := 5, cells := 0, slots := 0, locals := 116 }
set_option maxHeartbeats 4000000 in
set_option maxRecDepth 100000 in
theorem c_X8_tastes {l : Launch} {E : Ev} {x z : Int32} {g gm gi y : Gd} {a b c kk al ax : Nat → Nat} {r : va_W} (hI : Inv g) (hM : Inv gm) (hG : Inv gi) (hy : YI y)  : CT l E yX8_tastes cX8_tastes 6 (some .int) rmX8_tastes [.ref (ax 0), .int x, .int z] (wg E (kk 6) a g ++ (wk E kk ++ (wl E al y ++ (wx E ax (a 0) (b 0) (c 0) (al 0) y ++ (wg E (kk 6) b gm ++ (wg E (kk 6) c gi ++ r)))))) (PX E kk a b c al ax r (sp_tastes g y x z) gi) := by
  refine CT.of (lv := [(0, .ref (ax 0)), (1, .int x), (2, .int z)]) false (by decide +kernel) (by decide) (Nat.le_of_ble_eq_true rfl) rfl ?_
  have f0 := hI.words
  have f1 := hI.birds
  have f2 := hI.gone
  have f3 := hI.hour
  have f4 := hI.all
  obtain ⟨y00, y01, y02, y1, y2⟩ := id hy
  refine wf_aload_n 0 dX8_tastes_0 rfl ?_
  refine wf_getf (C := RX8) (T := TX8) (N := 8) (v := .ref (a 0)) 19 0 in_X8 rfl rfl (by decide) fl_X8_30 rfl dX8_tastes_1 ?_
  refine wf_iload_n 1 dX8_tastes_4 rfl ?_
  refine wf_callVD (As := [.int x]) (rest := []) 0 (c_X2_hasBird ) kV_X8_112 rfl (by decide) (by decide) (Nat.le_of_ble_eq_true rfl) rfl rfl rfl dX8_tastes_5 ?_
  refine wf_if_eq_b 22 dX8_tastes_8 (by decide) (fun c8 => ?_) (fun c8 => ?_)
  · refine wf_aload_n 0 dX8_tastes_22 rfl ?_
    refine wf_iconst (-1) dX8_tastes_23 (by decide) ?_
    refine wf_callVD (As := [.int (-1)]) (rest := []) 19 (c_X8_refuse (k := 1) (by decide)) kV_X8_56 rfl (by decide) (by decide) (Nat.le_of_ble_eq_true rfl) rfl rfl rfl dX8_tastes_24 ?_
    exact wf_iret .int rfl (vp_nar_int _) ⟨rfl, rfl⟩ (px_of (by unfold sp_tastes; rw [if_pos c8]; rfl) ⟨_, hM, rfl⟩) dX8_tastes_27
  · obtain ⟨j, hj, rfl⟩ := eHas_i (by omega) c8
    refine wf_aload_n 0 dX8_tastes_11 rfl ?_
    refine wf_getf (C := RX8) (T := TX8) (N := 8) (v := .ref (a 0)) 19 0 in_X8 rfl rfl (by decide) fl_X8_30 rfl dX8_tastes_12 ?_
    refine wf_iload_n 2 dX8_tastes_15 rfl ?_
    refine wf_callVD (As := [.int z]) (rest := []) 0 (c_X2_hasWords hI) kV_X8_180 rfl (by decide) (by decide) (Nat.le_of_ble_eq_true rfl) rfl rfl rfl dX8_tastes_16 ?_
    refine wf_if_ne_b 28 dX8_tastes_19 (by decide) (fun c19 => ?_) (fun c19 => ?_)
    · obtain ⟨w, hw, rfl⟩ := eHasS_i hI c19
      refine wf_iconst (nI 0) dX8_tastes_28 (by decide) ?_
      refine wf_istore_n [(3, .int (nI 0)), (0, .ref (ax 0)), (1, .int (nI j)), (2, .int (nI w))] dX8_tastes_29 rfl (by decide) rfl ?_
      refine wf_iconst (nI 0) dX8_tastes_30 (by decide) ?_
      refine wf_istore [(4, .int (nI 0)), (3, .int (nI 0)), (0, .ref (ax 0)), (1, .int (nI j)), (2, .int (nI w))] dX8_tastes_31 (by decide) rfl ?_
      have L33 : ∀ (fu33 : Nat) (t : Nat) (gw : Gd), 10 - t < fu33 → (t ≤ 10) → (Inv gw) → WF l E RX8 cX8_tastes 6 (some .int) rmX8_tastes false (fun _ => True) (QM E (wg E (kk 6) a g ++ (wk E kk ++ (wl E al y ++ (wx E ax (a 0) (b 0) (c 0) (al 0) y ++ (wg E (kk 6) b gm ++ (wg E (kk 6) c gi ++ r)))))) (PX E kk a b c al ax r (sp_tastes g y (nI j) (nI w)) gi) rmX8_tastes) (wg E (kk 6) a g ++ (wk E kk ++ (wl E al y ++ (wx E ax (a 0) (b 0) (c 0) (al 0) y ++ (wg E (kk 6) b gm ++ (wg E (kk 6) c gi ++ r)))))) 0 0 33 [(4, .int (nI t)), (3, .int (nI (eTa g j w t))), (0, .ref (ax 0)), (1, .int (nI j)), (2, .int (nI w))] [] (wg E (kk 6) a g ++ (wk E kk ++ (wl E al y ++ (wx E ax (a 0) (b 0) (c 0) (al 0) y ++ (wg E (kk 6) b gw ++ (wg E (kk 6) c gi ++ r)))))) := by
        intro fu33
        induction fu33 with
        | zero => intro t gw hn; exact absurd hn (Nat.not_lt_zero _)
        | succ fu33 ih33 =>
          intro t gw hn ht0 hW
          refine wf_iload 0 dX8_tastes_33 rfl ?_
          refine wf_bipush (nI 10) dX8_tastes_35 (by decide) ?_
          refine wf_icmp_ge_n 83 dX8_tastes_37 (by decide) (by omega) (by omega) (fun c37 => ?_) (fun c37 => ?_)
          · refine wf_iload_n 1 dX8_tastes_83 rfl ?_
            exact wf_iret .int rfl (vp_nar_int _) ⟨rfl, rfl⟩ (px_of (by unfold sp_tastes; rw [if_neg (by rw [c8]; decide), if_neg (by rw [c19]; decide), nI_clamp (by omega), nI_clamp (by omega), show (10 : Nat) = t by omega]; rfl) ⟨_, hW, rfl⟩) dX8_tastes_84
          · refine wf_aload_n 2 dX8_tastes_40 rfl ?_
            refine wf_callVD (As := []) (rest := []) 19 (c_X8_mindAsNow) kV_X8_156 rfl (by decide) (by decide) (Nat.le_of_ble_eq_true rfl) rfl rfl rfl dX8_tastes_41 ?_
            refine wf_astore [(5, .ref (b 0)), (4, .int (nI t)), (3, .int (nI (eTa g j w t))), (0, .ref (ax 0)), (1, .int (nI j)), (2, .int (nI w))] dX8_tastes_44 (by decide) rfl ?_
            refine wf_aload 0 dX8_tastes_46 rfl ?_
            refine wf_getf (C := RX2) (T := TX2) (N := 14) (v := .ref (b 5)) 22 6 in_X2 rfl rfl (by decide) fl_X8_118 rfl dX8_tastes_48 ?_
            refine wf_iload_n 4 dX8_tastes_51 rfl ?_
            refine wf_iload 1 dX8_tastes_52 rfl ?_
            refine wf_iast_n (wg E (kk 6) a g ++ (wk E kk ++ (wl E al y ++ (wx E ax (a 0) (b 0) (c 0) (al 0) y ++ (wg E (kk 6) b (gs g 4 j t) ++ (wg E (kk 6) c gi ++ r)))))) 27 rfl (by omega) (by decide) (so 10 17 rfl (so 7 10 rfl (so 2 8 rfl (so 3 5 rfl (sf 5 (Nat.le_of_ble_eq_true rfl) (wg_set4 j t)))))) dX8_tastes_54 ?_
            refine wf_aload 0 dX8_tastes_55 rfl ?_
            refine wf_perm (w' := wg E (kk 6) b (gs g 4 j t) ++ (wk E kk ++ (wl E al y ++ (wx E ax (a 0) (b 0) (c 0) (al 0) y ++ (wg E (kk 6) a g ++ (wg E (kk 6) c gi ++ r)))))) pm4 ?_
            refine wf_callVD (As := []) (rest := []) 0 (c_X2_passTillDusk (hI.oTaste (by omega))) kV_X8_166 rfl (by decide) (by decide) (Nat.le_of_ble_eq_true rfl) rfl rfl rfl dX8_tastes_57 ?_
            refine wf_perm (w' := wg E (kk 6) a g ++ (wk E kk ++ (wl E al y ++ (wx E ax (a 0) (b 0) (c 0) (al 0) y ++ (wg E (kk 6) b (eDk (gs g 4 j t)) ++ (wg E (kk 6) c gi ++ r)))))) pm4 ?_
            refine wf_pop dX8_tastes_60 rfl ?_
            refine wf_aload 0 dX8_tastes_61 rfl ?_
            refine wf_perm (w' := wg E (kk 6) b (eDk (gs g 4 j t)) ++ (wk E kk ++ (wl E al y ++ (wx E ax (a 0) (b 0) (c 0) (al 0) y ++ (wg E (kk 6) a g ++ (wg E (kk 6) c gi ++ r)))))) pm4 ?_
            refine wf_callVD (As := []) (rest := []) 0 (c_X2_leftWords ((hI.oTaste (by omega)).oHrs _)) kV_X8_160 rfl (by decide) (by decide) (Nat.le_of_ble_eq_true rfl) rfl rfl rfl dX8_tastes_63 ?_
            refine wf_perm (w' := wg E (kk 6) a g ++ (wk E kk ++ (wl E al y ++ (wx E ax (a 0) (b 0) (c 0) (al 0) y ++ (wg E (kk 6) b (eDk (gs g 4 j t)) ++ (wg E (kk 6) c gi ++ r)))))) pm4 ?_
            refine wf_iload_n 5 dX8_tastes_66 rfl ?_
            refine wf_icmp_ne_n 77 dX8_tastes_67 (by decide) (Nat.lt_trans ((hI.oTaste (by omega)).oHrs _).left (by decide)) (by omega) (fun c67 => ?_) (fun c67 => ?_)
            · refine wf_iinc (nI (t + 1)) 1 [(4, .int (nI (t + 1))), (5, .ref (b 0)), (3, .int (nI (eTa g j w t))), (0, .ref (ax 0)), (1, .int (nI j)), (2, .int (nI w))] dX8_tastes_77 rfl (nI_1 t) (by decide) rfl ?_
              refine wf_goto 33 dX8_tastes_80 (by decide) ?_
              refine wf_sub (lv' := [(4, .int (nI (t + 1))), (3, .int (nI (eTa g j w t))), (0, .ref (ax 0)), (1, .int (nI j)), (2, .int (nI w))]) [0, 2, 3, 4, 5] rfl ?_
              refine wf_lvc [(4, .int (nI (t + 1))), (3, .int (nI (eTa g j w (t + 1)))), (0, .ref (ax 0)), (1, .int (nI j)), (2, .int (nI w))] (by rw [show (eTa g j w t) = eTa g j w (t + 1) from by show _ = (if _ then _ else _); rw [if_neg c67]]) ?_
              exact ih33 (t + 1) _ (by omega) (by omega) ((hI.oTaste (by omega)).oHrs _)
            · refine wf_iload_n 2 dX8_tastes_70 rfl ?_
              refine wf_iconst (nI 1) dX8_tastes_71 (by decide) ?_
              refine wf_iload 1 dX8_tastes_72 rfl ?_
              refine wf_ishl (nI (1 <<< t)) dX8_tastes_74 (nI_shl (by omega) (Nat.lt_trans (sh_lt (n := 10) (by omega) (by decide)) (by decide))) ?_
              refine wf_ior (nI ((eTa g j w t) ||| (1 <<< t))) dX8_tastes_75 (nI_lor (Nat.lt_trans (eTa_lt g j w t (by omega)) (by decide)) (Nat.lt_trans (sh_lt (n := 10) (by omega) (by decide)) (by decide))) ?_
              refine wf_istore_n [(3, .int (nI ((eTa g j w t) ||| (1 <<< t)))), (5, .ref (b 0)), (4, .int (nI t)), (0, .ref (ax 0)), (1, .int (nI j)), (2, .int (nI w))] dX8_tastes_76 rfl (by decide) rfl ?_
              refine wf_iinc (nI (t + 1)) 2 [(4, .int (nI (t + 1))), (3, .int (nI ((eTa g j w t) ||| (1 <<< t)))), (5, .ref (b 0)), (0, .ref (ax 0)), (1, .int (nI j)), (2, .int (nI w))] dX8_tastes_77 rfl (nI_1 t) (by decide) rfl ?_
              refine wf_goto 33 dX8_tastes_80 (by decide) ?_
              refine wf_sub (lv' := [(4, .int (nI (t + 1))), (3, .int (nI ((eTa g j w t) ||| (1 <<< t)))), (0, .ref (ax 0)), (1, .int (nI j)), (2, .int (nI w))]) [0, 1, 3, 4, 5] rfl ?_
              refine wf_lvc [(4, .int (nI (t + 1))), (3, .int (nI (eTa g j w (t + 1)))), (0, .ref (ax 0)), (1, .int (nI j)), (2, .int (nI w))] (by rw [show ((eTa g j w t) ||| (1 <<< t)) = eTa g j w (t + 1) from by show _ = (if _ then _ else _); rw [if_pos c67]]) ?_
              exact ih33 (t + 1) _ (by omega) (by omega) ((hI.oTaste (by omega)).oHrs _)
      refine wf_sub (lv' := [(4, .int (nI 0)), (3, .int (nI 0)), (0, .ref (ax 0)), (1, .int (nI j)), (2, .int (nI w))]) [0, 1, 2, 3, 4] rfl ?_
      exact L33 _ 0 gm (Nat.lt_succ_self _) (Nat.zero_le _) hM
    · refine wf_aload_n 0 dX8_tastes_22 rfl ?_
      refine wf_iconst (-1) dX8_tastes_23 (by decide) ?_
      refine wf_callVD (As := [.int (-1)]) (rest := []) 19 (c_X8_refuse (k := 1) (by decide)) kV_X8_56 rfl (by decide) (by decide) (Nat.le_of_ble_eq_true rfl) rfl rfl rfl dX8_tastes_24 ?_
      exact wf_iret .int rfl (vp_nar_int _) ⟨rfl, rfl⟩ (px_of (by unfold sp_tastes; rw [if_neg (by rw [c8]; decide), if_pos c19]; rfl) ⟨_, hM, rfl⟩) dX8_tastes_27
abbrev rmX8_fitting : Room := { frames := 5, cells := 0, slots := 0, locals := 116 }
set_option maxHeartbeats 4000000 in
set_option maxRecDepth 100000 in
theorem c_X8_fitting {l : Launch} {E : Ev} {x z : Int32} {g gm gi y : Gd} {a b c kk al ax : Nat → Nat} {r : va_W} (hI : Inv g) (hM : Inv gm) (hG : Inv gi) (hy : YI y)  : CT l E yX8_fitting cX8_fitting 6 (some .int) rmX8_fitting [.ref (ax 0), .int x, .int z] (wg E (kk 6) a g ++ (wk E kk ++ (wl E al y ++ (wx E ax (a 0) (b 0) (c 0) (al 0) y ++ (wg E (kk 6) b gm ++ (wg E (kk 6) c gi ++ r)))))) (PX E kk a b c al ax r (sp_fitting g y x z) gi) := by
  refine CT.of (lv := [(0, .ref (ax 0)), (1, .int x), (2, .int z)]) false (by decide +kernel) (by decide) (Nat.le_of_ble_eq_true rfl) rfl ?_
  have f0 := hI.words
  have f1 := hI.birds
  have f2 := hI.gone
  have f3 := hI.hour
  have f4 := hI.all
  obtain ⟨y00, y01, y02, y1, y2⟩ := id hy
  refine wf_aload_n 0 dX8_fitting_0 rfl ?_
  refine wf_getf (C := RX8) (T := TX8) (N := 8) (v := .ref (a 0)) 19 0 in_X8 rfl rfl (by decide) fl_X8_30 rfl dX8_fitting_1 ?_
  refine wf_iload_n 1 dX8_fitting_4 rfl ?_
  refine wf_callVD (As := [.int x]) (rest := []) 0 (c_X2_hasBird ) kV_X8_112 rfl (by decide) (by decide) (Nat.le_of_ble_eq_true rfl) rfl rfl rfl dX8_fitting_5 ?_
  refine wf_if_eq_b 22 dX8_fitting_8 (by decide) (fun c8 => ?_) (fun c8 => ?_)
  · refine wf_aload_n 0 dX8_fitting_22 rfl ?_
    refine wf_iconst (-1) dX8_fitting_23 (by decide) ?_
    refine wf_callVD (As := [.int (-1)]) (rest := []) 19 (c_X8_refuse (k := 1) (by decide)) kV_X8_56 rfl (by decide) (by decide) (Nat.le_of_ble_eq_true rfl) rfl rfl rfl dX8_fitting_24 ?_
    exact wf_iret .int rfl (vp_nar_int _) ⟨rfl, rfl⟩ (px_of (by unfold sp_fitting; rw [if_pos c8]; rfl) ⟨_, hM, rfl⟩) dX8_fitting_27
  · obtain ⟨j, hj, rfl⟩ := eHas_i (by omega) c8
    refine wf_aload_n 0 dX8_fitting_11 rfl ?_
    refine wf_getf (C := RX8) (T := TX8) (N := 8) (v := .ref (a 0)) 19 0 in_X8 rfl rfl (by decide) fl_X8_30 rfl dX8_fitting_12 ?_
    refine wf_iload_n 2 dX8_fitting_15 rfl ?_
    refine wf_callVD (As := [.int z]) (rest := []) 0 (c_X2_hasWords hI) kV_X8_180 rfl (by decide) (by decide) (Nat.le_of_ble_eq_true rfl) rfl rfl rfl dX8_fitting_16 ?_
    refine wf_if_ne_b 28 dX8_fitting_19 (by decide) (fun c19 => ?_) (fun c19 => ?_)
    · obtain ⟨w, hw, rfl⟩ := eHasS_i hI c19
      refine wf_iconst (nI 0) dX8_fitting_28 (by decide) ?_
      refine wf_istore_n [(3, .int (nI 0)), (0, .ref (ax 0)), (1, .int (nI j)), (2, .int (nI w))] dX8_fitting_29 rfl (by decide) rfl ?_
      refine wf_iconst (nI 0) dX8_fitting_30 (by decide) ?_
      refine wf_istore [(4, .int (nI 0)), (3, .int (nI 0)), (0, .ref (ax 0)), (1, .int (nI j)), (2, .int (nI w))] dX8_fitting_31 (by decide) rfl ?_
      have L33 : ∀ (fu33 : Nat) (t : Nat) (gw : Gd), 6 - t < fu33 → (t ≤ 6) → (Inv gw) → WF l E RX8 cX8_fitting 6 (some .int) rmX8_fitting false (fun _ => True) (QM E (wg E (kk 6) a g ++ (wk E kk ++ (wl E al y ++ (wx E ax (a 0) (b 0) (c 0) (al 0) y ++ (wg E (kk 6) b gm ++ (wg E (kk 6) c gi ++ r)))))) (PX E kk a b c al ax r (sp_fitting g y (nI j) (nI w)) gi) rmX8_fitting) (wg E (kk 6) a g ++ (wk E kk ++ (wl E al y ++ (wx E ax (a 0) (b 0) (c 0) (al 0) y ++ (wg E (kk 6) b gm ++ (wg E (kk 6) c gi ++ r)))))) 0 0 33 [(4, .int (nI t)), (3, .int (nI (eFi g j w t))), (0, .ref (ax 0)), (1, .int (nI j)), (2, .int (nI w))] [] (wg E (kk 6) a g ++ (wk E kk ++ (wl E al y ++ (wx E ax (a 0) (b 0) (c 0) (al 0) y ++ (wg E (kk 6) b gw ++ (wg E (kk 6) c gi ++ r)))))) := by
        intro fu33
        induction fu33 with
        | zero => intro t gw hn; exact absurd hn (Nat.not_lt_zero _)
        | succ fu33 ih33 =>
          intro t gw hn ht0 hW
          refine wf_iload 0 dX8_fitting_33 rfl ?_
          refine wf_ldcS (q := E.2.2.1 4) (fun s h => h.2.2.2.2.2) dX8_fitting_35 ?_
          refine wf_callStrD (As := []) (rest := [.int (nI t)]) (by decide) (c_J0_length_8abf5 (by decide)) kV_X8_220 rfl (by decide) (by decide) (Nat.le_of_ble_eq_true rfl) rfl rfl dX8_fitting_37 ?_
          refine wf_top (y := .int (nI 6)) rfl ?_
          refine wf_icmp_ge_n 86 dX8_fitting_40 (by decide) (by omega) (by omega) (fun c40 => ?_) (fun c40 => ?_)
          · refine wf_iload_n 1 dX8_fitting_86 rfl ?_
            exact wf_iret .int rfl (vp_nar_int _) ⟨rfl, rfl⟩ (px_of (by unfold sp_fitting; rw [if_neg (by rw [c8]; decide), if_neg (by rw [c19]; decide), nI_clamp (by omega), nI_clamp (by omega), show (6 : Nat) = t by omega]; rfl) ⟨_, hW, rfl⟩) dX8_fitting_87
          · refine wf_aload_n 2 dX8_fitting_43 rfl ?_
            refine wf_callVD (As := []) (rest := []) 19 (c_X8_mindAsNow) kV_X8_156 rfl (by decide) (by decide) (Nat.le_of_ble_eq_true rfl) rfl rfl rfl dX8_fitting_44 ?_
            refine wf_astore [(5, .ref (b 0)), (4, .int (nI t)), (3, .int (nI (eFi g j w t))), (0, .ref (ax 0)), (1, .int (nI j)), (2, .int (nI w))] dX8_fitting_47 (by decide) rfl ?_
            refine wf_aload 0 dX8_fitting_49 rfl ?_
            refine wf_getf (C := RX2) (T := TX2) (N := 14) (v := .ref (b 4)) 22 5 in_X2 rfl rfl (by decide) fl_X8_115 rfl dX8_fitting_51 ?_
            refine wf_iload_n 4 dX8_fitting_54 rfl ?_
            refine wf_iload 1 dX8_fitting_55 rfl ?_
            refine wf_iast_n (wg E (kk 6) a g ++ (wk E kk ++ (wl E al y ++ (wx E ax (a 0) (b 0) (c 0) (al 0) y ++ (wg E (kk 6) b (gs g 3 j t) ++ (wg E (kk 6) c gi ++ r)))))) 26 rfl (by omega) (by decide) (so 10 16 rfl (so 7 9 rfl (so 2 7 rfl (so 3 4 rfl (sf 4 (Nat.le_of_ble_eq_true rfl) (wg_set3 j t)))))) dX8_fitting_57 ?_
            refine wf_aload 0 dX8_fitting_58 rfl ?_
            refine wf_perm (w' := wg E (kk 6) b (gs g 3 j t) ++ (wk E kk ++ (wl E al y ++ (wx E ax (a 0) (b 0) (c 0) (al 0) y ++ (wg E (kk 6) a g ++ (wg E (kk 6) c gi ++ r)))))) pm4 ?_
            refine wf_callVD (As := []) (rest := []) 0 (c_X2_passTillDusk (hI.oKind (by omega))) kV_X8_166 rfl (by decide) (by decide) (Nat.le_of_ble_eq_true rfl) rfl rfl rfl dX8_fitting_60 ?_
            refine wf_perm (w' := wg E (kk 6) a g ++ (wk E kk ++ (wl E al y ++ (wx E ax (a 0) (b 0) (c 0) (al 0) y ++ (wg E (kk 6) b (eDk (gs g 3 j t)) ++ (wg E (kk 6) c gi ++ r)))))) pm4 ?_
            refine wf_pop dX8_fitting_63 rfl ?_
            refine wf_aload 0 dX8_fitting_64 rfl ?_
            refine wf_perm (w' := wg E (kk 6) b (eDk (gs g 3 j t)) ++ (wk E kk ++ (wl E al y ++ (wx E ax (a 0) (b 0) (c 0) (al 0) y ++ (wg E (kk 6) a g ++ (wg E (kk 6) c gi ++ r)))))) pm4 ?_
            refine wf_callVD (As := []) (rest := []) 0 (c_X2_leftWords ((hI.oKind (by omega)).oHrs _)) kV_X8_160 rfl (by decide) (by decide) (Nat.le_of_ble_eq_true rfl) rfl rfl rfl dX8_fitting_66 ?_
            refine wf_perm (w' := wg E (kk 6) a g ++ (wk E kk ++ (wl E al y ++ (wx E ax (a 0) (b 0) (c 0) (al 0) y ++ (wg E (kk 6) b (eDk (gs g 3 j t)) ++ (wg E (kk 6) c gi ++ r)))))) pm4 ?_
            refine wf_iload_n 5 dX8_fitting_69 rfl ?_
            refine wf_icmp_ne_n 80 dX8_fitting_70 (by decide) (Nat.lt_trans ((hI.oKind (by omega)).oHrs _).left (by decide)) (by omega) (fun c70 => ?_) (fun c70 => ?_)
            · refine wf_iinc (nI (t + 1)) 1 [(4, .int (nI (t + 1))), (5, .ref (b 0)), (3, .int (nI (eFi g j w t))), (0, .ref (ax 0)), (1, .int (nI j)), (2, .int (nI w))] dX8_fitting_80 rfl (nI_1 t) (by decide) rfl ?_
              refine wf_goto 33 dX8_fitting_83 (by decide) ?_
              refine wf_sub (lv' := [(4, .int (nI (t + 1))), (3, .int (nI (eFi g j w t))), (0, .ref (ax 0)), (1, .int (nI j)), (2, .int (nI w))]) [0, 2, 3, 4, 5] rfl ?_
              refine wf_lvc [(4, .int (nI (t + 1))), (3, .int (nI (eFi g j w (t + 1)))), (0, .ref (ax 0)), (1, .int (nI j)), (2, .int (nI w))] (by rw [show (eFi g j w t) = eFi g j w (t + 1) from by show _ = (if _ then _ else _); rw [if_neg c70]]) ?_
              exact ih33 (t + 1) _ (by omega) (by omega) ((hI.oKind (by omega)).oHrs _)
            · refine wf_iload_n 2 dX8_fitting_73 rfl ?_
              refine wf_iconst (nI 1) dX8_fitting_74 (by decide) ?_
              refine wf_iload 1 dX8_fitting_75 rfl ?_
              refine wf_ishl (nI (1 <<< t)) dX8_fitting_77 (nI_shl (by omega) (Nat.lt_trans (sh_lt (n := 6) (by omega) (by decide)) (by decide))) ?_
              refine wf_ior (nI ((eFi g j w t) ||| (1 <<< t))) dX8_fitting_78 (nI_lor (Nat.lt_trans (eFi_lt g j w t (by omega)) (by decide)) (Nat.lt_trans (sh_lt (n := 6) (by omega) (by decide)) (by decide))) ?_
              refine wf_istore_n [(3, .int (nI ((eFi g j w t) ||| (1 <<< t)))), (5, .ref (b 0)), (4, .int (nI t)), (0, .ref (ax 0)), (1, .int (nI j)), (2, .int (nI w))] dX8_fitting_79 rfl (by decide) rfl ?_
              refine wf_iinc (nI (t + 1)) 2 [(4, .int (nI (t + 1))), (3, .int (nI ((eFi g j w t) ||| (1 <<< t)))), (5, .ref (b 0)), (0, .ref (ax 0)), (1, .int (nI j)), (2, .int (nI w))] dX8_fitting_80 rfl (nI_1 t) (by decide) rfl ?_
              refine wf_goto 33 dX8_fitting_83 (by decide) ?_
              refine wf_sub (lv' := [(4, .int (nI (t + 1))), (3, .int (nI ((eFi g j w t) ||| (1 <<< t)))), (0, .ref (ax 0)), (1, .int (nI j)), (2, .int (nI w))]) [0, 1, 3, 4, 5] rfl ?_
              refine wf_lvc [(4, .int (nI (t + 1))), (3, .int (nI (eFi g j w (t + 1)))), (0, .ref (ax 0)), (1, .int (nI j)), (2, .int (nI w))] (by rw [show ((eFi g j w t) ||| (1 <<< t)) = eFi g j w (t + 1) from by show _ = (if _ then _ else _); rw [if_pos c70]]) ?_
              exact ih33 (t + 1) _ (by omega) (by omega) ((hI.oKind (by omega)).oHrs _)
      refine wf_sub (lv' := [(4, .int (nI 0)), (3, .int (nI 0)), (0, .ref (ax 0)), (1, .int (nI j)), (2, .int (nI w))]) [0, 1, 2, 3, 4] rfl ?_
      exact L33 _ 0 gm (Nat.lt_succ_self _) (Nat.zero_le _) hM
    · refine wf_aload_n 0 dX8_fitting_22 rfl ?_
      refine wf_iconst (-1) dX8_fitting_23 (by decide) ?_
      refine wf_callVD (As := [.int (-1)]) (rest := []) 19 (c_X8_refuse (k := 1) (by decide)) kV_X8_56 rfl (by decide) (by decide) (Nat.le_of_ble_eq_true rfl) rfl rfl rfl dX8_fitting_24 ?_
      exact wf_iret .int rfl (vp_nar_int _) ⟨rfl, rfl⟩ (px_of (by unfold sp_fitting; rw [if_neg (by rw [c8]; decide), if_pos c19]; rfl) ⟨_, hM, rfl⟩) dX8_fitting_27
abbrev rmX8_seeds : Room := { frames := 5, cells := 0, slots := 0, locals := 116 }
set_option maxHeartbeats 4000000 in
set_option maxRecDepth 100000 in
theorem c_X8_seeds {l : Launch} {E : Ev} {x z : Int32} {g gm gi y : Gd} {a b c kk al ax : Nat → Nat} {r : va_W} (hI : Inv g) (hM : Inv gm) (hG : Inv gi) (hy : YI y)  : CT l E yX8_seeds cX8_seeds 8 (some .int) rmX8_seeds [.ref (ax 0), .int x, .int z] (wg E (kk 6) a g ++ (wk E kk ++ (wl E al y ++ (wx E ax (a 0) (b 0) (c 0) (al 0) y ++ (wg E (kk 6) b gm ++ (wg E (kk 6) c gi ++ r)))))) (PX E kk a b c al ax r (sp_seeds g y x z) gi) := by
  refine CT.of (lv := [(0, .ref (ax 0)), (1, .int x), (2, .int z)]) false (by decide +kernel) (by decide) (Nat.le_of_ble_eq_true rfl) rfl ?_
  have f0 := hI.words
  have f1 := hI.birds
  have f2 := hI.gone
  have f3 := hI.hour
  obtain ⟨y00, y01, y02, y1, y2⟩ := id hy
  refine wf_iload_n 1 dX8_seeds_0 rfl ?_
  refine wf_iconst (nI 1) dX8_seeds_1 (by decide) ?_
  refine wf_icmp_ge 12 dX8_seeds_2 (by decide) (fun c2 => ?_) (fun c2 => ?_)
  · refine wf_iload_n 1 dX8_seeds_12 rfl ?_
    refine wf_bipush (nI 20) dX8_seeds_13 (by decide) ?_
    refine wf_icmp_le 25 dX8_seeds_15 (by decide) (fun c15 => ?_) (fun c15 => ?_)
    · have h2 := c2
      have h15 := c15
      have h0 : ¬ x < 0 := fun q => absurd (Int32.lt_of_le_of_lt c2 q) (by decide)
      obtain ⟨n, hn, rfl⟩ := i_le (k := 20) (by decide) h0 (Int32.not_lt.mpr c15)
      refine wf_iload_n 2 dX8_seeds_25 rfl ?_
      refine wf_istore_n [(3, .int z), (0, .ref (ax 0)), (1, .int (nI n)), (2, .int z)] dX8_seeds_26 rfl (by decide) rfl ?_
      refine wf_iconst (nI 0) dX8_seeds_27 (by decide) ?_
      refine wf_istore [(4, .int (nI 0)), (3, .int z), (0, .ref (ax 0)), (1, .int (nI n)), (2, .int z)] dX8_seeds_28 (by decide) rfl ?_
      refine wf_iconst (nI 0) dX8_seeds_30 (by decide) ?_
      refine wf_istore [(5, .int (nI 0)), (4, .int (nI 0)), (3, .int z), (0, .ref (ax 0)), (1, .int (nI n)), (2, .int z)] dX8_seeds_31 (by decide) rfl ?_
      have L33 : ∀ (fu33 : Nat) (d : Nat) (gw : Gd), n - d < fu33 → (d ≤ n) → (Inv gw) → WF l E RX8 cX8_seeds 8 (some .int) rmX8_seeds false (fun _ => True) (QM E (wg E (kk 6) a g ++ (wk E kk ++ (wl E al y ++ (wx E ax (a 0) (b 0) (c 0) (al 0) y ++ (wg E (kk 6) b gm ++ (wg E (kk 6) c gi ++ r)))))) (PX E kk a b c al ax r (sp_seeds g y (nI n) z) gi) rmX8_seeds) (wg E (kk 6) a g ++ (wk E kk ++ (wl E al y ++ (wx E ax (a 0) (b 0) (c 0) (al 0) y ++ (wg E (kk 6) b gm ++ (wg E (kk 6) c gi ++ r)))))) 0 0 33 [(5, .int (nI d)), (4, .int (nI ((eSee g z d).2))), (3, .int ((eSee g z d).1)), (0, .ref (ax 0)), (1, .int (nI n)), (2, .int z)] [] (wg E (kk 6) a g ++ (wk E kk ++ (wl E al y ++ (wx E ax (a 0) (b 0) (c 0) (al 0) y ++ (wg E (kk 6) b gw ++ (wg E (kk 6) c gi ++ r)))))) := by
        intro fu33
        induction fu33 with
        | zero => intro d gw hn; exact absurd hn (Nat.not_lt_zero _)
        | succ fu33 ih33 =>
          intro d gw hn hd0 hW
          have q1 := eSee_le g z d
          refine wf_iload 0 dX8_seeds_33 rfl ?_
          refine wf_iload_n 4 dX8_seeds_35 rfl ?_
          refine wf_icmp_ge_n 107 dX8_seeds_36 (by decide) (by omega) (by omega) (fun c36 => ?_) (fun c36 => ?_)
          · refine wf_iload 1 dX8_seeds_107 rfl ?_
            exact wf_iret .int rfl (vp_nar_int _) ⟨rfl, rfl⟩ (px_of (by unfold sp_seeds; rw [if_pos h2, if_pos h15, nI_clamp (by omega), show d = n by omega]; rfl) ⟨_, hW, rfl⟩) dX8_seeds_109
          · refine wf_aload_n 3 dX8_seeds_39 rfl ?_
            refine wf_callVD (As := []) (rest := []) 19 (c_X8_mindAsNow) kV_X8_156 rfl (by decide) (by decide) (Nat.le_of_ble_eq_true rfl) rfl rfl rfl dX8_seeds_40 ?_
            refine wf_astore [(6, .ref (b 0)), (5, .int (nI d)), (4, .int (nI ((eSee g z d).2))), (3, .int ((eSee g z d).1)), (0, .ref (ax 0)), (1, .int (nI n)), (2, .int z)] dX8_seeds_43 (by decide) rfl ?_
            refine wf_iconst (nI 0) dX8_seeds_45 (by decide) ?_
            refine wf_istore [(7, .int (nI 0)), (6, .ref (b 0)), (5, .int (nI d)), (4, .int (nI ((eSee g z d).2))), (3, .int ((eSee g z d).1)), (0, .ref (ax 0)), (1, .int (nI n)), (2, .int z)] dX8_seeds_46 (by decide) rfl ?_
            have L48 : ∀ (fu48 : Nat) (b_ : Nat), g 9 1 - b_ < fu48 → (b_ ≤ g 9 1) → WF l E RX8 cX8_seeds 8 (some .int) rmX8_seeds false (fun _ => True) (QM E (wg E (kk 6) a g ++ (wk E kk ++ (wl E al y ++ (wx E ax (a 0) (b 0) (c 0) (al 0) y ++ (wg E (kk 6) b gm ++ (wg E (kk 6) c gi ++ r)))))) (PX E kk a b c al ax r (sp_seeds g y (nI n) z) gi) rmX8_seeds) (wg E (kk 6) a g ++ (wk E kk ++ (wl E al y ++ (wx E ax (a 0) (b 0) (c 0) (al 0) y ++ (wg E (kk 6) b gm ++ (wg E (kk 6) c gi ++ r)))))) 0 0 48 [(7, .int (nI b_)), (6, .ref (b 0)), (5, .int (nI d)), (4, .int (nI ((eSee g z d).2))), (3, .int (eSd (eSee g z d).1 b_)), (0, .ref (ax 0)), (1, .int (nI n)), (2, .int z)] [] (wg E (kk 6) a g ++ (wk E kk ++ (wl E al y ++ (wx E ax (a 0) (b 0) (c 0) (al 0) y ++ (wg E (kk 6) b (eTs g (eSee g z d).1 b_) ++ (wg E (kk 6) c gi ++ r)))))) := by
              intro fu48
              induction fu48 with
              | zero => intro b_ hn; exact absurd hn (Nat.not_lt_zero _)
              | succ fu48 ih48 =>
                intro b_ hn hb0
                have e91 : eTs g (eSee g z d).1 b_ 9 1 = g 9 1 := eTs_f (by decide)
                refine wf_iload 0 dX8_seeds_48 rfl ?_
                refine wf_aload 1 dX8_seeds_50 rfl ?_
                refine wf_getf (C := RX2) (T := TX2) (N := 14) (v := .int (nI ((eTs g (eSee g z d).1 b_) 9 1))) 22 9 in_X2 rfl rfl (by decide) fl_X8_72 rfl dX8_seeds_52 ?_
                refine wf_icmp_ge_n 91 dX8_seeds_55 (by decide) (by omega) (by omega) (fun c55 => ?_) (fun c55 => ?_)
                · have hbe : b_ = g 9 1 := by omega
                  subst hbe
                  refine wf_iload 3 dX8_seeds_91 rfl ?_
                  refine wf_aload 1 dX8_seeds_93 rfl ?_
                  refine wf_perm (w' := wg E (kk 6) b (eTs g (eSee g z d).1 (g 9 1)) ++ (wk E kk ++ (wl E al y ++ (wx E ax (a 0) (b 0) (c 0) (al 0) y ++ (wg E (kk 6) a g ++ (wg E (kk 6) c gi ++ r)))))) pm4 ?_
                  refine wf_callVD (As := []) (rest := [.int (nI ((eSee g z d).2))]) 0 (c_X2_passTillDusk (hI.oTs _ _)) kV_X8_166 rfl (by decide) (by decide) (Nat.le_of_ble_eq_true rfl) rfl rfl rfl dX8_seeds_95 ?_
                  refine wf_perm (w' := wg E (kk 6) a g ++ (wk E kk ++ (wl E al y ++ (wx E ax (a 0) (b 0) (c 0) (al 0) y ++ (wg E (kk 6) b (eDk (eTs g (eSee g z d).1 (g 9 1))) ++ (wg E (kk 6) c gi ++ r)))))) pm4 ?_
                  refine wf_iadd (nI (((eSee g z d).2) + (eLeftN (eDk (eTs g (eSee g z d).1 (g 9 1)))))) dX8_seeds_98 (nI_add ((eSee g z d).2) (eLeftN (eDk (eTs g (eSee g z d).1 (g 9 1))))) ?_
                  refine wf_istore [(4, .int (nI (((eSee g z d).2) + (eLeftN (eDk (eTs g (eSee g z d).1 (g 9 1))))))), (7, .int (nI (g 9 1))), (6, .ref (b 0)), (5, .int (nI d)), (3, .int (eSd (eSee g z d).1 (g 9 1))), (0, .ref (ax 0)), (1, .int (nI n)), (2, .int z)] dX8_seeds_99 (by decide) rfl ?_
                  refine wf_iinc (nI (d + 1)) 3 [(5, .int (nI (d + 1))), (4, .int (nI (((eSee g z d).2) + (eLeftN (eDk (eTs g (eSee g z d).1 (g 9 1))))))), (7, .int (nI (g 9 1))), (6, .ref (b 0)), (3, .int (eSd (eSee g z d).1 (g 9 1))), (0, .ref (ax 0)), (1, .int (nI n)), (2, .int z)] dX8_seeds_101 rfl (nI_1 d) (by decide) rfl ?_
                  refine wf_goto 33 dX8_seeds_104 (by decide) ?_
                  refine wf_sub (lv' := [(5, .int (nI (d + 1))), (4, .int (nI (((eSee g z d).2) + (eLeftN (eDk (eTs g (eSee g z d).1 (g 9 1))))))), (3, .int (eSd (eSee g z d).1 (g 9 1))), (0, .ref (ax 0)), (1, .int (nI n)), (2, .int z)]) [0, 1, 4, 5, 6, 7] rfl ?_
                  refine wf_lvc [(5, .int (nI (d + 1))), (4, .int (nI ((eSee g z (d + 1)).2))), (3, .int ((eSee g z (d + 1)).1)), (0, .ref (ax 0)), (1, .int (nI n)), (2, .int z)] rfl ?_
                  exact ih33 (d + 1) _ (by omega) (by omega) ((hI.oTs _ _).oHrs _)
                · refine wf_iload_n 4 dX8_seeds_58 rfl ?_
                  refine wf_ldc (v := (nI 1664525)) con_X8_225 dX8_seeds_59 ?_
                  refine wf_imul ((eSd (eSee g z d).1 b_) * (nI 1664525)) dX8_seeds_61 rfl ?_
                  refine wf_ldc (v := (nI 1013904223)) con_X8_226 dX8_seeds_62 ?_
                  refine wf_iadd (((eSd (eSee g z d).1 b_) * (nI 1664525)) + (nI 1013904223)) dX8_seeds_64 rfl ?_
                  refine wf_istore_n [(3, .int (((eSd (eSee g z d).1 b_) * (nI 1664525)) + (nI 1013904223))), (7, .int (nI b_)), (6, .ref (b 0)), (5, .int (nI d)), (4, .int (nI ((eSee g z d).2))), (0, .ref (ax 0)), (1, .int (nI n)), (2, .int z)] dX8_seeds_65 rfl (by decide) rfl ?_
                  refine wf_aload 2 dX8_seeds_66 rfl ?_
                  refine wf_getf (C := RX2) (T := TX2) (N := 14) (v := .ref (b 5)) 22 6 in_X2 rfl rfl (by decide) fl_X8_118 rfl dX8_seeds_68 ?_
                  refine wf_iload 1 dX8_seeds_71 rfl ?_
                  refine wf_iload_n 0 dX8_seeds_73 rfl ?_
                  refine wf_ldc (v := (nI 2147483647)) con_X8_227 dX8_seeds_74 ?_
                  refine wf_iand (nI ((((eSd (eSee g z d).1 b_) * (nI 1664525)) + (nI 1013904223)).toBitVec.toNat % 2 ^ 31)) dX8_seeds_76 (pk_and _ 31 (by decide)) ?_
                  refine wf_sipush (nI 256) dX8_seeds_77 (by decide) ?_
                  refine wf_idiv (nI (((((eSd (eSee g z d).1 b_) * (nI 1664525)) + (nI 1013904223)).toBitVec.toNat % 2 ^ 31) / 256)) dX8_seeds_80 (nI_ne0 (by decide) (by decide)) (pk_div (Nat.mod_lt _ (by decide)) (by decide) (by decide)) ?_
                  refine wf_bipush (nI 10) dX8_seeds_81 (by decide) ?_
                  refine wf_irem (nI ((((((eSd (eSee g z d).1 b_) * (nI 1664525)) + (nI 1013904223)).toBitVec.toNat % 2 ^ 31) / 256) % 10)) dX8_seeds_83 (nI_ne0 (by decide) (by decide)) (pk_rem (Nat.lt_of_le_of_lt (Nat.div_le_self _ _) (Nat.mod_lt _ (by decide))) (by decide) (by decide)) ?_
                  refine wf_iast_n (wg E (kk 6) a g ++ (wk E kk ++ (wl E al y ++ (wx E ax (a 0) (b 0) (c 0) (al 0) y ++ (wg E (kk 6) b (gs (eTs g (eSee g z d).1 b_) 4 b_ ((((((eSd (eSee g z d).1 b_) * (nI 1664525)) + (nI 1013904223)).toBitVec.toNat % 2 ^ 31) / 256) % 10)) ++ (wg E (kk 6) c gi ++ r)))))) 27 rfl (by omega) (by decide) (so 10 17 rfl (so 7 10 rfl (so 2 8 rfl (so 3 5 rfl (sf 5 (Nat.le_of_ble_eq_true rfl) (wg_set4 b_ ((((((eSd (eSee g z d).1 b_) * (nI 1664525)) + (nI 1013904223)).toBitVec.toNat % 2 ^ 31) / 256) % 10))))))) dX8_seeds_84 ?_
                  refine wf_iinc (nI (b_ + 1)) 1 [(7, .int (nI (b_ + 1))), (3, .int (((eSd (eSee g z d).1 b_) * (nI 1664525)) + (nI 1013904223))), (6, .ref (b 0)), (5, .int (nI d)), (4, .int (nI ((eSee g z d).2))), (0, .ref (ax 0)), (1, .int (nI n)), (2, .int z)] dX8_seeds_85 rfl (nI_1 b_) (by decide) rfl ?_
                  refine wf_goto 48 dX8_seeds_88 (by decide) ?_
                  refine wf_sub (lv' := [(7, .int (nI (b_ + 1))), (6, .ref (b 0)), (5, .int (nI d)), (4, .int (nI ((eSee g z d).2))), (3, .int (((eSd (eSee g z d).1 b_) * (nI 1664525)) + (nI 1013904223))), (0, .ref (ax 0)), (1, .int (nI n)), (2, .int z)]) [0, 2, 3, 4, 1, 5, 6, 7] rfl ?_
                  refine wf_lvc [(7, .int (nI (b_ + 1))), (6, .ref (b 0)), (5, .int (nI d)), (4, .int (nI ((eSee g z d).2))), (3, .int (eSd (eSee g z d).1 (b_ + 1))), (0, .ref (ax 0)), (1, .int (nI n)), (2, .int z)] rfl ?_
                  refine wf_world (wg E (kk 6) a g ++ (wk E kk ++ (wl E al y ++ (wx E ax (a 0) (b 0) (c 0) (al 0) y ++ (wg E (kk 6) b (eTs g (eSee g z d).1 (b_ + 1)) ++ (wg E (kk 6) c gi ++ r)))))) rfl ?_
                  exact ih48 (b_ + 1) (by omega) (by omega)
            refine wf_sub (lv' := [(7, .int (nI 0)), (6, .ref (b 0)), (5, .int (nI d)), (4, .int (nI ((eSee g z d).2))), (3, .int ((eSee g z d).1)), (0, .ref (ax 0)), (1, .int (nI n)), (2, .int z)]) [0, 1, 2, 3, 4, 5, 6, 7] rfl ?_
            exact L48 _ 0 (Nat.lt_succ_self _) (Nat.zero_le _)
      refine wf_sub (lv' := [(5, .int (nI 0)), (4, .int (nI 0)), (3, .int z), (0, .ref (ax 0)), (1, .int (nI n)), (2, .int z)]) [0, 1, 2, 3, 4, 5] rfl ?_
      exact L33 _ 0 gm (Nat.lt_succ_self _) (Nat.zero_le _) hM
    · refine wf_aload_n 0 dX8_seeds_18 rfl ?_
      refine wf_bipush (-6) dX8_seeds_19 (by decide) ?_
      refine wf_callVD (As := [.int (-6)]) (rest := []) 19 (c_X8_refuse (k := 6) (by decide)) kV_X8_56 rfl (by decide) (by decide) (Nat.le_of_ble_eq_true rfl) rfl rfl rfl dX8_seeds_21 ?_
      exact wf_iret .int rfl (vp_nar_int _) ⟨rfl, rfl⟩ (px_of (by unfold sp_seeds; rw [if_pos c2, if_neg c15]; rfl) ⟨_, hM, rfl⟩) dX8_seeds_24
  · refine wf_aload_n 0 dX8_seeds_5 rfl ?_
    refine wf_bipush (-4) dX8_seeds_6 (by decide) ?_
    refine wf_callVD (As := [.int (-4)]) (rest := []) 19 (c_X8_refuse (k := 4) (by decide)) kV_X8_56 rfl (by decide) (by decide) (Nat.le_of_ble_eq_true rfl) rfl rfl rfl dX8_seeds_8 ?_
    exact wf_iret .int rfl (vp_nar_int _) ⟨rfl, rfl⟩ (px_of (by unfold sp_seeds; rw [if_neg c2]; rfl) ⟨_, hM, rfl⟩) dX8_seeds_11
