abbrev rmX8_text : Room := { frames := 7, cells := 0, slots := 0, locals := 159 }
set_option maxHeartbeats 4000000 in
set_option maxRecDepth 100000 in
theorem c_X8_text {l : Launch} {E : Ev}  {g gm gi y : Gd} {a b c kk al ax : Nat → Nat} {r : va_W} (hI : Inv g) (hM : Inv gm) (hG : Inv gi) (hy : YI y)  : CT l E yX8_text cX8_text 2 (some .int) rmX8_text [.ref (ax 0)] (wg E (kk 6) a g ++ (wk E kk ++ (wl E al y ++ (wx E ax (a 0) (b 0) (c 0) (al 0) y ++ (wg E (kk 6) b gm ++ (wg E (kk 6) c gi ++ r)))))) (PX E kk a b c al ax r (sp_text g y) gi) := by
  refine CT.of (lv := [(0, .ref (ax 0))]) false (by decide +kernel) (by decide) (Nat.le_of_ble_eq_true rfl) rfl ?_
  have f0 := hI.words
  have f1 := hI.birds
  have f2 := hI.gone
  have f3 := hI.hour
  obtain ⟨y00, y01, y02, y1, y2⟩ := id hy
  refine wf_aload_n 0 dX8_text_0 rfl ?_
  refine wf_getf (C := RX8) (T := TX8) (N := 8) (v := .ref (al 0)) 19 4 in_X8 rfl rfl (by decide) fl_X8_45 rfl dX8_text_1 ?_
  refine wf_aload_n 0 dX8_text_4 rfl ?_
  refine wf_getf (C := RX8) (T := TX8) (N := 8) (v := .ref (a 0)) 19 0 in_X8 rfl rfl (by decide) fl_X8_30 rfl dX8_text_5 ?_
  refine wf_getf (C := RX2) (T := TX2) (N := 14) (v := .int (nI (g 9 0))) 0 4 in_X2 rfl rfl (by decide) fl_X8_68 rfl dX8_text_8 ?_
  refine wf_aload_n 0 dX8_text_11 rfl ?_
  refine wf_getf (C := RX8) (T := TX8) (N := 8) (v := .ref (a 0)) 19 0 in_X8 rfl rfl (by decide) fl_X8_30 rfl dX8_text_12 ?_
  refine wf_getf (C := RX2) (T := TX2) (N := 14) (v := .int (nI (g 9 1))) 0 9 in_X2 rfl rfl (by decide) fl_X8_72 rfl dX8_text_15 ?_
  refine wf_callVD (As := [.int (nI (g 9 0)), .int (nI (g 9 1))]) (rest := []) 17 (c_X4_fault hy f0 f1) kV_X8_75 rfl (by decide) (by decide) (Nat.le_of_ble_eq_true rfl) rfl rfl rfl dX8_text_18 ?_
  rcases hm : eMi y 81 0 with _ | q
  · rcases hu : eUnf y (y 0 1) 0 (g 9 0) (g 9 1) with _ | u
    · refine wf_top (y := .int 0) (by unfold eFau; rw [hm, hu]) ?_
      refine wf_istore_n [(1, .int 0), (0, .ref (ax 0))] dX8_text_21 rfl (by decide) rfl ?_
      refine wf_iload_n 0 dX8_text_22 rfl ?_
      refine wf_if_ne 38 dX8_text_23 (by decide) (fun c23 => absurd rfl c23) (fun c23 => ?_)
      have hF := unf_all (g := g) (y 0 1) 0 hu
      have hF : ∀ p, p < y 0 1 → eBeg y p = true → eFit y p ((eTl y g p).1 9 0) ((eTl y g p).1 9 1) = true := fun p h1 h2 => hF p (Nat.zero_le _) (by omega) h2
      have hTI := hI.oTl (mis_ok y01 hm) hF (y 0 1) (Nat.le_refl _)
      refine wf_aload_n 1 dX8_text_26 rfl ?_
      refine wf_getf (C := RX8) (T := TX8) (N := 8) (v := .ref (al 0)) 19 4 in_X8 rfl rfl (by decide) fl_X8_45 rfl dX8_text_27 ?_
      refine wf_aload_n 1 dX8_text_30 rfl ?_
      refine wf_getf (C := RX8) (T := TX8) (N := 8) (v := .ref (a 0)) 19 0 in_X8 rfl rfl (by decide) fl_X8_30 rfl dX8_text_31 ?_
      refine wf_callVD (As := [.ref (a 0)]) (rest := []) 17 (c_X4_tellTo hy hI (mis_ok y01 hm) hF) kV_X8_79 rfl (by decide) (by decide) (Nat.le_of_ble_eq_true rfl) rfl rfl rfl dX8_text_34 ?_
      refine wf_istore_n [(1, .int (nI ((eTl y g (y 0 1)).2))), (0, .ref (ax 0))] dX8_text_37 rfl (by decide) rfl ?_
      refine wf_aload_n 1 dX8_text_38 rfl ?_
      refine wf_getf (C := RX8) (T := TX8) (N := 8) (v := .ref (al 0)) 19 4 in_X8 rfl rfl (by decide) fl_X8_45 rfl dX8_text_39 ?_
      refine wf_callVv (As := []) (rest := []) 17 (c_X4_clear) kV_X8_83 rfl (by decide) (by decide) (Nat.le_of_ble_eq_true rfl) rfl rfl rfl dX8_text_42 ?_
      refine wf_iload_n 0 dX8_text_45 rfl ?_
      exact wf_iret .int rfl (vp_nar_int _) ⟨rfl, rfl⟩ (px_of (by unfold sp_text; rw [hm, hu]) ⟨_, hM, rfl⟩) dX8_text_46
    · have hu2 := unf_lt _ _ _ _ u hu
      refine wf_top (y := .int ((-2000) - nI u)) (by unfold eFau; rw [hm, hu]) ?_
      refine wf_istore_n [(1, .int ((-2000) - nI u)), (0, .ref (ax 0))] dX8_text_21 rfl (by decide) rfl ?_
      refine wf_iload_n 0 dX8_text_22 rfl ?_
      refine wf_if_ne 38 dX8_text_23 (by decide) (fun c23 => ?_) (fun c23 => absurd c23 (fau_ne (a := 2000) (by decide) (by decide) (by omega)))
      refine wf_aload_n 1 dX8_text_38 rfl ?_
      refine wf_getf (C := RX8) (T := TX8) (N := 8) (v := .ref (al 0)) 19 4 in_X8 rfl rfl (by decide) fl_X8_45 rfl dX8_text_39 ?_
      refine wf_callVv (As := []) (rest := []) 17 (c_X4_clear) kV_X8_83 rfl (by decide) (by decide) (Nat.le_of_ble_eq_true rfl) rfl rfl rfl dX8_text_42 ?_
      refine wf_iload_n 0 dX8_text_45 rfl ?_
      exact wf_iret .int rfl (vp_nar_int _) ⟨rfl, rfl⟩ (px_of (by unfold sp_text; rw [hm, hu]) ⟨_, hM, rfl⟩) dX8_text_46
  · have hq := mis_lt y01 81 0 q (Nat.zero_le _) hm
    refine wf_top (y := .int ((-1000) - nI q)) (by unfold eFau; rw [hm]) ?_
    refine wf_istore_n [(1, .int ((-1000) - nI q)), (0, .ref (ax 0))] dX8_text_21 rfl (by decide) rfl ?_
    refine wf_iload_n 0 dX8_text_22 rfl ?_
    refine wf_if_ne 38 dX8_text_23 (by decide) (fun c23 => ?_) (fun c23 => absurd c23 (fau_ne (a := 1000) (by decide) (by decide) (by omega)))
    refine wf_aload_n 1 dX8_text_38 rfl ?_
    refine wf_getf (C := RX8) (T := TX8) (N := 8) (v := .ref (al 0)) 19 4 in_X8 rfl rfl (by decide) fl_X8_45 rfl dX8_text_39 ?_
    refine wf_callVv (As := []) (rest := []) 17 (c_X4_clear) kV_X8_83 rfl (by decide) (by decide) (Nat.le_of_ble_eq_true rfl) rfl rfl rfl dX8_text_42 ?_
    refine wf_iload_n 0 dX8_text_45 rfl ?_
    exact wf_iret .int rfl (vp_nar_int _) ⟨rfl, rfl⟩ (px_of (by unfold sp_text; rw [hm]) ⟨_, hM, rfl⟩) dX8_text_46
