abbrev rmX9_tastes : Room := { frames := 6, cells := 0, slots := 0, locals := 134 }
set_option maxHeartbeats 4000000 in
set_option maxRecDepth 100000 in
theorem c_X9_tastes {l : Launch} {E : Ev} {x z : Int32} {gi : Gd} {g y j : Gd} {td : Nat → Int32} {am : Nat → Nat} {r : va_W} (hI : Inv g) (hJ : IH j gi) (hy : YI y)  : CT l E yX9_tastes cX9_tastes 6 (some .int) rmX9_tastes [.ref (am 0), .int x, .int z] (wm E am g y j td ++ r) (PM E am r (sp_tastes g y x z) gi) := by
  refine CT.of (lv := [(0, .ref (am 0)), (1, .int x), (2, .int z)]) false (by decide +kernel) (by decide) (Nat.le_of_ble_eq_true rfl) rfl ?_
  have f0 := hI.words
  have f1 := hI.birds
  have f2 := hI.gone
  have f3 := hI.hour
  obtain ⟨y00, y01, y02, y1, y2⟩ := id hy
  refine wf_aload_n 0 dX9_tastes_0 rfl ?_
  refine wf_iload_n 1 dX9_tastes_1 rfl ?_
  refine wf_callVD (As := [.int x]) (rest := []) 0 (c_X9_isBird) kV_X9_172 rfl (by decide) (by decide) (Nat.le_of_ble_eq_true rfl) rfl rfl rfl dX9_tastes_2 ?_
  refine wf_if_eq_b 16 dX9_tastes_5 (by decide) (fun c5 => ?_) (fun c5 => ?_)
  · refine wf_aload_n 0 dX9_tastes_16 rfl ?_
    refine wf_iconst (-1) dX9_tastes_17 (by decide) ?_
    refine wf_callVD (As := [.int (-1)]) (rest := []) 0 (c_X9_no (k := 1) (by decide)) kV_X9_73 rfl (by decide) (by decide) (Nat.le_of_ble_eq_true rfl) rfl rfl rfl dX9_tastes_18 ?_
    exact wf_iret .int rfl (vp_nar_int _) ⟨rfl, rfl⟩ (pm_of (by unfold sp_tastes; rw [if_pos c5]; rfl) ⟨_, _, hJ, rfl⟩) dX9_tastes_21
  · refine wf_aload_n 0 dX9_tastes_8 rfl ?_
    refine wf_iload_n 2 dX9_tastes_9 rfl ?_
    refine wf_callVD (As := [.int z]) (rest := []) 0 (c_X9_areWords hI) kV_X9_190 rfl (by decide) (by decide) (Nat.le_of_ble_eq_true rfl) rfl rfl rfl dX9_tastes_10 ?_
    refine wf_if_ne_b 22 dX9_tastes_13 (by decide) (fun c13 => ?_) (fun c13 => ?_)
    · have h5 := c5
      have h13 := c13
      obtain ⟨j_, hj_, rfl⟩ := eHas_i (by omega) h5
      obtain ⟨w, hw, rfl⟩ := eHasS_i hI h13
      have q0 := hI.taste j_
      refine wf_aload_n 0 dX9_tastes_22 rfl ?_
      refine wf_getf (C := RX9) (T := TX9) (N := 27) (v := .ref (am 6)) 0 5 in_X9 rfl rfl (by decide) fl_X9_25 rfl dX9_tastes_23 ?_
      refine wf_iload_n 1 dX9_tastes_26 rfl ?_
      refine wf_iald_n (nI (g 4 j_)) 6 rfl (by omega) (by decide) rfl dX9_tastes_27 ?_
      refine wf_istore_n [(3, .int (nI (g 4 j_))), (0, .ref (am 0)), (1, .int (nI j_)), (2, .int (nI w))] dX9_tastes_28 rfl (by decide) rfl ?_
      refine wf_iconst (nI 0) dX9_tastes_29 (by decide) ?_
      refine wf_istore [(4, .int (nI 0)), (3, .int (nI (g 4 j_))), (0, .ref (am 0)), (1, .int (nI j_)), (2, .int (nI w))] dX9_tastes_30 (by decide) rfl ?_
      refine wf_iconst (nI 0) dX9_tastes_32 (by decide) ?_
      refine wf_istore [(5, .int (nI 0)), (4, .int (nI 0)), (3, .int (nI (g 4 j_))), (0, .ref (am 0)), (1, .int (nI j_)), (2, .int (nI w))] dX9_tastes_33 (by decide) rfl ?_
      have L35 : ∀ (fu35 : Nat) (t : Nat) (v : Nat), 10 - t < fu35 → (t ≤ 10) → WF l E RX9 cX9_tastes 6 (some .int) rmX9_tastes false (fun _ => True) (QM E (wm E am g y j td ++ r) (PM E am r (sp_tastes g y (nI j_) (nI w)) gi) rmX9_tastes) (wm E am g y j td ++ r) 0 0 35 [(5, .int (nI t)), (4, .int (nI (eTa g j_ w t))), (3, .int (nI (g 4 j_))), (0, .ref (am 0)), (1, .int (nI j_)), (2, .int (nI w))] [] (wm E am (gs g 4 j_ v) y j td ++ r) := by
        intro fu35
        induction fu35 with
        | zero => intro t v hn; exact absurd hn (Nat.not_lt_zero _)
        | succ fu35 ih35 =>
          intro t v hn ht
          have f7 := eTa_lt g j_ w t (by omega)
          have f8 := hI.all
          have f9 : 1 <<< t < 2 ^ 20 := sh_lt (n := 20) (by omega) (by decide)
          refine wf_iload 0 dX9_tastes_35 rfl ?_
          refine wf_bipush (nI 10) dX9_tastes_37 (by decide) ?_
          refine wf_icmp_ge_n 77 dX9_tastes_39 (by decide) (by omega) (by omega) (fun c39 => ?_) (fun c39 => ?_)
          · refine wf_aload_n 3 dX9_tastes_77 rfl ?_
            refine wf_getf (C := RX9) (T := TX9) (N := 27) (v := .ref (am 6)) 0 5 in_X9 rfl rfl (by decide) fl_X9_25 rfl dX9_tastes_78 ?_
            refine wf_iload_n 4 dX9_tastes_81 rfl ?_
            refine wf_iload_n 2 dX9_tastes_82 rfl ?_
            refine wf_iast_n (wm E am (gs (gs g 4 j_ v) 4 j_ (g 4 j_)) y j td ++ r) 6 rfl (by omega) (by decide) (sf 6 (Nat.le_of_ble_eq_true rfl) (wm_set4 j_ (g 4 j_))) dX9_tastes_83 ?_
            refine wf_world (wm E am g y j td ++ r) (by rw [gs_gs, gs_id]) ?_
            refine wf_iload 1 dX9_tastes_84 rfl ?_
            exact wf_iret .int rfl (vp_nar_int _) ⟨rfl, rfl⟩ (pm_of (by unfold sp_tastes; rw [if_neg (by rw [h5]; decide), if_neg (by rw [h13]; decide), nI_clamp (by omega), nI_clamp (by omega), show t = 10 by omega]; rfl) ⟨_, _, hJ, rfl⟩) dX9_tastes_86
          · refine wf_aload_n 3 dX9_tastes_42 rfl ?_
            refine wf_getf (C := RX9) (T := TX9) (N := 27) (v := .ref (am 6)) 0 5 in_X9 rfl rfl (by decide) fl_X9_25 rfl dX9_tastes_43 ?_
            refine wf_iload_n 4 dX9_tastes_46 rfl ?_
            refine wf_iload 0 dX9_tastes_47 rfl ?_
            refine wf_iast_n (wm E am (gs (gs g 4 j_ v) 4 j_ t) y j td ++ r) 6 rfl (by omega) (by decide) (sf 6 (Nat.le_of_ble_eq_true rfl) (wm_set4 j_ t)) dX9_tastes_49 ?_
            refine wf_world (wm E am (gs g 4 j_ t) y j td ++ r) (by rw [gs_gs]) ?_
            refine wf_iload 1 dX9_tastes_50 rfl ?_
            refine wf_aload_n 3 dX9_tastes_52 rfl ?_
            refine wf_callVD (As := []) (rest := [.int (nI (eTa g j_ w t))]) 0 (c_X9_leftAtDusk (hI.oTaste (by omega))) kV_X9_181 rfl (by decide) (by decide) (Nat.le_of_ble_eq_true rfl) rfl rfl rfl dX9_tastes_53 ?_
            refine wf_iload_n 5 dX9_tastes_56 rfl ?_
            refine wf_icmp_ne_n 67 dX9_tastes_57 (by decide) (by have := (hI.oTaste (i := j_) (v := t) (by omega)).oHrs (8 - gs g 4 j_ t 9 3); exact Nat.lt_trans this.left (by decide)) (by have := hI.all; omega) (fun c57 => ?_) (fun c57 => ?_)
            · refine wf_iconst (nI 0) dX9_tastes_67 (by decide) ?_
              refine wf_ior (nI ((eTa g j_ w t) ||| 0)) dX9_tastes_68 (nI_lor (Nat.lt_trans f7 (by decide)) (by omega)) ?_
              refine wf_istore [(4, .int (nI ((eTa g j_ w t) ||| 0))), (5, .int (nI t)), (3, .int (nI (g 4 j_))), (0, .ref (am 0)), (1, .int (nI j_)), (2, .int (nI w))] dX9_tastes_69 (by decide) rfl ?_
              refine wf_iinc (nI (t + 1)) 1 [(5, .int (nI (t + 1))), (4, .int (nI ((eTa g j_ w t) ||| 0))), (3, .int (nI (g 4 j_))), (0, .ref (am 0)), (1, .int (nI j_)), (2, .int (nI w))] dX9_tastes_71 rfl (nI_1 t) (by decide) rfl ?_
              refine wf_goto 35 dX9_tastes_74 (by decide) ?_
              refine wf_sub (lv' := [(5, .int (nI (t + 1))), (4, .int (nI ((eTa g j_ w t) ||| 0))), (3, .int (nI (g 4 j_))), (0, .ref (am 0)), (1, .int (nI j_)), (2, .int (nI w))]) [0, 1, 2, 3, 4, 5] rfl ?_
              refine wf_lvc [(5, .int (nI (t + 1))), (4, .int (nI (eTa g j_ w (t + 1)))), (3, .int (nI (g 4 j_))), (0, .ref (am 0)), (1, .int (nI j_)), (2, .int (nI w))] (by rw [show ((eTa g j_ w t) ||| 0) = eTa g j_ w (t + 1) from by show _ = if _ then _ else _; rw [if_neg c57, Nat.or_zero]]) ?_
              exact ih35 (t + 1) t (by omega) (by omega)
            · refine wf_iconst (nI 1) dX9_tastes_60 (by decide) ?_
              refine wf_iload 0 dX9_tastes_61 rfl ?_
              refine wf_ishl (nI (1 <<< t)) dX9_tastes_63 (nI_shl (by omega) (Nat.lt_trans f9 (by decide))) ?_
              refine wf_goto 68 dX9_tastes_64 (by decide) ?_
              refine wf_ior (nI ((eTa g j_ w t) ||| (1 <<< t))) dX9_tastes_68 (nI_lor (Nat.lt_trans f7 (by decide)) (by omega)) ?_
              refine wf_istore [(4, .int (nI ((eTa g j_ w t) ||| (1 <<< t)))), (5, .int (nI t)), (3, .int (nI (g 4 j_))), (0, .ref (am 0)), (1, .int (nI j_)), (2, .int (nI w))] dX9_tastes_69 (by decide) rfl ?_
              refine wf_iinc (nI (t + 1)) 1 [(5, .int (nI (t + 1))), (4, .int (nI ((eTa g j_ w t) ||| (1 <<< t)))), (3, .int (nI (g 4 j_))), (0, .ref (am 0)), (1, .int (nI j_)), (2, .int (nI w))] dX9_tastes_71 rfl (nI_1 t) (by decide) rfl ?_
              refine wf_goto 35 dX9_tastes_74 (by decide) ?_
              refine wf_sub (lv' := [(5, .int (nI (t + 1))), (4, .int (nI ((eTa g j_ w t) ||| (1 <<< t)))), (3, .int (nI (g 4 j_))), (0, .ref (am 0)), (1, .int (nI j_)), (2, .int (nI w))]) [0, 1, 2, 3, 4, 5] rfl ?_
              refine wf_lvc [(5, .int (nI (t + 1))), (4, .int (nI (eTa g j_ w (t + 1)))), (3, .int (nI (g 4 j_))), (0, .ref (am 0)), (1, .int (nI j_)), (2, .int (nI w))] (by rw [show ((eTa g j_ w t) ||| (1 <<< t)) = eTa g j_ w (t + 1) from by show _ = if _ then _ else _; rw [if_pos c57]]) ?_
              exact ih35 (t + 1) t (by omega) (by omega)
      refine wf_sub (lv' := [(5, .int (nI 0)), (4, .int (nI 0)), (3, .int (nI (g 4 j_))), (0, .ref (am 0)), (1, .int (nI j_)), (2, .int (nI w))]) [0, 1, 2, 3, 4, 5] rfl ?_
      refine wf_world (wm E am (gs g 4 j_ (g 4 j_)) y j td ++ r) (by rw [gs_id]) ?_
      exact L35 _ 0 (g 4 j_) (Nat.lt_succ_self _) (Nat.zero_le _)
    · refine wf_aload_n 0 dX9_tastes_16 rfl ?_
      refine wf_iconst (-1) dX9_tastes_17 (by decide) ?_
      refine wf_callVD (As := [.int (-1)]) (rest := []) 0 (c_X9_no (k := 1) (by decide)) kV_X9_73 rfl (by decide) (by decide) (Nat.le_of_ble_eq_true rfl) rfl rfl rfl dX9_tastes_18 ?_
      exact wf_iret .int rfl (vp_nar_int _) ⟨rfl, rfl⟩ (pm_of (by unfold sp_tastes; rw [if_neg (by rw [c5]; decide), if_pos c13]; rfl) ⟨_, _, hJ, rfl⟩) dX9_tastes_21
abbrev rmX9_fitting : Room := { frames := 6, cells := 0, slots := 0, locals := 134 }
set_option maxHeartbeats 4000000 in
set_option maxRecDepth 100000 in
theorem c_X9_fitting {l : Launch} {E : Ev} {x z : Int32} {gi : Gd} {g y j : Gd} {td : Nat → Int32} {am : Nat → Nat} {r : va_W} (hI : Inv g) (hJ : IH j gi) (hy : YI y)  : CT l E yX9_fitting cX9_fitting 6 (some .int) rmX9_fitting [.ref (am 0), .int x, .int z] (wm E am g y j td ++ r) (PM E am r (sp_fitting g y x z) gi) := by
  refine CT.of (lv := [(0, .ref (am 0)), (1, .int x), (2, .int z)]) false (by decide +kernel) (by decide) (Nat.le_of_ble_eq_true rfl) rfl ?_
  have f0 := hI.words
  have f1 := hI.birds
  have f2 := hI.gone
  have f3 := hI.hour
  obtain ⟨y00, y01, y02, y1, y2⟩ := id hy
  refine wf_aload_n 0 dX9_fitting_0 rfl ?_
  refine wf_iload_n 1 dX9_fitting_1 rfl ?_
  refine wf_callVD (As := [.int x]) (rest := []) 0 (c_X9_isBird) kV_X9_172 rfl (by decide) (by decide) (Nat.le_of_ble_eq_true rfl) rfl rfl rfl dX9_fitting_2 ?_
  refine wf_if_eq_b 16 dX9_fitting_5 (by decide) (fun c5 => ?_) (fun c5 => ?_)
  · refine wf_aload_n 0 dX9_fitting_16 rfl ?_
    refine wf_iconst (-1) dX9_fitting_17 (by decide) ?_
    refine wf_callVD (As := [.int (-1)]) (rest := []) 0 (c_X9_no (k := 1) (by decide)) kV_X9_73 rfl (by decide) (by decide) (Nat.le_of_ble_eq_true rfl) rfl rfl rfl dX9_fitting_18 ?_
    exact wf_iret .int rfl (vp_nar_int _) ⟨rfl, rfl⟩ (pm_of (by unfold sp_fitting; rw [if_pos c5]; rfl) ⟨_, _, hJ, rfl⟩) dX9_fitting_21
  · refine wf_aload_n 0 dX9_fitting_8 rfl ?_
    refine wf_iload_n 2 dX9_fitting_9 rfl ?_
    refine wf_callVD (As := [.int z]) (rest := []) 0 (c_X9_areWords hI) kV_X9_190 rfl (by decide) (by decide) (Nat.le_of_ble_eq_true rfl) rfl rfl rfl dX9_fitting_10 ?_
    refine wf_if_ne_b 22 dX9_fitting_13 (by decide) (fun c13 => ?_) (fun c13 => ?_)
    · have h5 := c5
      have h13 := c13
      obtain ⟨j_, hj_, rfl⟩ := eHas_i (by omega) h5
      obtain ⟨w, hw, rfl⟩ := eHasS_i hI h13
      have q0 := hI.kind j_
      refine wf_aload_n 0 dX9_fitting_22 rfl ?_
      refine wf_getf (C := RX9) (T := TX9) (N := 27) (v := .ref (am 5)) 0 4 in_X9 rfl rfl (by decide) fl_X9_22 rfl dX9_fitting_23 ?_
      refine wf_iload_n 1 dX9_fitting_26 rfl ?_
      refine wf_iald_n (nI (g 3 j_)) 5 rfl (by omega) (by decide) rfl dX9_fitting_27 ?_
      refine wf_istore_n [(3, .int (nI (g 3 j_))), (0, .ref (am 0)), (1, .int (nI j_)), (2, .int (nI w))] dX9_fitting_28 rfl (by decide) rfl ?_
      refine wf_iconst (nI 0) dX9_fitting_29 (by decide) ?_
      refine wf_istore [(4, .int (nI 0)), (3, .int (nI (g 3 j_))), (0, .ref (am 0)), (1, .int (nI j_)), (2, .int (nI w))] dX9_fitting_30 (by decide) rfl ?_
      refine wf_iconst (nI 0) dX9_fitting_32 (by decide) ?_
      refine wf_istore [(5, .int (nI 0)), (4, .int (nI 0)), (3, .int (nI (g 3 j_))), (0, .ref (am 0)), (1, .int (nI j_)), (2, .int (nI w))] dX9_fitting_33 (by decide) rfl ?_
      have L35 : ∀ (fu35 : Nat) (t : Nat) (v : Nat), 6 - t < fu35 → (t ≤ 6) → WF l E RX9 cX9_fitting 6 (some .int) rmX9_fitting false (fun _ => True) (QM E (wm E am g y j td ++ r) (PM E am r (sp_fitting g y (nI j_) (nI w)) gi) rmX9_fitting) (wm E am g y j td ++ r) 0 0 35 [(5, .int (nI t)), (4, .int (nI (eFi g j_ w t))), (3, .int (nI (g 3 j_))), (0, .ref (am 0)), (1, .int (nI j_)), (2, .int (nI w))] [] (wm E am (gs g 3 j_ v) y j td ++ r) := by
        intro fu35
        induction fu35 with
        | zero => intro t v hn; exact absurd hn (Nat.not_lt_zero _)
        | succ fu35 ih35 =>
          intro t v hn ht
          have f7 := eFi_lt g j_ w t (by omega)
          have f8 := hI.all
          have f9 : 1 <<< t < 2 ^ 20 := sh_lt (n := 20) (by omega) (by decide)
          refine wf_iload 0 dX9_fitting_35 rfl ?_
          refine wf_bipush (nI 6) dX9_fitting_37 (by decide) ?_
          refine wf_icmp_ge_n 77 dX9_fitting_39 (by decide) (by omega) (by omega) (fun c39 => ?_) (fun c39 => ?_)
          · refine wf_aload_n 3 dX9_fitting_77 rfl ?_
            refine wf_getf (C := RX9) (T := TX9) (N := 27) (v := .ref (am 5)) 0 4 in_X9 rfl rfl (by decide) fl_X9_22 rfl dX9_fitting_78 ?_
            refine wf_iload_n 4 dX9_fitting_81 rfl ?_
            refine wf_iload_n 2 dX9_fitting_82 rfl ?_
            refine wf_iast_n (wm E am (gs (gs g 3 j_ v) 3 j_ (g 3 j_)) y j td ++ r) 5 rfl (by omega) (by decide) (sf 5 (Nat.le_of_ble_eq_true rfl) (wm_set3 j_ (g 3 j_))) dX9_fitting_83 ?_
            refine wf_world (wm E am g y j td ++ r) (by rw [gs_gs, gs_id]) ?_
            refine wf_iload 1 dX9_fitting_84 rfl ?_
            exact wf_iret .int rfl (vp_nar_int _) ⟨rfl, rfl⟩ (pm_of (by unfold sp_fitting; rw [if_neg (by rw [h5]; decide), if_neg (by rw [h13]; decide), nI_clamp (by omega), nI_clamp (by omega), show t = 6 by omega]; rfl) ⟨_, _, hJ, rfl⟩) dX9_fitting_86
          · refine wf_aload_n 3 dX9_fitting_42 rfl ?_
            refine wf_getf (C := RX9) (T := TX9) (N := 27) (v := .ref (am 5)) 0 4 in_X9 rfl rfl (by decide) fl_X9_22 rfl dX9_fitting_43 ?_
            refine wf_iload_n 4 dX9_fitting_46 rfl ?_
            refine wf_iload 0 dX9_fitting_47 rfl ?_
            refine wf_iast_n (wm E am (gs (gs g 3 j_ v) 3 j_ t) y j td ++ r) 5 rfl (by omega) (by decide) (sf 5 (Nat.le_of_ble_eq_true rfl) (wm_set3 j_ t)) dX9_fitting_49 ?_
            refine wf_world (wm E am (gs g 3 j_ t) y j td ++ r) (by rw [gs_gs]) ?_
            refine wf_iload 1 dX9_fitting_50 rfl ?_
            refine wf_aload_n 3 dX9_fitting_52 rfl ?_
            refine wf_callVD (As := []) (rest := [.int (nI (eFi g j_ w t))]) 0 (c_X9_leftAtDusk (hI.oKind (by omega))) kV_X9_181 rfl (by decide) (by decide) (Nat.le_of_ble_eq_true rfl) rfl rfl rfl dX9_fitting_53 ?_
            refine wf_iload_n 5 dX9_fitting_56 rfl ?_
            refine wf_icmp_ne_n 67 dX9_fitting_57 (by decide) (by have := (hI.oKind (i := j_) (v := t) (by omega)).oHrs (8 - gs g 3 j_ t 9 3); exact Nat.lt_trans this.left (by decide)) (by have := hI.all; omega) (fun c57 => ?_) (fun c57 => ?_)
            · refine wf_iconst (nI 0) dX9_fitting_67 (by decide) ?_
              refine wf_ior (nI ((eFi g j_ w t) ||| 0)) dX9_fitting_68 (nI_lor (Nat.lt_trans f7 (by decide)) (by omega)) ?_
              refine wf_istore [(4, .int (nI ((eFi g j_ w t) ||| 0))), (5, .int (nI t)), (3, .int (nI (g 3 j_))), (0, .ref (am 0)), (1, .int (nI j_)), (2, .int (nI w))] dX9_fitting_69 (by decide) rfl ?_
              refine wf_iinc (nI (t + 1)) 1 [(5, .int (nI (t + 1))), (4, .int (nI ((eFi g j_ w t) ||| 0))), (3, .int (nI (g 3 j_))), (0, .ref (am 0)), (1, .int (nI j_)), (2, .int (nI w))] dX9_fitting_71 rfl (nI_1 t) (by decide) rfl ?_
              refine wf_goto 35 dX9_fitting_74 (by decide) ?_
              refine wf_sub (lv' := [(5, .int (nI (t + 1))), (4, .int (nI ((eFi g j_ w t) ||| 0))), (3, .int (nI (g 3 j_))), (0, .ref (am 0)), (1, .int (nI j_)), (2, .int (nI w))]) [0, 1, 2, 3, 4, 5] rfl ?_
              refine wf_lvc [(5, .int (nI (t + 1))), (4, .int (nI (eFi g j_ w (t + 1)))), (3, .int (nI (g 3 j_))), (0, .ref (am 0)), (1, .int (nI j_)), (2, .int (nI w))] (by rw [show ((eFi g j_ w t) ||| 0) = eFi g j_ w (t + 1) from by show _ = if _ then _ else _; rw [if_neg c57, Nat.or_zero]]) ?_
              exact ih35 (t + 1) t (by omega) (by omega)
            · refine wf_iconst (nI 1) dX9_fitting_60 (by decide) ?_
              refine wf_iload 0 dX9_fitting_61 rfl ?_
              refine wf_ishl (nI (1 <<< t)) dX9_fitting_63 (nI_shl (by omega) (Nat.lt_trans f9 (by decide))) ?_
              refine wf_goto 68 dX9_fitting_64 (by decide) ?_
              refine wf_ior (nI ((eFi g j_ w t) ||| (1 <<< t))) dX9_fitting_68 (nI_lor (Nat.lt_trans f7 (by decide)) (by omega)) ?_
              refine wf_istore [(4, .int (nI ((eFi g j_ w t) ||| (1 <<< t)))), (5, .int (nI t)), (3, .int (nI (g 3 j_))), (0, .ref (am 0)), (1, .int (nI j_)), (2, .int (nI w))] dX9_fitting_69 (by decide) rfl ?_
              refine wf_iinc (nI (t + 1)) 1 [(5, .int (nI (t + 1))), (4, .int (nI ((eFi g j_ w t) ||| (1 <<< t)))), (3, .int (nI (g 3 j_))), (0, .ref (am 0)), (1, .int (nI j_)), (2, .int (nI w))] dX9_fitting_71 rfl (nI_1 t) (by decide) rfl ?_
              refine wf_goto 35 dX9_fitting_74 (by decide) ?_
              refine wf_sub (lv' := [(5, .int (nI (t + 1))), (4, .int (nI ((eFi g j_ w t) ||| (1 <<< t)))), (3, .int (nI (g 3 j_))), (0, .ref (am 0)), (1, .int (nI j_)), (2, .int (nI w))]) [0, 1, 2, 3, 4, 5] rfl ?_
              refine wf_lvc [(5, .int (nI (t + 1))), (4, .int (nI (eFi g j_ w (t + 1)))), (3, .int (nI (g 3 j_))), (0, .ref (am 0)), (1, .int (nI j_)), (2, .int (nI w))] (by rw [show ((eFi g j_ w t) ||| (1 <<< t)) = eFi g j_ w (t + 1) from by show _ = if _ then _ else _; rw [if_pos c57]]) ?_
              exact ih35 (t + 1) t (by omega) (by omega)
      refine wf_sub (lv' := [(5, .int (nI 0)), (4, .int (nI 0)), (3, .int (nI (g 3 j_))), (0, .ref (am 0)), (1, .int (nI j_)), (2, .int (nI w))]) [0, 1, 2, 3, 4, 5] rfl ?_
      refine wf_world (wm E am (gs g 3 j_ (g 3 j_)) y j td ++ r) (by rw [gs_id]) ?_
      exact L35 _ 0 (g 3 j_) (Nat.lt_succ_self _) (Nat.zero_le _)
    · refine wf_aload_n 0 dX9_fitting_16 rfl ?_
      refine wf_iconst (-1) dX9_fitting_17 (by decide) ?_
      refine wf_callVD (As := [.int (-1)]) (rest := []) 0 (c_X9_no (k := 1) (by decide)) kV_X9_73 rfl (by decide) (by decide) (Nat.le_of_ble_eq_true rfl) rfl rfl rfl dX9_fitting_18 ?_
      exact wf_iret .int rfl (vp_nar_int _) ⟨rfl, rfl⟩ (pm_of (by unfold sp_fitting; rw [if_neg (by rw [c5]; decide), if_pos c13]; rfl) ⟨_, _, hJ, rfl⟩) dX9_fitting_21
abbrev rmX9_watch : Room := { frames := 1, cells := 0, slots := 0, locals := 22 }
set_option maxHeartbeats 4000000 in
set_option maxRecDepth 100000 in
theorem c_X9_watch {l : Launch} {E : Ev} {x h z : Int32} {gi : Gd} {g y j : Gd} {td : Nat → Int32} {am : Nat → Nat} {r : va_W} (hI : Inv g) (hJ : IH j gi) (hy : YI y)  : CT l E yX9_watch cX9_watch 6 (some .int) rmX9_watch [.ref (am 0), .int x, .int h, .int z] (wm E am g y j td ++ r) (PM E am r (sp_watch g y x h z) gi) := by
  refine CT.of (lv := [(0, .ref (am 0)), (1, .int x), (2, .int h), (3, .int z)]) false (by decide +kernel) (by decide) (Nat.le_of_ble_eq_true rfl) rfl ?_
  have f0 := hI.words
  have f1 := hI.birds
  have f2 := hI.gone
  have f3 := hI.hour
  obtain ⟨y00, y01, y02, y1, y2⟩ := id hy
  refine wf_aload_n 0 dX9_watch_0 rfl ?_
  refine wf_iload_n 1 dX9_watch_1 rfl ?_
  refine wf_callVD (As := [.int x]) (rest := []) 0 (c_X9_isWord) kV_X9_102 rfl (by decide) (by decide) (Nat.le_of_ble_eq_true rfl) rfl rfl rfl dX9_watch_2 ?_
  refine wf_if_ne_b 12 dX9_watch_5 (by decide) (fun c5 => ?_) (fun c5 => ?_)
  · refine wf_iload_n 2 dX9_watch_12 rfl ?_
    refine wf_iconst (nI 0) dX9_watch_13 (by decide) ?_
    refine wf_bipush (nI 7) dX9_watch_14 (by decide) ?_
    refine wf_callSD (As := [.int h, .int (nI 0), .int (nI 7)]) (rest := []) (c_X9_bound) kS_X9_66 rfl (by decide) (by decide) (Nat.le_of_ble_eq_true rfl) rfl dX9_watch_16 ?_
    refine wf_istore [(4, .int (eBd h (nI 0) (nI 7))), (0, .ref (am 0)), (1, .int x), (2, .int h), (3, .int z)] dX9_watch_19 (by decide) rfl ?_
    by_cases b1 : h < (0 : Int32)
    · refine wf_lvc [(4, .int (-4)), (0, .ref (am 0)), (1, .int x), (2, .int h), (3, .int z)] (by rw [show eBd h (nI 0) (nI 7) = (-4) from by unfold eBd; rw [nI_0, if_pos b1]]) ?_
      refine wf_iload 0 dX9_watch_21 rfl ?_
      refine wf_if_ne 39 dX9_watch_23 (by decide) (fun c23 => ?_) (fun c23 => ?_)
      · refine wf_iload 0 dX9_watch_39 rfl ?_
        refine wf_if_eq 51 dX9_watch_41 (by decide) (fun c41 => ?_) (fun c41 => ?_)
        · exact absurd c41 (by decide)
        · refine wf_aload_n 1 dX9_watch_44 rfl ?_
          refine wf_iload 0 dX9_watch_45 rfl ?_
          refine wf_callVD (As := [.int (-4)]) (rest := []) 0 (c_X9_no (k := 4) (by decide)) kV_X9_73 rfl (by decide) (by decide) (Nat.le_of_ble_eq_true rfl) rfl rfl rfl dX9_watch_47 ?_
          exact wf_iret .int rfl (vp_nar_int _) ⟨rfl, rfl⟩ (pm_of (by unfold sp_watch; rw [if_neg (by rw [c5]; decide), if_pos b1]; rfl) ⟨_, _, hJ, rfl⟩) dX9_watch_50
      · exact absurd c23 (by decide)
    by_cases b2 : nI 7 < h
    · refine wf_lvc [(4, .int (-6)), (0, .ref (am 0)), (1, .int x), (2, .int h), (3, .int z)] (by rw [show eBd h (nI 0) (nI 7) = (-6) from by unfold eBd; rw [nI_0, if_neg b1, if_pos b2]]) ?_
      refine wf_iload 0 dX9_watch_21 rfl ?_
      refine wf_if_ne 39 dX9_watch_23 (by decide) (fun c23 => ?_) (fun c23 => ?_)
      · refine wf_iload 0 dX9_watch_39 rfl ?_
        refine wf_if_eq 51 dX9_watch_41 (by decide) (fun c41 => ?_) (fun c41 => ?_)
        · exact absurd c41 (by decide)
        · refine wf_aload_n 1 dX9_watch_44 rfl ?_
          refine wf_iload 0 dX9_watch_45 rfl ?_
          refine wf_callVD (As := [.int (-6)]) (rest := []) 0 (c_X9_no (k := 6) (by decide)) kV_X9_73 rfl (by decide) (by decide) (Nat.le_of_ble_eq_true rfl) rfl rfl rfl dX9_watch_47 ?_
          exact wf_iret .int rfl (vp_nar_int _) ⟨rfl, rfl⟩ (pm_of (by unfold sp_watch; rw [if_neg (by rw [c5]; decide), if_neg b1, if_neg (gt_nlt (k := 7) (by decide) b2)]; rfl) ⟨_, _, hJ, rfl⟩) dX9_watch_50
      · exact absurd c23 (by decide)
    · refine wf_lvc [(4, .int (nI 0)), (0, .ref (am 0)), (1, .int x), (2, .int h), (3, .int z)] (by rw [show eBd h (nI 0) (nI 7) = (nI 0) from by unfold eBd; rw [nI_0, if_neg b1, if_neg b2]]) ?_
      obtain ⟨j_, hj_, rfl⟩ := eHas_i (by omega) c5
      obtain ⟨k, hk, rfl⟩ := i_le (k := 7) (by decide) b1 b2
      refine wf_iload 0 dX9_watch_21 rfl ?_
      refine wf_if_ne_n 39 dX9_watch_23 (by decide) (by decide) (fun c23 => ?_) (fun c23 => ?_)
      · exact absurd rfl c23
      · refine wf_iload_n 4 dX9_watch_26 rfl ?_
        refine wf_iconst (nI 0) dX9_watch_27 (by decide) ?_
        refine wf_iconst (nI 1) dX9_watch_28 (by decide) ?_
        refine wf_callSD (As := [.int z, .int (nI 0), .int (nI 1)]) (rest := []) (c_X9_isIn) kS_X9_87 rfl (by decide) (by decide) (Nat.le_of_ble_eq_true rfl) rfl dX9_watch_29 ?_
        refine wf_if_ne_b 39 dX9_watch_32 (by decide) (fun c32 => ?_) (fun c32 => ?_)
        · refine wf_iload 0 dX9_watch_39 rfl ?_
          refine wf_if_eq_n 51 dX9_watch_41 (by decide) (by decide) (fun c41 => ?_) (fun c41 => ?_)
          · obtain ⟨n, hn0, hn, rfl⟩ := eIn_t (by decide) (by decide) c32
            have sh1 : 1 <<< j_ < 1024 := by rw [Nat.shiftLeft_eq, Nat.one_mul]; exact Nat.lt_of_lt_of_le (Nat.pow_lt_pow_right (by decide) (show j_ < 10 by omega)) (by decide)
            have shn : n <<< j_ < 1024 := by rw [Nat.shiftLeft_eq]; rw [Nat.shiftLeft_eq, Nat.one_mul] at sh1; exact Nat.lt_of_le_of_lt (Nat.mul_le_mul_right _ hn) (by rw [Nat.one_mul]; exact sh1)
            have q8 := hI.wat k
            have qld := ldf_le (g 8 k) (1 <<< j_)
            refine wf_aload_n 1 dX9_watch_51 rfl ?_
            refine wf_getf (C := RX9) (T := TX9) (N := 27) (v := .ref (am 10)) 0 9 in_X9 rfl rfl (by decide) fl_X9_37 rfl dX9_watch_52 ?_
            refine wf_iload_n 3 dX9_watch_55 rfl ?_
            refine wf_iald_n (nI (g 8 k)) 10 rfl (by omega) (by decide) rfl dX9_watch_56 ?_
            refine wf_iload_n 2 dX9_watch_57 rfl ?_
            refine wf_ishr (nI ((g 8 k) >>> j_)) dX9_watch_58 (nI_shr (by omega) (by omega)) ?_
            refine wf_iconst (nI 1) dX9_watch_59 (by decide) ?_
            refine wf_iand (nI (((g 8 k) >>> j_) &&& 1)) dX9_watch_60 (nI_land (Nat.lt_of_le_of_lt (Nat.shiftRight_le _ _) (by omega)) (by decide)) ?_
            refine wf_istore [(5, .int (nI (((g 8 k) >>> j_) &&& 1))), (4, .int (nI 0)), (0, .ref (am 0)), (1, .int (nI j_)), (2, .int (nI k)), (3, .int (nI n))] dX9_watch_61 (by decide) rfl ?_
            refine wf_aload_n 2 dX9_watch_63 rfl ?_
            refine wf_getf (C := RX9) (T := TX9) (N := 27) (v := .ref (am 10)) 0 9 in_X9 rfl rfl (by decide) fl_X9_37 rfl dX9_watch_64 ?_
            refine wf_iload_n 4 dX9_watch_67 rfl ?_
            refine wf_aload_n 2 dX9_watch_68 rfl ?_
            refine wf_getf (C := RX9) (T := TX9) (N := 27) (v := .ref (am 10)) 0 9 in_X9 rfl rfl (by decide) fl_X9_37 rfl dX9_watch_69 ?_
            refine wf_iload_n 4 dX9_watch_72 rfl ?_
            refine wf_iald_n (nI (g 8 k)) 10 rfl (by omega) (by decide) rfl dX9_watch_73 ?_
            refine wf_iconst (nI 1) dX9_watch_74 (by decide) ?_
            refine wf_iload_n 3 dX9_watch_75 rfl ?_
            refine wf_ishl (nI (1 <<< j_)) dX9_watch_76 (nI_shl (by omega) (by omega)) ?_
            refine wf_iconst (-1) dX9_watch_77 (by decide) ?_
            refine wf_ixor (nI (1 <<< j_) ^^^ -1) dX9_watch_78 rfl ?_
            refine wf_iand (nI (ldf (g 8 k) (1 <<< j_))) dX9_watch_79 (nI_andn (by omega) (by omega)) ?_
            refine wf_iload_n 5 dX9_watch_80 rfl ?_
            refine wf_iload_n 3 dX9_watch_81 rfl ?_
            refine wf_ishl (nI (n <<< j_)) dX9_watch_82 (nI_shl (by omega) (Nat.lt_trans shn (by decide))) ?_
            refine wf_ior (nI ((ldf (g 8 k) (1 <<< j_)) ||| (n <<< j_))) dX9_watch_83 (nI_lor (by omega) (by omega)) ?_
            refine wf_iast_n (wm E am (gs g 8 k ((ldf (g 8 k) (1 <<< j_)) ||| (n <<< j_))) y j td ++ r) 10 rfl (by omega) (by decide) (sf 10 (Nat.le_of_ble_eq_true rfl) (wm_set8 k ((ldf (g 8 k) (1 <<< j_)) ||| (n <<< j_)))) dX9_watch_84 ?_
            refine wf_iload 0 dX9_watch_85 rfl ?_
            exact wf_iret .int rfl (vp_nar_int _) ⟨rfl, rfl⟩ (pm_of (by exact sp_watch_v hj_ f0 c5 hk hn) ⟨_, _, hJ, rfl⟩) dX9_watch_87
          · exact absurd rfl c41
        · refine wf_bipush (-2) dX9_watch_35 (by decide) ?_
          refine wf_istore [(4, .int (-2)), (0, .ref (am 0)), (1, .int (nI j_)), (2, .int (nI k)), (3, .int z)] dX9_watch_37 (by decide) rfl ?_
          refine wf_iload 0 dX9_watch_39 rfl ?_
          refine wf_if_eq 51 dX9_watch_41 (by decide) (fun c41 => ?_) (fun c41 => ?_)
          · exact absurd c41 (by decide)
          · refine wf_aload_n 1 dX9_watch_44 rfl ?_
            refine wf_iload 0 dX9_watch_45 rfl ?_
            refine wf_callVD (As := [.int (-2)]) (rest := []) 0 (c_X9_no (k := 2) (by decide)) kV_X9_73 rfl (by decide) (by decide) (Nat.le_of_ble_eq_true rfl) rfl rfl rfl dX9_watch_47 ?_
            exact wf_iret .int rfl (vp_nar_int _) ⟨rfl, rfl⟩ (pm_of (by unfold sp_watch; rw [if_neg (by rw [c5]; decide), if_neg (Int32.not_lt.mpr (nI_pos' (by omega))), if_pos (nI_lt (by omega) (by decide)), if_neg (fun q => eIn_f c32 (by rw [q]; decide)), if_neg (fun q => eIn_f c32 (by rw [q]; decide))]; rfl) ⟨_, _, hJ, rfl⟩) dX9_watch_50
  · refine wf_iconst (-1) dX9_watch_8 (by decide) ?_
    refine wf_goto 19 dX9_watch_9 (by decide) ?_
    refine wf_istore [(4, .int (-1)), (0, .ref (am 0)), (1, .int x), (2, .int h), (3, .int z)] dX9_watch_19 (by decide) rfl ?_
    refine wf_iload 0 dX9_watch_21 rfl ?_
    refine wf_if_ne 39 dX9_watch_23 (by decide) (fun c23 => ?_) (fun c23 => ?_)
    · refine wf_iload 0 dX9_watch_39 rfl ?_
      refine wf_if_eq 51 dX9_watch_41 (by decide) (fun c41 => ?_) (fun c41 => ?_)
      · exact absurd c41 (by decide)
      · refine wf_aload_n 1 dX9_watch_44 rfl ?_
        refine wf_iload 0 dX9_watch_45 rfl ?_
        refine wf_callVD (As := [.int (-1)]) (rest := []) 0 (c_X9_no (k := 1) (by decide)) kV_X9_73 rfl (by decide) (by decide) (Nat.le_of_ble_eq_true rfl) rfl rfl rfl dX9_watch_47 ?_
        exact wf_iret .int rfl (vp_nar_int _) ⟨rfl, rfl⟩ (pm_of (by unfold sp_watch; rw [if_pos c5]; rfl) ⟨_, _, hJ, rfl⟩) dX9_watch_50
    · exact absurd c23 (by decide)
abbrev rmX9_count : Room := { frames := 1, cells := 0, slots := 0, locals := 22 }
set_option maxHeartbeats 4000000 in
set_option maxRecDepth 100000 in
theorem c_X9_count {l : Launch} {E : Ev} {x : Int32} {gi : Gd} {g y j : Gd} {td : Nat → Int32} {am : Nat → Nat} {r : va_W} (hI : Inv g) (hJ : IH j gi) (hy : YI y)  : CT l E yX9_count cX9_count 4 (some .int) rmX9_count [.ref (am 0), .int x] (wm E am g y j td ++ r) (PM E am r (sp_count g y x) gi) := by
  refine CT.of (lv := [(0, .ref (am 0)), (1, .int x)]) false (by decide +kernel) (by decide) (Nat.le_of_ble_eq_true rfl) rfl ?_
  have f0 := hI.words
  have f1 := hI.birds
  have f2 := hI.gone
  have f3 := hI.hour
  obtain ⟨y00, y01, y02, y1, y2⟩ := id hy
  refine wf_iload_n 1 dX9_count_0 rfl ?_
  refine wf_bipush (nI 11) dX9_count_1 (by decide) ?_
  refine wf_bipush (nI 16) dX9_count_3 (by decide) ?_
  refine wf_callSD (As := [.int x, .int (nI 11), .int (nI 16)]) (rest := []) (c_X9_isIn) kS_X9_87 rfl (by decide) (by decide) (Nat.le_of_ble_eq_true rfl) rfl dX9_count_5 ?_
  refine wf_if_eq_b 21 dX9_count_8 (by decide) (fun c8 => ?_) (fun c8 => ?_)
  · refine wf_iconst (nI 0) dX9_count_21 (by decide) ?_
    refine wf_istore_n [(2, .int (nI 0)), (0, .ref (am 0)), (1, .int x)] dX9_count_22 rfl (by decide) rfl ?_
    by_cases t1 : x < 0
    · refine wf_iload_n 2 dX9_count_23 rfl ?_
      refine wf_tableOut 139 dX9_count_24 (Or.inl (lt_toInt0 t1)) (by decide) ?_
      refine wf_bipush (-9) dX9_count_139 (by decide) ?_
      exact wf_iret .int rfl (vp_nar_int _) ⟨rfl, rfl⟩ (pm_of (by unfold sp_count; rw [if_pos t1]; rfl) ⟨_, _, hJ, rfl⟩) dX9_count_141
    by_cases t2 : ¬ x < nI 7
    · refine wf_iload_n 2 dX9_count_23 rfl ?_
      refine wf_tableOut 139 dX9_count_24 (Or.inr (by have := ge_toInt (k := 7) (by decide) t2; omega)) (by decide) ?_
      refine wf_bipush (-9) dX9_count_139 (by decide) ?_
      exact wf_iret .int rfl (vp_nar_int _) ⟨rfl, rfl⟩ (pm_of (by unfold sp_count; rw [if_neg t1, vC_hi t1 t2 c8]; rfl) ⟨_, _, hJ, rfl⟩) dX9_count_141
    · have t3 : x < nI 7 := Decidable.not_not.mp t2
      obtain ⟨k, hk, rfl⟩ := i_n (k := 7) (by decide) t1 t3
      refine wf_iload_n 2 dX9_count_23 rfl ?_
      by_cases s24_0 : k = 0
      · refine wf_tableIn 68 dX9_count_24 (by rw [s24_0]; decide) (by rw [s24_0]; decide) (by rw [s24_0]; rfl) (by decide) ?_
        refine wf_aload_n 1 dX9_count_68 rfl ?_
        refine wf_getf (C := RX9) (T := TX9) (N := 27) (v := .int (nI (g 9 0))) 0 10 in_X9 rfl rfl (by decide) fl_X9_59 rfl dX9_count_69 ?_
        exact wf_iret .int rfl (vp_nar_int _) ⟨rfl, rfl⟩ (pm_of (by unfold sp_count; rw [if_neg t1, nI_clamp (by omega)]; unfold vCount; rw [if_pos s24_0]; rfl) ⟨_, _, hJ, rfl⟩) dX9_count_72
      by_cases s24_1 : k = 1
      · refine wf_tableIn 73 dX9_count_24 (by rw [s24_1]; decide) (by rw [s24_1]; decide) (by rw [s24_1]; rfl) (by decide) ?_
        refine wf_aload_n 1 dX9_count_73 rfl ?_
        refine wf_getf (C := RX9) (T := TX9) (N := 27) (v := .int (nI (g 9 1))) 0 11 in_X9 rfl rfl (by decide) fl_X9_63 rfl dX9_count_74 ?_
        exact wf_iret .int rfl (vp_nar_int _) ⟨rfl, rfl⟩ (pm_of (by unfold sp_count; rw [if_neg t1, nI_clamp (by omega)]; unfold vCount; rw [if_neg s24_0, if_pos s24_1]; rfl) ⟨_, _, hJ, rfl⟩) dX9_count_77
      by_cases s24_2 : k = 2
      · refine wf_tableIn 78 dX9_count_24 (by rw [s24_2]; decide) (by rw [s24_2]; decide) (by rw [s24_2]; rfl) (by decide) ?_
        refine wf_aload_n 1 dX9_count_78 rfl ?_
        refine wf_getf (C := RX9) (T := TX9) (N := 27) (v := .int (nI (g 9 3))) 0 12 in_X9 rfl rfl (by decide) fl_X9_139 rfl dX9_count_79 ?_
        exact wf_iret .int rfl (vp_nar_int _) ⟨rfl, rfl⟩ (pm_of (by unfold sp_count; rw [if_neg t1, nI_clamp (by omega)]; unfold vCount; rw [if_neg s24_0, if_neg s24_1, if_pos s24_2]; rfl) ⟨_, _, hJ, rfl⟩) dX9_count_82
      by_cases s24_3 : k = 3
      · refine wf_tableIn 83 dX9_count_24 (by rw [s24_3]; decide) (by rw [s24_3]; decide) (by rw [s24_3]; rfl) (by decide) ?_
        refine wf_aload_n 1 dX9_count_83 rfl ?_
        refine wf_getf (C := RX9) (T := TX9) (N := 27) (v := .int (nI (g 9 2))) 0 13 in_X9 rfl rfl (by decide) fl_X9_142 rfl dX9_count_84 ?_
        refine wf_callSD (As := [.int (nI (g 9 2))]) (rest := []) (c_X9_bits f2) kS_X9_187 rfl (by decide) (by decide) (Nat.le_of_ble_eq_true rfl) rfl dX9_count_87 ?_
        exact wf_iret .int rfl (vp_nar_int _) ⟨rfl, rfl⟩ (pm_of (by unfold sp_count; rw [if_neg t1, nI_clamp (by omega)]; unfold vCount; rw [if_neg s24_0, if_neg s24_1, if_neg s24_2, if_pos s24_3]; rfl) ⟨_, _, hJ, rfl⟩) dX9_count_90
      by_cases s24_4 : k = 4
      · refine wf_tableIn 91 dX9_count_24 (by rw [s24_4]; decide) (by rw [s24_4]; decide) (by rw [s24_4]; rfl) (by decide) ?_
        refine wf_iconst (nI 0) dX9_count_91 (by decide) ?_
        refine wf_istore_n [(3, .int (nI 0)), (2, .int (nI 0)), (0, .ref (am 0)), (1, .int (nI k))] dX9_count_92 rfl (by decide) rfl ?_
        have L93 : ∀ (fu93 : Nat) (n : Nat), g 9 0 - n < fu93 → (n ≤ g 9 0) → WF l E RX9 cX9_count 4 (some .int) rmX9_count false (fun _ => True) (QM E (wm E am g y j td ++ r) (PM E am r (sp_count g y (nI k)) gi) rmX9_count) (wm E am g y j td ++ r) 0 0 93 [(3, .int (nI n)), (2, .int (nI (eSum g n))), (0, .ref (am 0)), (1, .int (nI k))] [] (wm E am g y j td ++ r) := by
          intro fu93
          induction fu93 with
          | zero => intro n hn; exact absurd hn (Nat.not_lt_zero _)
          | succ fu93 ih93 =>
            intro n hn hn0
            refine wf_iload_n 0 dX9_count_93 rfl ?_
            refine wf_aload_n 2 dX9_count_94 rfl ?_
            refine wf_getf (C := RX9) (T := TX9) (N := 27) (v := .int (nI (g 9 0))) 0 10 in_X9 rfl rfl (by decide) fl_X9_59 rfl dX9_count_95 ?_
            refine wf_icmp_ge_n 127 dX9_count_98 (by decide) (by omega) (by omega) (fun c98 => ?_) (fun c98 => ?_)
            · refine wf_iload_n 1 dX9_count_127 rfl ?_
              exact wf_iret .int rfl (vp_nar_int _) ⟨rfl, rfl⟩ (pm_of (by unfold sp_count; rw [if_neg t1, nI_clamp (by omega)]; unfold vCount; rw [if_neg s24_0, if_neg s24_1, if_neg s24_2, if_neg s24_3, if_pos s24_4]; rw [show n = g 9 0 by omega]; rfl) ⟨_, _, hJ, rfl⟩) dX9_count_128
            · refine wf_iload_n 1 dX9_count_101 rfl ?_
              refine wf_aload_n 2 dX9_count_102 rfl ?_
              refine wf_iload_n 0 dX9_count_103 rfl ?_
              refine wf_callVD (As := [.int (nI n)]) (rest := [.int (nI (eSum g n))]) 0 (c_X9_isGone hI (by omega)) kV_X9_148 rfl (by decide) (by decide) (Nat.le_of_ble_eq_true rfl) rfl rfl rfl dX9_count_104 ?_
              refine wf_if_eq_b 114 dX9_count_107 (by decide) (fun c107 => ?_) (fun c107 => ?_)
              · refine wf_aload_n 2 dX9_count_114 rfl ?_
                refine wf_iload_n 0 dX9_count_115 rfl ?_
                refine wf_callVD (As := [.int (nI n)]) (rest := [.int (nI (eSum g n))]) 0 (c_X9_strengthOf hI (by omega)) kV_X9_151 rfl (by decide) (by decide) (Nat.le_of_ble_eq_true rfl) rfl rfl rfl dX9_count_116 ?_
                refine wf_iadd (nI ((eSum g n) + (eStr g n))) dX9_count_119 (nI_add (eSum g n) (eStr g n)) ?_
                refine wf_istore_n [(2, .int (nI ((eSum g n) + (eStr g n)))), (3, .int (nI n)), (0, .ref (am 0)), (1, .int (nI k))] dX9_count_120 rfl (by decide) rfl ?_
                refine wf_iinc (nI (n + 1)) 1 [(3, .int (nI (n + 1))), (2, .int (nI ((eSum g n) + (eStr g n)))), (0, .ref (am 0)), (1, .int (nI k))] dX9_count_121 rfl (nI_1 n) (by decide) rfl ?_
                refine wf_goto 93 dX9_count_124 (by decide) ?_
                refine wf_sub (lv' := [(3, .int (nI (n + 1))), (2, .int (nI ((eSum g n) + (eStr g n)))), (0, .ref (am 0)), (1, .int (nI k))]) [0, 1, 2, 3] rfl ?_
                refine wf_lvc [(3, .int (nI (n + 1))), (2, .int (nI (eSum g (n + 1)))), (0, .ref (am 0)), (1, .int (nI k))] (by rw [show ((eSum g n) + (eStr g n)) = eSum g (n + 1) from by show _ = eSum g n + (if _ then _ else _); rw [if_neg (by rw [c107]; decide)]]) ?_
                exact ih93 (n + 1) (by omega) (by omega)
              · refine wf_iconst (nI 0) dX9_count_110 (by decide) ?_
                refine wf_goto 119 dX9_count_111 (by decide) ?_
                refine wf_iadd (nI ((eSum g n) + 0)) dX9_count_119 (nI_add (eSum g n) 0) ?_
                refine wf_istore_n [(2, .int (nI ((eSum g n) + 0))), (3, .int (nI n)), (0, .ref (am 0)), (1, .int (nI k))] dX9_count_120 rfl (by decide) rfl ?_
                refine wf_iinc (nI (n + 1)) 1 [(3, .int (nI (n + 1))), (2, .int (nI ((eSum g n) + 0))), (0, .ref (am 0)), (1, .int (nI k))] dX9_count_121 rfl (nI_1 n) (by decide) rfl ?_
                refine wf_goto 93 dX9_count_124 (by decide) ?_
                refine wf_sub (lv' := [(3, .int (nI (n + 1))), (2, .int (nI ((eSum g n) + 0))), (0, .ref (am 0)), (1, .int (nI k))]) [0, 1, 2, 3] rfl ?_
                refine wf_lvc [(3, .int (nI (n + 1))), (2, .int (nI (eSum g (n + 1)))), (0, .ref (am 0)), (1, .int (nI k))] (by rw [show ((eSum g n) + 0) = eSum g (n + 1) from by show _ = eSum g n + (if _ then _ else _); rw [if_pos c107]]) ?_
                exact ih93 (n + 1) (by omega) (by omega)
        refine wf_sub (lv' := [(3, .int (nI 0)), (2, .int (nI 0)), (0, .ref (am 0)), (1, .int (nI k))]) [0, 1, 2, 3] rfl ?_
        exact L93 _ 0 (Nat.lt_succ_self _) (Nat.zero_le _)
      by_cases s24_5 : k = 5
      · refine wf_tableIn 129 dX9_count_24 (by rw [s24_5]; decide) (by rw [s24_5]; decide) (by rw [s24_5]; rfl) (by decide) ?_
        refine wf_aload_n 1 dX9_count_129 rfl ?_
        refine wf_getf (C := RX9) (T := TX9) (N := 27) (v := .int (nI (y 0 2))) 0 26 in_X9 rfl rfl (by decide) fl_X9_200 rfl dX9_count_130 ?_
        exact wf_iret .int rfl (vp_nar_int _) ⟨rfl, rfl⟩ (pm_of (by unfold sp_count; rw [if_neg t1, nI_clamp (by omega)]; unfold vCount; rw [if_neg s24_0, if_neg s24_1, if_neg s24_2, if_neg s24_3, if_neg s24_4, if_pos s24_5]; rfl) ⟨_, _, hJ, rfl⟩) dX9_count_133
      by_cases s24_6 : k = 6
      · refine wf_tableIn 134 dX9_count_24 (by rw [s24_6]; decide) (by rw [s24_6]; decide) (by rw [s24_6]; rfl) (by decide) ?_
        refine wf_aload_n 1 dX9_count_134 rfl ?_
        refine wf_getf (C := RX9) (T := TX9) (N := 27) (v := .int (nI (y 0 1))) 0 18 in_X9 rfl rfl (by decide) fl_X9_70 rfl dX9_count_135 ?_
        exact wf_iret .int rfl (vp_nar_int _) ⟨rfl, rfl⟩ (pm_of (by unfold sp_count; rw [if_neg t1, nI_clamp (by omega)]; unfold vCount; rw [if_neg s24_0, if_neg s24_1, if_neg s24_2, if_neg s24_3, if_neg s24_4, if_neg s24_5, if_pos s24_6]; rfl) ⟨_, _, hJ, rfl⟩) dX9_count_138
      refine wf_tableOut 139 dX9_count_24 (by rw [nI_toInt (by omega)]; omega) (by decide) ?_
      refine wf_bipush (-9) dX9_count_139 (by decide) ?_
      exact wf_iret .int rfl (vp_nar_int _) ⟨rfl, rfl⟩ (pm_of (by exfalso; omega) ⟨_, _, hJ, rfl⟩) dX9_count_141
  · obtain ⟨n, hn1, hn2, rfl⟩ := eIn_t (by decide) (by decide) c8
    refine wf_aload_n 0 dX9_count_11 rfl ?_
    refine wf_getf (C := RX9) (T := TX9) (N := 27) (v := .ref (am 1)) 0 0 in_X9 rfl rfl (by decide) fl_X9_7 rfl dX9_count_12 ?_
    refine wf_iload_n 1 dX9_count_15 rfl ?_
    refine wf_bipush (nI 10) dX9_count_16 (by decide) ?_
    refine wf_isub (nI (n - 10)) dX9_count_18 (pk_sub (by omega)) ?_
    refine wf_iald_n (nI (rfz y (n - 10))) 1 rfl (by omega) (by decide) rfl dX9_count_19 ?_
    exact wf_iret .int rfl (vp_nar_int _) ⟨rfl, rfl⟩ (pm_of (by rw [vC_r hn1 hn2]; rfl) ⟨_, _, hJ, rfl⟩) dX9_count_20
abbrev rmX9_holds : Room := { frames := 1, cells := 0, slots := 0, locals := 22 }
set_option maxHeartbeats 4000000 in
set_option maxRecDepth 100000 in
theorem c_X9_holds {l : Launch} {E : Ev} {x : Int32} {gi : Gd} {g y j : Gd} {td : Nat → Int32} {am : Nat → Nat} {r : va_W} (hI : Inv g) (hJ : IH j gi) (hy : YI y)  : CT l E yX9_holds cX9_holds 6 (some .int) rmX9_holds [.ref (am 0), .int x] (wm E am g y j td ++ r) (PM E am r (sp_holds g y x) gi) := by
  refine CT.of (lv := [(0, .ref (am 0)), (1, .int x)]) false (by decide +kernel) (by decide) (Nat.le_of_ble_eq_true rfl) rfl ?_
  have f0 := hI.words
  have f1 := hI.birds
  have f2 := hI.gone
  have f3 := hI.hour
  obtain ⟨y00, y01, y02, y1, y2⟩ := id hy
  refine wf_iload_n 1 dX9_holds_0 rfl ?_
  refine wf_iconst (nI 1) dX9_holds_1 (by decide) ?_
  refine wf_sipush (nI 1023) dX9_holds_2 (by decide) ?_
  refine wf_callSD (As := [.int x, .int (nI 1), .int (nI 1023)]) (rest := []) (c_X9_isIn) kS_X9_87 rfl (by decide) (by decide) (Nat.le_of_ble_eq_true rfl) rfl dX9_holds_5 ?_
  refine wf_if_ne_b 17 dX9_holds_8 (by decide) (fun c8 => ?_) (fun c8 => ?_)
  · obtain ⟨n, hn1, hn2, rfl⟩ := eIn_t (by decide) (by decide) c8
    refine wf_bipush (nI 10) dX9_holds_17 (by decide) ?_
    refine wf_istore_n [(2, .int (nI 10)), (0, .ref (am 0)), (1, .int (nI n))] dX9_holds_19 rfl (by decide) rfl ?_
    refine wf_iconst (nI 0) dX9_holds_20 (by decide) ?_
    refine wf_istore_n [(3, .int (nI 0)), (2, .int (nI 10)), (0, .ref (am 0)), (1, .int (nI n))] dX9_holds_21 rfl (by decide) rfl ?_
    have L22 : ∀ (fu22 : Nat) (m : Nat), 10 - m < fu22 → (m ≤ 10) → WF l E RX9 cX9_holds 6 (some .int) rmX9_holds false (fun _ => True) (QM E (wm E am g y j td ++ r) (PM E am r (sp_holds g y (nI n)) gi) rmX9_holds) (wm E am g y j td ++ r) 0 0 22 [(3, .int (nI m)), (2, .int (nI (eFew g n m))), (0, .ref (am 0)), (1, .int (nI n))] [] (wm E am g y j td ++ r) := by
      intro fu22
      induction fu22 with
      | zero => intro m hn; exact absurd hn (Nat.not_lt_zero _)
      | succ fu22 ih22 =>
        intro m hn hm0
        have fw := eFew_le g n m
        refine wf_iload_n 0 dX9_holds_22 rfl ?_
        refine wf_bipush (nI 10) dX9_holds_23 (by decide) ?_
        refine wf_icmp_ge_n 109 dX9_holds_25 (by decide) (by omega) (by omega) (fun c25 => ?_) (fun c25 => ?_)
        · refine wf_iload_n 1 dX9_holds_109 rfl ?_
          refine wf_if_ne_n 118 dX9_holds_110 (by decide) (by omega) (fun c110 => ?_) (fun c110 => ?_)
          · refine wf_iload_n 1 dX9_holds_118 rfl ?_
            refine wf_iconst (nI 1) dX9_holds_119 (by decide) ?_
            refine wf_isub (nI ((eFew g n m) - 1)) dX9_holds_120 (pk_sub (by omega)) ?_
            exact wf_iret .int rfl (vp_nar_int _) ⟨rfl, rfl⟩ (pm_of (by rw [sp_holds_t hn1 hn2]; have hm : m = 10 := (by omega); subst hm; rw [if_neg (by omega)]; rfl) ⟨_, _, hJ, rfl⟩) dX9_holds_121
          · refine wf_bipush (-9) dX9_holds_113 (by decide) ?_
            refine wf_goto 121 dX9_holds_115 (by decide) ?_
            exact wf_iret .int rfl (vp_nar_int _) ⟨rfl, rfl⟩ (pm_of (by rw [sp_holds_t hn1 hn2]; have hm : m = 10 := (by omega); subst hm; rw [if_pos (by omega)]; rfl) ⟨_, _, hJ, rfl⟩) dX9_holds_121
        · refine wf_iload_n 3 dX9_holds_28 rfl ?_
          refine wf_iload_n 0 dX9_holds_29 rfl ?_
          refine wf_ishr (nI (n >>> m)) dX9_holds_30 (nI_shr (by omega) (by omega)) ?_
          refine wf_iconst (nI 1) dX9_holds_31 (by decide) ?_
          refine wf_iand (nI ((n >>> m) &&& 1)) dX9_holds_32 (nI_land (Nat.lt_of_le_of_lt (Nat.shiftRight_le _ _) (by omega)) (by decide)) ?_
          refine wf_if_ne_n 39 dX9_holds_33 (by decide) (Nat.lt_trans (and1 _) (by decide)) (fun c33 => ?_) (fun c33 => ?_)
          · refine wf_iconst (nI 0) dX9_holds_39 (by decide) ?_
            refine wf_istore [(4, .int (nI 0)), (3, .int (nI m)), (2, .int (nI (eFew g n m))), (0, .ref (am 0)), (1, .int (nI n))] dX9_holds_40 (by decide) rfl ?_
            refine wf_iconst (nI 0) dX9_holds_42 (by decide) ?_
            refine wf_istore [(5, .int (nI 0)), (4, .int (nI 0)), (3, .int (nI m)), (2, .int (nI (eFew g n m))), (0, .ref (am 0)), (1, .int (nI n))] dX9_holds_43 (by decide) rfl ?_
            have L45 : ∀ (fu45 : Nat) (w : Nat), g 9 0 - w < fu45 → (w ≤ g 9 0) → WF l E RX9 cX9_holds 6 (some .int) rmX9_holds false (fun _ => True) (QM E (wm E am g y j td ++ r) (PM E am r (sp_holds g y (nI n)) gi) rmX9_holds) (wm E am g y j td ++ r) 0 0 45 [(5, .int (nI w)), (4, .int (nI (eOf g m w))), (3, .int (nI m)), (2, .int (nI (eFew g n m))), (0, .ref (am 0)), (1, .int (nI n))] [] (wm E am g y j td ++ r) := by
              intro fu45
              induction fu45 with
              | zero => intro w hn; exact absurd hn (Nat.not_lt_zero _)
              | succ fu45 ih45 =>
                intro w hn hw0
                have fo := eOf_le g m w
                have fm := hI.mean w
                refine wf_iload 0 dX9_holds_45 rfl ?_
                refine wf_aload_n 4 dX9_holds_47 rfl ?_
                refine wf_getf (C := RX9) (T := TX9) (N := 27) (v := .int (nI (g 9 0))) 0 10 in_X9 rfl rfl (by decide) fl_X9_59 rfl dX9_holds_48 ?_
                refine wf_icmp_ge_n 90 dX9_holds_51 (by decide) (by omega) (by omega) (fun c51 => ?_) (fun c51 => ?_)
                · refine wf_iload 1 dX9_holds_90 rfl ?_
                  refine wf_iload_n 3 dX9_holds_92 rfl ?_
                  refine wf_icmp_ge_n 101 dX9_holds_93 (by decide) (by omega) (by omega) (fun c93 => ?_) (fun c93 => ?_)
                  · refine wf_iload_n 3 dX9_holds_101 rfl ?_
                    refine wf_istore_n [(2, .int (nI (eFew g n m))), (5, .int (nI w)), (4, .int (nI (eOf g m w))), (3, .int (nI m)), (0, .ref (am 0)), (1, .int (nI n))] dX9_holds_102 rfl (by decide) rfl ?_
                    refine wf_iinc (nI (m + 1)) 3 [(3, .int (nI (m + 1))), (2, .int (nI (eFew g n m))), (5, .int (nI w)), (4, .int (nI (eOf g m w))), (0, .ref (am 0)), (1, .int (nI n))] dX9_holds_103 rfl (nI_1 m) (by decide) rfl ?_
                    refine wf_goto 22 dX9_holds_106 (by decide) ?_
                    refine wf_sub (lv' := [(3, .int (nI (m + 1))), (2, .int (nI (eFew g n m))), (0, .ref (am 0)), (1, .int (nI n))]) [0, 1, 4, 5] rfl ?_
                    have hfe : (eFew g n m) = eFew g n (m + 1) := by show _ = (if _ then _ else _); have hw := (show w = g 9 0 by omega); subst hw; rw [if_pos (by have := and1' (n >>> m); omega)]; exact ((Nat.min_eq_left (by omega)).symm)
                    refine wf_lvc [(3, .int (nI (m + 1))), (2, .int (nI (eFew g n (m + 1)))), (0, .ref (am 0)), (1, .int (nI n))] (by rw [hfe]) ?_
                    exact ih22 (m + 1) (by omega) (by omega)
                  · refine wf_iload 1 dX9_holds_96 rfl ?_
                    refine wf_goto 102 dX9_holds_98 (by decide) ?_
                    refine wf_istore_n [(2, .int (nI (eOf g m w))), (5, .int (nI w)), (4, .int (nI (eOf g m w))), (3, .int (nI m)), (0, .ref (am 0)), (1, .int (nI n))] dX9_holds_102 rfl (by decide) rfl ?_
                    refine wf_iinc (nI (m + 1)) 3 [(3, .int (nI (m + 1))), (2, .int (nI (eOf g m w))), (5, .int (nI w)), (4, .int (nI (eOf g m w))), (0, .ref (am 0)), (1, .int (nI n))] dX9_holds_103 rfl (nI_1 m) (by decide) rfl ?_
                    refine wf_goto 22 dX9_holds_106 (by decide) ?_
                    refine wf_sub (lv' := [(3, .int (nI (m + 1))), (2, .int (nI (eOf g m w))), (0, .ref (am 0)), (1, .int (nI n))]) [0, 1, 4, 5] rfl ?_
                    have hfe : (eOf g m w) = eFew g n (m + 1) := by show _ = (if _ then _ else _); have hw := (show w = g 9 0 by omega); subst hw; rw [if_pos (by have := and1' (n >>> m); omega)]; exact ((Nat.min_eq_right (by omega)).symm)
                    refine wf_lvc [(3, .int (nI (m + 1))), (2, .int (nI (eFew g n (m + 1)))), (0, .ref (am 0)), (1, .int (nI n))] (by rw [hfe]) ?_
                    exact ih22 (m + 1) (by omega) (by omega)
                · refine wf_iload 1 dX9_holds_54 rfl ?_
                  refine wf_aload_n 4 dX9_holds_56 rfl ?_
                  refine wf_getf (C := RX9) (T := TX9) (N := 27) (v := .ref (am 4)) 0 3 in_X9 rfl rfl (by decide) fl_X9_19 rfl dX9_holds_57 ?_
                  refine wf_iload 0 dX9_holds_60 rfl ?_
                  refine wf_iald_n (nI (g 2 w)) 4 rfl (by omega) (by decide) rfl dX9_holds_62 ?_
                  refine wf_iload_n 2 dX9_holds_63 rfl ?_
                  refine wf_icmp_ne_n 80 dX9_holds_64 (by decide) (by omega) (by omega) (fun c64 => ?_) (fun c64 => ?_)
                  · refine wf_iconst (nI 0) dX9_holds_80 (by decide) ?_
                    refine wf_iadd (nI ((eOf g m w) + 0)) dX9_holds_81 (nI_add (eOf g m w) 0) ?_
                    refine wf_istore [(4, .int (nI ((eOf g m w) + 0))), (5, .int (nI w)), (3, .int (nI m)), (2, .int (nI (eFew g n m))), (0, .ref (am 0)), (1, .int (nI n))] dX9_holds_82 (by decide) rfl ?_
                    refine wf_iinc (nI (w + 1)) 1 [(5, .int (nI (w + 1))), (4, .int (nI ((eOf g m w) + 0))), (3, .int (nI m)), (2, .int (nI (eFew g n m))), (0, .ref (am 0)), (1, .int (nI n))] dX9_holds_84 rfl (nI_1 w) (by decide) rfl ?_
                    refine wf_goto 45 dX9_holds_87 (by decide) ?_
                    refine wf_sub (lv' := [(5, .int (nI (w + 1))), (4, .int (nI ((eOf g m w) + 0))), (3, .int (nI m)), (2, .int (nI (eFew g n m))), (0, .ref (am 0)), (1, .int (nI n))]) [0, 1, 2, 3, 4, 5] rfl ?_
                    refine wf_lvc [(5, .int (nI (w + 1))), (4, .int (nI (eOf g m (w + 1)))), (3, .int (nI m)), (2, .int (nI (eFew g n m))), (0, .ref (am 0)), (1, .int (nI n))] (by rw [show ((eOf g m w) + 0) = eOf g m (w + 1) from by show _ = eOf g m w + (if _ then _ else _); rw [if_neg (fun z => c64 z.2), Nat.add_zero]]) ?_
                    exact ih45 (w + 1) (by omega) (by omega)
                  · refine wf_aload_n 4 dX9_holds_67 rfl ?_
                    refine wf_iload 0 dX9_holds_68 rfl ?_
                    refine wf_callVD (As := [.int (nI w)]) (rest := [.int (nI (eOf g m w))]) 0 (c_X9_isGone hI (by omega)) kV_X9_148 rfl (by decide) (by decide) (Nat.le_of_ble_eq_true rfl) rfl rfl rfl dX9_holds_70 ?_
                    refine wf_if_ne_b 80 dX9_holds_73 (by decide) (fun c73 => ?_) (fun c73 => ?_)
                    · refine wf_iconst (nI 0) dX9_holds_80 (by decide) ?_
                      refine wf_iadd (nI ((eOf g m w) + 0)) dX9_holds_81 (nI_add (eOf g m w) 0) ?_
                      refine wf_istore [(4, .int (nI ((eOf g m w) + 0))), (5, .int (nI w)), (3, .int (nI m)), (2, .int (nI (eFew g n m))), (0, .ref (am 0)), (1, .int (nI n))] dX9_holds_82 (by decide) rfl ?_
                      refine wf_iinc (nI (w + 1)) 1 [(5, .int (nI (w + 1))), (4, .int (nI ((eOf g m w) + 0))), (3, .int (nI m)), (2, .int (nI (eFew g n m))), (0, .ref (am 0)), (1, .int (nI n))] dX9_holds_84 rfl (nI_1 w) (by decide) rfl ?_
                      refine wf_goto 45 dX9_holds_87 (by decide) ?_
                      refine wf_sub (lv' := [(5, .int (nI (w + 1))), (4, .int (nI ((eOf g m w) + 0))), (3, .int (nI m)), (2, .int (nI (eFew g n m))), (0, .ref (am 0)), (1, .int (nI n))]) [0, 1, 2, 3, 4, 5] rfl ?_
                      refine wf_lvc [(5, .int (nI (w + 1))), (4, .int (nI (eOf g m (w + 1)))), (3, .int (nI m)), (2, .int (nI (eFew g n m))), (0, .ref (am 0)), (1, .int (nI n))] (by rw [show ((eOf g m w) + 0) = eOf g m (w + 1) from by show _ = eOf g m w + (if _ then _ else _); rw [if_neg (by rw [c73]; simp), Nat.add_zero]]) ?_
                      exact ih45 (w + 1) (by omega) (by omega)
                    · refine wf_iconst (nI 1) dX9_holds_76 (by decide) ?_
                      refine wf_goto 81 dX9_holds_77 (by decide) ?_
                      refine wf_iadd (nI ((eOf g m w) + 1)) dX9_holds_81 (nI_add (eOf g m w) 1) ?_
                      refine wf_istore [(4, .int (nI ((eOf g m w) + 1))), (5, .int (nI w)), (3, .int (nI m)), (2, .int (nI (eFew g n m))), (0, .ref (am 0)), (1, .int (nI n))] dX9_holds_82 (by decide) rfl ?_
                      refine wf_iinc (nI (w + 1)) 1 [(5, .int (nI (w + 1))), (4, .int (nI ((eOf g m w) + 1))), (3, .int (nI m)), (2, .int (nI (eFew g n m))), (0, .ref (am 0)), (1, .int (nI n))] dX9_holds_84 rfl (nI_1 w) (by decide) rfl ?_
                      refine wf_goto 45 dX9_holds_87 (by decide) ?_
                      refine wf_sub (lv' := [(5, .int (nI (w + 1))), (4, .int (nI ((eOf g m w) + 1))), (3, .int (nI m)), (2, .int (nI (eFew g n m))), (0, .ref (am 0)), (1, .int (nI n))]) [0, 1, 2, 3, 4, 5] rfl ?_
                      refine wf_lvc [(5, .int (nI (w + 1))), (4, .int (nI (eOf g m (w + 1)))), (3, .int (nI m)), (2, .int (nI (eFew g n m))), (0, .ref (am 0)), (1, .int (nI n))] (by rw [show ((eOf g m w) + 1) = eOf g m (w + 1) from by show _ = eOf g m w + (if _ then _ else _); rw [if_pos ⟨c73, c64⟩]]) ?_
                      exact ih45 (w + 1) (by omega) (by omega)
            refine wf_sub (lv' := [(5, .int (nI 0)), (4, .int (nI 0)), (3, .int (nI m)), (2, .int (nI (eFew g n m))), (0, .ref (am 0)), (1, .int (nI n))]) [0, 1, 2, 3, 4, 5] rfl ?_
            exact L45 _ 0 (Nat.lt_succ_self _) (Nat.zero_le _)
          · refine wf_goto 103 dX9_holds_36 (by decide) ?_
            refine wf_iinc (nI (m + 1)) 0 [(3, .int (nI (m + 1))), (2, .int (nI (eFew g n m))), (0, .ref (am 0)), (1, .int (nI n))] dX9_holds_103 rfl (nI_1 m) (by decide) rfl ?_
            refine wf_goto 22 dX9_holds_106 (by decide) ?_
            refine wf_sub (lv' := [(3, .int (nI (m + 1))), (2, .int (nI (eFew g n m))), (0, .ref (am 0)), (1, .int (nI n))]) [0, 1, 2, 3] rfl ?_
            have hfe : (eFew g n m) = eFew g n (m + 1) := by show _ = (if _ then _ else _); rw [if_neg (by omega)]
            refine wf_lvc [(3, .int (nI (m + 1))), (2, .int (nI (eFew g n (m + 1)))), (0, .ref (am 0)), (1, .int (nI n))] (by rw [hfe]) ?_
            exact ih22 (m + 1) (by omega) (by omega)
    refine wf_sub (lv' := [(3, .int (nI 0)), (2, .int (nI 10)), (0, .ref (am 0)), (1, .int (nI n))]) [0, 1, 2, 3] rfl ?_
    exact L22 _ 0 (Nat.lt_succ_self _) (Nat.zero_le _)
  · refine wf_aload_n 0 dX9_holds_11 rfl ?_
    refine wf_iconst (-1) dX9_holds_12 (by decide) ?_
    refine wf_callVD (As := [.int (-1)]) (rest := []) 0 (c_X9_no (k := 1) (by decide)) kV_X9_73 rfl (by decide) (by decide) (Nat.le_of_ble_eq_true rfl) rfl rfl rfl dX9_holds_13 ?_
    exact wf_iret .int rfl (vp_nar_int _) ⟨rfl, rfl⟩ (pm_of (by rw [sp_holds_f c8]; rfl) ⟨_, _, hJ, rfl⟩) dX9_holds_16
