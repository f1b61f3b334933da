abbrev rmX8_letter : Room := { frames := 2, cells := 0, slots := 0, locals := 41 }
set_option maxHeartbeats 4000000 in
set_option maxRecDepth 100000 in
theorem c_X8_letter {l : Launch} {E : Ev} {x : Int32} {g gm gi y : Gd} {a b c kk al ax : Nat → Nat} {r : va_W} (hI : Inv g) (hM : Inv gm) (hG : Inv gi) (hy : YI y)  : CT l E yX8_letter cX8_letter 2 (some .int) rmX8_letter [.ref (ax 0), .int x] (wg E (kk 6) a g ++ (wk E kk ++ (wl E al y ++ (wx E ax (a 0) (b 0) (c 0) (al 0) y ++ (wg E (kk 6) b gm ++ (wg E (kk 6) c gi ++ r)))))) (PX E kk a b c al ax r (sp_letter g y x) gi) := by
  refine CT.of (lv := [(0, .ref (ax 0)), (1, .int x)]) false (by decide +kernel) (by decide) (Nat.le_of_ble_eq_true rfl) rfl ?_
  have f0 := hI.words
  have f1 := hI.birds
  have f2 := hI.gone
  have f3 := hI.hour
  obtain ⟨y00, y01, y02, y1, y2⟩ := id hy
  refine wf_iload_n 1 dX8_letter_0 rfl ?_
  refine wf_if_ge 11 dX8_letter_1 (by decide) (fun c1 => ?_) (fun c1 => ?_)
  · refine wf_iload_n 1 dX8_letter_11 rfl ?_
    refine wf_sipush (nI 255) dX8_letter_12 (by decide) ?_
    refine wf_icmp_gt 28 dX8_letter_15 (by decide) (fun c15 => ?_) (fun c15 => ?_)
    · refine wf_aload_n 0 dX8_letter_28 rfl ?_
      refine wf_bipush (-6) dX8_letter_29 (by decide) ?_
      refine wf_callVD (As := [.int (-6)]) (rest := []) 19 (c_X8_refuse (k := 6) (by decide)) kV_X8_56 rfl (by decide) (by decide) (Nat.le_of_ble_eq_true rfl) rfl rfl rfl dX8_letter_31 ?_
      exact wf_iret .int rfl (vp_nar_int _) ⟨rfl, rfl⟩ (px_of (by unfold sp_letter; rw [if_neg (Int32.not_lt.mpr c1), if_pos c15]; rfl) ⟨_, hM, rfl⟩) dX8_letter_34
    · have h0 := Int32.not_lt.mpr c1
      have h1 := c15
      obtain ⟨n, hn, rfl⟩ := i_le (k := 255) (by decide) h0 h1
      refine wf_aload_n 0 dX8_letter_18 rfl ?_
      refine wf_getf (C := RX8) (T := TX8) (N := 8) (v := .ref (al 0)) 19 4 in_X8 rfl rfl (by decide) fl_X8_45 rfl dX8_letter_19 ?_
      refine wf_callVD (As := []) (rest := []) 17 (c_X4_isFull y01) kV_X8_60 rfl (by decide) (by decide) (Nat.le_of_ble_eq_true rfl) rfl rfl rfl dX8_letter_22 ?_
      refine wf_if_eq_b 35 dX8_letter_25 (by decide) (fun c25 => ?_) (fun c25 => ?_)
      · refine wf_aload_n 0 dX8_letter_35 rfl ?_
        refine wf_getf (C := RX8) (T := TX8) (N := 8) (v := .ref (al 0)) 19 4 in_X8 rfl rfl (by decide) fl_X8_45 rfl dX8_letter_36 ?_
        refine wf_iload_n 1 dX8_letter_39 rfl ?_
        refine wf_i2c (nI n) dX8_letter_40 (i2c_n (by omega)) ?_
        refine wf_callVD (As := [.int (nI n)]) (rest := []) 17 (c_X4_add (by have := of_decide_eq_false c25; omega) (by omega)) kV_X8_64 rfl (by decide) (by decide) (Nat.le_of_ble_eq_true rfl) rfl rfl rfl dX8_letter_41 ?_
        exact wf_iret .int rfl (vp_nar_int _) ⟨rfl, rfl⟩ (px_of (by unfold sp_letter; rw [if_neg h0, if_neg h1, if_neg (of_decide_eq_false c25), nI_clamp (by omega)]) ⟨_, hM, rfl⟩) dX8_letter_44
      · refine wf_aload_n 0 dX8_letter_28 rfl ?_
        refine wf_bipush (-6) dX8_letter_29 (by decide) ?_
        refine wf_callVD (As := [.int (-6)]) (rest := []) 19 (c_X8_refuse (k := 6) (by decide)) kV_X8_56 rfl (by decide) (by decide) (Nat.le_of_ble_eq_true rfl) rfl rfl rfl dX8_letter_31 ?_
        exact wf_iret .int rfl (vp_nar_int _) ⟨rfl, rfl⟩ (px_of (by unfold sp_letter; rw [if_neg h0, if_neg h1, if_pos (of_decide_eq_true c25)]; rfl) ⟨_, hM, rfl⟩) dX8_letter_34
  · refine wf_aload_n 0 dX8_letter_4 rfl ?_
    refine wf_bipush (-4) dX8_letter_5 (by decide) ?_
    refine wf_callVD (As := [.int (-4)]) (rest := []) 19 (c_X8_refuse (k := 4) (by decide)) kV_X8_56 rfl (by decide) (by decide) (Nat.le_of_ble_eq_true rfl) rfl rfl rfl dX8_letter_7 ?_
    exact wf_iret .int rfl (vp_nar_int _) ⟨rfl, rfl⟩ (px_of (by unfold sp_letter; rw [if_pos (Int32.not_le.mp c1)]; rfl) ⟨_, hM, rfl⟩) dX8_letter_10
