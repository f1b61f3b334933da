abbrev rmX9_watchedLeft : Room := { frames := 6, cells := 0, slots := 0, locals := 134 }
set_option maxHeartbeats 4000000 in
set_option maxRecDepth 100000 in
theorem c_X9_watchedLeft {l : Launch} {E : Ev} {S : Nat} {q : Int32} {g y j : Gd} {td : Nat → Int32} {am : Nat → Nat} {r : va_W} (hI : Inv g) (hS : S < 2 ^ g 9 0) : CT l E yX9_watchedLeft cX9_watchedLeft 4 (some .int) rmX9_watchedLeft [.ref (am 0), .int (nI S), .int q] (wm E am g y j td ++ r) (IS (some (.int (nI (eLeft (eDk (mWs g S q 8)))))) (wm E am g y (jr (kq j (80 * 2) g 61) (80 * 2) 61) td ++ r)) := by
  refine CT.of (lv := [(0, .ref (am 0)), (1, .int (nI S)), (2, .int q)]) false (by decide +kernel) (by decide) (Nat.le_of_ble_eq_true rfl) rfl ?_
  have f0 := hI.words
  have f1 := hI.birds
  have f2 := hI.gone
  have f3 := hI.hour
  have hS2 := Nat.lt_of_lt_of_le hS (pw10 f0)
  refine wf_aload_n 0 dX9_watchedLeft_0 rfl ?_
  refine wf_iconst (nI 2) dX9_watchedLeft_1 (by decide) ?_
  refine wf_iconst (nI 1) dX9_watchedLeft_2 (by decide) ?_
  refine wf_callVv (As := [.int (nI 2), .int (nI 1)]) (rest := []) 0 (c_X9_passesAll_k (wh := 2) hI (by decide)) kV_X9_118 rfl (by decide) (by decide) (Nat.le_of_ble_eq_true rfl) rfl rfl rfl dX9_watchedLeft_3 ?_
  refine wf_iconst (nI 0) dX9_watchedLeft_6 (by decide) ?_
  refine wf_istore_n [(3, .int (nI 0)), (0, .ref (am 0)), (1, .int (nI S)), (2, .int q)] dX9_watchedLeft_7 rfl (by decide) rfl ?_
  have L8 : ∀ (fu8 : Nat) (h : Nat), 8 - h < fu8 → (h ≤ 8) → WF l E RX9 cX9_watchedLeft 4 (some .int) rmX9_watchedLeft false (fun _ => True) (QM E (wm E am g y j td ++ r) (IS (some (.int (nI (eLeft (eDk (mWs g S q 8)))))) (wm E am g y (jr (kq j (80 * 2) g 61) (80 * 2) 61) td ++ r)) rmX9_watchedLeft) (wm E am g y j td ++ r) 0 0 8 [(3, .int (nI h)), (0, .ref (am 0)), (1, .int (nI S)), (2, .int q)] [] (wm E am (mWs g S q h) y (kq j (80 * 2) g 61) td ++ r) := by
    intro fu8
    induction fu8 with
    | zero => intro h hn; exact absurd hn (Nat.not_lt_zero _)
    | succ fu8 ih8 =>
      intro h hn hh
      have q8 := hI.wat h
      refine wf_iload_n 0 dX9_watchedLeft_8 rfl ?_
      refine wf_bipush (nI 8) dX9_watchedLeft_9 (by decide) ?_
      refine wf_icmp_ge_n 43 dX9_watchedLeft_11 (by decide) (by omega) (by omega) (fun c11 => ?_) (fun c11 => ?_)
      · have hbe : h = 8 := by omega
        subst hbe
        refine wf_aload_n 1 dX9_watchedLeft_43 rfl ?_
        refine wf_callVD (As := []) (rest := []) 0 (c_X9_leftAtDusk (hI.oMw hS 8)) kV_X9_181 rfl (by decide) (by decide) (Nat.le_of_ble_eq_true rfl) rfl rfl rfl dX9_watchedLeft_44 ?_
        refine wf_istore_n [(3, .int (nI (eLeft (eDk (mWs g S q 8))))), (0, .ref (am 0)), (1, .int (nI S)), (2, .int q)] dX9_watchedLeft_47 rfl (by decide) rfl ?_
        refine wf_aload_n 1 dX9_watchedLeft_48 rfl ?_
        refine wf_iconst (nI 2) dX9_watchedLeft_49 (by decide) ?_
        refine wf_iconst (nI 0) dX9_watchedLeft_50 (by decide) ?_
        refine wf_callVv (As := [.int (nI 2), .int (nI 0)]) (rest := []) 0 (c_X9_passesAll_r (wh := 2) (g0 := g) (fun k hk => kq_has k hk) (by decide)) kV_X9_118 rfl (by decide) (by decide) (Nat.le_of_ble_eq_true rfl) rfl rfl rfl dX9_watchedLeft_51 ?_
        refine wf_iload_n 0 dX9_watchedLeft_54 rfl ?_
        exact wf_iret .int rfl (vp_nar_int _) ⟨rfl, rfl⟩ ⟨congrArg (fun z => some (Value.int z)) (rfl), rfl⟩ dX9_watchedLeft_55
      · refine wf_aload_n 1 dX9_watchedLeft_14 rfl ?_
        refine wf_getf (C := RX9) (T := TX9) (N := 27) (v := .ref (am 10)) 0 9 in_X9 rfl rfl (by decide) fl_X9_37 rfl dX9_watchedLeft_15 ?_
        refine wf_iload_n 0 dX9_watchedLeft_18 rfl ?_
        refine wf_dup2 dX9_watchedLeft_19 rfl rfl ?_
        refine wf_iald_n (nI ((mWs g S q h) 8 h)) 10 rfl (by omega) (by decide) rfl dX9_watchedLeft_20 ?_
        refine wf_top (y := .int (nI (g 8 h))) (by rw [mWs_w (Nat.le_refl _)]) ?_
        refine wf_iload_n 3 dX9_watchedLeft_21 rfl ?_
        refine wf_if_lt 30 dX9_watchedLeft_22 (by decide) (fun c22 => ?_) (fun c22 => ?_)
        · refine wf_iload_n 2 dX9_watchedLeft_30 rfl ?_
          refine wf_goto 35 dX9_watchedLeft_31 (by decide) ?_
          refine wf_ior (nI ((g 8 h) ||| S)) dX9_watchedLeft_35 (nI_lor (by omega) (by omega)) ?_
          refine wf_iast_n (wm E am (gs (mWs g S q h) 8 h ((g 8 h) ||| S)) y (kq j (80 * 2) g 61) td ++ r) 10 rfl (by omega) (by decide) (sf 10 (Nat.le_of_ble_eq_true rfl) (wm_set8 h ((g 8 h) ||| S))) dX9_watchedLeft_36 ?_
          refine wf_iinc (nI (h + 1)) 0 [(3, .int (nI (h + 1))), (0, .ref (am 0)), (1, .int (nI S)), (2, .int q)] dX9_watchedLeft_37 rfl (nI_1 h) (by decide) rfl ?_
          refine wf_goto 8 dX9_watchedLeft_40 (by decide) ?_
          refine wf_sub (lv' := [(3, .int (nI (h + 1))), (0, .ref (am 0)), (1, .int (nI S)), (2, .int q)]) [0, 1, 2, 3] rfl ?_
          have hv : mWv q S h = S := by unfold mWv; rw [if_pos c22]
          refine wf_world (wm E am (mWs g S q (h + 1)) y (kq j (80 * 2) g 61) td ++ r) (by rw [show mWs g S q (h + 1) = gs (mWs g S q h) 8 h (g 8 h ||| mWv q S h) from rfl, hv]) ?_
          exact ih8 (h + 1) (by omega) (by omega)
        · refine wf_iload_n 3 dX9_watchedLeft_25 rfl ?_
          refine wf_iload_n 0 dX9_watchedLeft_26 rfl ?_
          refine wf_icmp_ne 34 dX9_watchedLeft_27 (by decide) (fun c27 => ?_) (fun c27 => ?_)
          · refine wf_iconst (nI 0) dX9_watchedLeft_34 (by decide) ?_
            refine wf_ior (nI ((g 8 h) ||| 0)) dX9_watchedLeft_35 (nI_lor (by omega) (by omega)) ?_
            refine wf_iast_n (wm E am (gs (mWs g S q h) 8 h ((g 8 h) ||| 0)) y (kq j (80 * 2) g 61) td ++ r) 10 rfl (by omega) (by decide) (sf 10 (Nat.le_of_ble_eq_true rfl) (wm_set8 h ((g 8 h) ||| 0))) dX9_watchedLeft_36 ?_
            refine wf_iinc (nI (h + 1)) 0 [(3, .int (nI (h + 1))), (0, .ref (am 0)), (1, .int (nI S)), (2, .int q)] dX9_watchedLeft_37 rfl (nI_1 h) (by decide) rfl ?_
            refine wf_goto 8 dX9_watchedLeft_40 (by decide) ?_
            refine wf_sub (lv' := [(3, .int (nI (h + 1))), (0, .ref (am 0)), (1, .int (nI S)), (2, .int q)]) [0, 1, 2, 3] rfl ?_
            have hv : mWv q S h = 0 := by unfold mWv; rw [if_neg c22, if_neg c27]
            refine wf_world (wm E am (mWs g S q (h + 1)) y (kq j (80 * 2) g 61) td ++ r) (by rw [show mWs g S q (h + 1) = gs (mWs g S q h) 8 h (g 8 h ||| mWv q S h) from rfl, hv]) ?_
            exact ih8 (h + 1) (by omega) (by omega)
          · refine wf_iload_n 2 dX9_watchedLeft_30 rfl ?_
            refine wf_goto 35 dX9_watchedLeft_31 (by decide) ?_
            refine wf_ior (nI ((g 8 h) ||| S)) dX9_watchedLeft_35 (nI_lor (by omega) (by omega)) ?_
            refine wf_iast_n (wm E am (gs (mWs g S q h) 8 h ((g 8 h) ||| S)) y (kq j (80 * 2) g 61) td ++ r) 10 rfl (by omega) (by decide) (sf 10 (Nat.le_of_ble_eq_true rfl) (wm_set8 h ((g 8 h) ||| S))) dX9_watchedLeft_36 ?_
            refine wf_iinc (nI (h + 1)) 0 [(3, .int (nI (h + 1))), (0, .ref (am 0)), (1, .int (nI S)), (2, .int q)] dX9_watchedLeft_37 rfl (nI_1 h) (by decide) rfl ?_
            refine wf_goto 8 dX9_watchedLeft_40 (by decide) ?_
            refine wf_sub (lv' := [(3, .int (nI (h + 1))), (0, .ref (am 0)), (1, .int (nI S)), (2, .int q)]) [0, 1, 2, 3] rfl ?_
            have hv : mWv q S h = S := by unfold mWv; rw [if_neg c22, if_pos c27]
            refine wf_world (wm E am (mWs g S q (h + 1)) y (kq j (80 * 2) g 61) td ++ r) (by rw [show mWs g S q (h + 1) = gs (mWs g S q h) 8 h (g 8 h ||| mWv q S h) from rfl, hv]) ?_
            exact ih8 (h + 1) (by omega) (by omega)
  refine wf_sub (lv' := [(3, .int (nI 0)), (0, .ref (am 0)), (1, .int (nI S)), (2, .int q)]) [0, 1, 2, 3] rfl ?_
  refine wf_world (wm E am (mWs g S q 0) y (kq j (80 * 2) g 61) td ++ r) rfl ?_
  exact L8 _ 0 (Nat.lt_succ_self _) (Nat.zero_le _)
