abbrev rmX8_sumOfDigits : Room := { frames := 0, cells := 0, slots := 0, locals := 0 }
set_option maxHeartbeats 4000000 in
set_option maxRecDepth 100000 in
theorem c_X8_sumOfDigits {l : Launch} {E : Ev} {r : va_W} {k : Nat} (hk : k < 1000) : CT l E yX8_sumOfDigits cX8_sumOfDigits 1 (some .int) rmX8_sumOfDigits [.int (nI k)] (r) (IS (some (.int (nI (eDs k)))) r) := by
  refine CT.of (lv := [(0, .int (nI k))]) false (by decide +kernel) (by decide) (Nat.le_of_ble_eq_true rfl) rfl ?_
  refine wf_iload_n 0 dX8_sumOfDigits_0 rfl ?_
  refine wf_bipush (nI 100) dX8_sumOfDigits_1 (by decide) ?_
  refine wf_idiv (nI (k / 100)) dX8_sumOfDigits_3 (nI_ne0 (by decide) (by decide)) (pk_div (by omega) (by decide) (by decide)) ?_
  refine wf_iload_n 0 dX8_sumOfDigits_4 rfl ?_
  refine wf_bipush (nI 10) dX8_sumOfDigits_5 (by decide) ?_
  refine wf_idiv (nI (k / 10)) dX8_sumOfDigits_7 (nI_ne0 (by decide) (by decide)) (pk_div (by omega) (by decide) (by decide)) ?_
  refine wf_bipush (nI 10) dX8_sumOfDigits_8 (by decide) ?_
  refine wf_irem (nI ((k / 10) % 10)) dX8_sumOfDigits_10 (nI_ne0 (by decide) (by decide)) (pk_rem (by omega) (by decide) (by decide)) ?_
  refine wf_iadd (nI ((k / 100) + ((k / 10) % 10))) dX8_sumOfDigits_11 (nI_add (k / 100) ((k / 10) % 10)) ?_
  refine wf_iload_n 0 dX8_sumOfDigits_12 rfl ?_
  refine wf_bipush (nI 10) dX8_sumOfDigits_13 (by decide) ?_
  refine wf_irem (nI (k % 10)) dX8_sumOfDigits_15 (nI_ne0 (by decide) (by decide)) (pk_rem (by omega) (by decide) (by decide)) ?_
  refine wf_iadd (nI (((k / 100) + ((k / 10) % 10)) + (k % 10))) dX8_sumOfDigits_16 (nI_add ((k / 100) + ((k / 10) % 10)) (k % 10)) ?_
  exact wf_iret .int rfl (vp_nar_int _) ⟨rfl, rfl⟩ ⟨congrArg (fun z => some (Value.int z)) (rfl), rfl⟩ dX8_sumOfDigits_17
abbrev rmX8_countLeftByBitters : Room := { frames := 5, cells := 0, slots := 0, locals := 116 }
set_option maxHeartbeats 4000000 in
set_option maxRecDepth 100000 in
theorem c_X8_countLeftByBitters {l : Launch} {E : Ev} {k : Nat} {g gm gi y : Gd} {a b c kk al ax : Nat → Nat} {r : va_W} (hI : Inv g) (hM : Inv gm) (hk : k < 1000) : CT l E yX8_countLeftByBitters cX8_countLeftByBitters 3 (some .int) rmX8_countLeftByBitters [.ref (ax 0), .int (nI k)] (wg E (kk 6) a g ++ (wk E kk ++ (wl E al y ++ (wx E ax (a 0) (b 0) (c 0) (al 0) y ++ (wg E (kk 6) b gm ++ (wg E (kk 6) c gi ++ r)))))) (IS (some (.int (nI (eLeftN (eDk (eBt g k)))))) (wg E (kk 6) a g ++ (wk E kk ++ (wl E al y ++ (wx E ax (a 0) (b 0) (c 0) (al 0) y ++ (wg E (kk 6) b (eDk (eBt g k)) ++ (wg E (kk 6) c gi ++ r))))))) := by
  refine CT.of (lv := [(0, .ref (ax 0)), (1, .int (nI k))]) false (by decide +kernel) (by decide) (Nat.le_of_ble_eq_true rfl) rfl ?_
  refine wf_aload_n 0 dX8_countLeftByBitters_0 rfl ?_
  refine wf_callVD (As := []) (rest := []) 19 (c_X8_mindAsNow) kV_X8_156 rfl (by decide) (by decide) (Nat.le_of_ble_eq_true rfl) rfl rfl rfl dX8_countLeftByBitters_1 ?_
  refine wf_astore_n [(2, .ref (b 0)), (0, .ref (ax 0)), (1, .int (nI k))] dX8_countLeftByBitters_4 rfl (by decide) rfl ?_
  refine wf_aload_n 0 dX8_countLeftByBitters_5 rfl ?_
  refine wf_getf (C := RX2) (T := TX2) (N := 14) (v := .ref (b 8)) 22 10 in_X2 rfl rfl (by decide) fl_X8_138 rfl dX8_countLeftByBitters_6 ?_
  refine wf_iconst (nI 0) dX8_countLeftByBitters_9 (by decide) ?_
  refine wf_iload_n 2 dX8_countLeftByBitters_10 rfl ?_
  refine wf_bipush (nI 100) dX8_countLeftByBitters_11 (by decide) ?_
  refine wf_idiv (nI (k / 100)) dX8_countLeftByBitters_13 (nI_ne0 (by decide) (by decide)) (pk_div (by omega) (by decide) (by decide)) ?_
  refine wf_iast_n (wg E (kk 6) a g ++ (wk E kk ++ (wl E al y ++ (wx E ax (a 0) (b 0) (c 0) (al 0) y ++ (wg E (kk 6) b (gs g 7 0 (k / 100)) ++ (wg E (kk 6) c gi ++ r)))))) 30 rfl (by omega) (by decide) (so 10 20 rfl (so 7 13 rfl (so 2 11 rfl (so 3 8 rfl (sf 8 (Nat.le_of_ble_eq_true rfl) (wg_set7 0 (k / 100))))))) dX8_countLeftByBitters_14 ?_
  refine wf_aload_n 0 dX8_countLeftByBitters_15 rfl ?_
  refine wf_getf (C := RX2) (T := TX2) (N := 14) (v := .ref (b 8)) 22 10 in_X2 rfl rfl (by decide) fl_X8_138 rfl dX8_countLeftByBitters_16 ?_
  refine wf_iconst (nI 1) dX8_countLeftByBitters_19 (by decide) ?_
  refine wf_iload_n 2 dX8_countLeftByBitters_20 rfl ?_
  refine wf_bipush (nI 10) dX8_countLeftByBitters_21 (by decide) ?_
  refine wf_idiv (nI (k / 10)) dX8_countLeftByBitters_23 (nI_ne0 (by decide) (by decide)) (pk_div (by omega) (by decide) (by decide)) ?_
  refine wf_bipush (nI 10) dX8_countLeftByBitters_24 (by decide) ?_
  refine wf_irem (nI ((k / 10) % 10)) dX8_countLeftByBitters_26 (nI_ne0 (by decide) (by decide)) (pk_rem (by omega) (by decide) (by decide)) ?_
  refine wf_iast_n (wg E (kk 6) a g ++ (wk E kk ++ (wl E al y ++ (wx E ax (a 0) (b 0) (c 0) (al 0) y ++ (wg E (kk 6) b (gs (gs g 7 0 (k / 100)) 7 1 ((k / 10) % 10)) ++ (wg E (kk 6) c gi ++ r)))))) 30 rfl (by omega) (by decide) (so 10 20 rfl (so 7 13 rfl (so 2 11 rfl (so 3 8 rfl (sf 8 (Nat.le_of_ble_eq_true rfl) (wg_set7 1 ((k / 10) % 10))))))) dX8_countLeftByBitters_27 ?_
  refine wf_aload_n 0 dX8_countLeftByBitters_28 rfl ?_
  refine wf_getf (C := RX2) (T := TX2) (N := 14) (v := .ref (b 8)) 22 10 in_X2 rfl rfl (by decide) fl_X8_138 rfl dX8_countLeftByBitters_29 ?_
  refine wf_iconst (nI 2) dX8_countLeftByBitters_32 (by decide) ?_
  refine wf_iload_n 2 dX8_countLeftByBitters_33 rfl ?_
  refine wf_bipush (nI 10) dX8_countLeftByBitters_34 (by decide) ?_
  refine wf_irem (nI (k % 10)) dX8_countLeftByBitters_36 (nI_ne0 (by decide) (by decide)) (pk_rem (by omega) (by decide) (by decide)) ?_
  refine wf_iast_n (wg E (kk 6) a g ++ (wk E kk ++ (wl E al y ++ (wx E ax (a 0) (b 0) (c 0) (al 0) y ++ (wg E (kk 6) b (gs (gs (gs g 7 0 (k / 100)) 7 1 ((k / 10) % 10)) 7 2 (k % 10)) ++ (wg E (kk 6) c gi ++ r)))))) 30 rfl (by omega) (by decide) (so 10 20 rfl (so 7 13 rfl (so 2 11 rfl (so 3 8 rfl (sf 8 (Nat.le_of_ble_eq_true rfl) (wg_set7 2 (k % 10))))))) dX8_countLeftByBitters_37 ?_
  refine wf_aload_n 0 dX8_countLeftByBitters_38 rfl ?_
  refine wf_perm (w' := wg E (kk 6) b (gs (gs (gs g 7 0 (k / 100)) 7 1 ((k / 10) % 10)) 7 2 (k % 10)) ++ (wk E kk ++ (wl E al y ++ (wx E ax (a 0) (b 0) (c 0) (al 0) y ++ (wg E (kk 6) a g ++ (wg E (kk 6) c gi ++ r)))))) pm4 ?_
  refine wf_callVD (As := []) (rest := []) 0 (c_X2_passTillDusk (hI.oBt hk)) kV_X8_166 rfl (by decide) (by decide) (Nat.le_of_ble_eq_true rfl) rfl rfl rfl dX8_countLeftByBitters_39 ?_
  refine wf_perm (w' := wg E (kk 6) a g ++ (wk E kk ++ (wl E al y ++ (wx E ax (a 0) (b 0) (c 0) (al 0) y ++ (wg E (kk 6) b (eDk (gs (gs (gs g 7 0 (k / 100)) 7 1 ((k / 10) % 10)) 7 2 (k % 10))) ++ (wg E (kk 6) c gi ++ r)))))) pm4 ?_
  exact wf_iret .int rfl (vp_nar_int _) ⟨rfl, rfl⟩ ⟨congrArg (fun z => some (Value.int z)) (rfl), rfl⟩ dX8_countLeftByBitters_42
abbrev rmX8_mixed : Room := { frames := 6, cells := 0, slots := 0, locals := 138 }
set_option maxHeartbeats 4000000 in
set_option maxRecDepth 100000 in
theorem c_X8_mixed {l : Launch} {E : Ev} {x z : Int32} {g gm gi y : Gd} {a b c kk al ax : Nat → Nat} {r : va_W} (hI : Inv g) (hM : Inv gm) (hG : Inv gi) (hy : YI y)  : CT l E yX8_mixed cX8_mixed 7 (some .int) rmX8_mixed [.ref (ax 0), .int x, .int z] (wg E (kk 6) a g ++ (wk E kk ++ (wl E al y ++ (wx E ax (a 0) (b 0) (c 0) (al 0) y ++ (wg E (kk 6) b gm ++ (wg E (kk 6) c gi ++ r)))))) (PX E kk a b c al ax r (sp_mixed g y x z) gi) := by
  refine CT.of (lv := [(0, .ref (ax 0)), (1, .int x), (2, .int z)]) false (by decide +kernel) (by decide) (Nat.le_of_ble_eq_true rfl) rfl ?_
  have f0 := hI.words
  have f1 := hI.birds
  have f2 := hI.gone
  have f3 := hI.hour
  obtain ⟨y00, y01, y02, y1, y2⟩ := id hy
  refine wf_iload_n 1 dX8_mixed_0 rfl ?_
  refine wf_if_ge 11 dX8_mixed_1 (by decide) (fun c1 => ?_) (fun c1 => ?_)
  · refine wf_iload_n 1 dX8_mixed_11 rfl ?_
    refine wf_bipush (nI 12) dX8_mixed_12 (by decide) ?_
    refine wf_icmp_le 24 dX8_mixed_14 (by decide) (fun c14 => ?_) (fun c14 => ?_)
    · refine wf_iload_n 2 dX8_mixed_24 rfl ?_
      refine wf_if_eq 40 dX8_mixed_25 (by decide) (fun c25 => ?_) (fun c25 => ?_)
      · have h0 := Int32.not_lt.mpr c1
        have h12 := Int32.not_lt.mpr c14
        have hz : z = 0 ∨ z = nI 1 := Or.inl c25
        obtain ⟨A, hA, rfl⟩ := i_le (k := 12) (by decide) h0 h12
        refine wf_iconst (nI 0) dX8_mixed_40 (by decide) ?_
        refine wf_istore_n [(3, .int (nI 0)), (0, .ref (ax 0)), (1, .int (nI A)), (2, .int z)] dX8_mixed_41 rfl (by decide) rfl ?_
        refine wf_iconst (-1) dX8_mixed_42 (by decide) ?_
        refine wf_istore [(4, .int (-1)), (3, .int (nI 0)), (0, .ref (ax 0)), (1, .int (nI A)), (2, .int z)] dX8_mixed_43 (by decide) rfl ?_
        refine wf_iconst (nI 0) dX8_mixed_45 (by decide) ?_
        refine wf_istore [(5, .int (nI 0)), (4, .int (-1)), (3, .int (nI 0)), (0, .ref (ax 0)), (1, .int (nI A)), (2, .int z)] dX8_mixed_46 (by decide) rfl ?_
        have L48 : ∀ (fu48 : Nat) (k : Nat) (p : Nat × Nat) (gw : Gd), 1000 - k < fu48 → (k ≤ 1000) → (Inv gw) → (p.2 ≤ 11) → (eMx g A (1000 - k) k p = eMx g A 1000 0 (0, 0)) → WF l E RX8 cX8_mixed 7 (some .int) rmX8_mixed false (fun _ => True) (QM E (wg E (kk 6) a g ++ (wk E kk ++ (wl E al y ++ (wx E ax (a 0) (b 0) (c 0) (al 0) y ++ (wg E (kk 6) b gm ++ (wg E (kk 6) c gi ++ r)))))) (PX E kk a b c al ax r (sp_mixed g y (nI A) z) gi) rmX8_mixed) (wg E (kk 6) a g ++ (wk E kk ++ (wl E al y ++ (wx E ax (a 0) (b 0) (c 0) (al 0) y ++ (wg E (kk 6) b gm ++ (wg E (kk 6) c gi ++ r)))))) 0 0 48 [(5, .int (nI k)), (4, .int (eG1 p.2)), (3, .int (nI p.1)), (0, .ref (ax 0)), (1, .int (nI A)), (2, .int z)] [] (wg E (kk 6) a g ++ (wk E kk ++ (wl E al y ++ (wx E ax (a 0) (b 0) (c 0) (al 0) y ++ (wg E (kk 6) b gw ++ (wg E (kk 6) c gi ++ r)))))) := by
          intro fu48
          induction fu48 with
          | zero => intro k p gw hn; exact absurd hn (Nat.not_lt_zero _)
          | succ fu48 ih48 =>
            intro k p gw hn hk0 hW hp2 hmx
            have q1 := eLeftN_le g
            have q2 := eLeftN_le (eDk (eBt g k))
            have q3 : eDs k < 1000 := by unfold eDs; omega
            refine wf_iload 0 dX8_mixed_48 rfl ?_
            refine wf_sipush (nI 999) dX8_mixed_50 (by decide) ?_
            refine wf_icmp_gt_n 108 dX8_mixed_53 (by decide) (by omega) (by omega) (fun c53 => ?_) (fun c53 => ?_)
            · refine wf_iload_n 5 dX8_mixed_108 rfl ?_
              refine wf_if_ne 116 dX8_mixed_109 (by decide) (fun c109 => ?_) (fun c109 => ?_)
              · refine wf_iload 1 dX8_mixed_116 rfl ?_
                exact wf_iret .int rfl (vp_nar_int _) ⟨rfl, rfl⟩ (px_of (by unfold sp_mixed; rw [if_neg h0, if_neg h12, if_neg c109, if_pos (hz.resolve_left c109), nI_clamp (by omega)]; rw [← hmx, show 1000 - k = 0 by omega]; rfl) ⟨_, hW, rfl⟩) dX8_mixed_118
              · refine wf_iload_n 2 dX8_mixed_112 rfl ?_
                refine wf_goto 118 dX8_mixed_113 (by decide) ?_
                exact wf_iret .int rfl (vp_nar_int _) ⟨rfl, rfl⟩ (px_of (by unfold sp_mixed; rw [if_neg h0, if_neg h12, if_pos c109, nI_clamp (by omega)]; rw [← hmx, show 1000 - k = 0 by omega]; rfl) ⟨_, hW, rfl⟩) dX8_mixed_118
            · refine wf_iload 1 dX8_mixed_56 rfl ?_
              refine wf_aload_n 3 dX8_mixed_58 rfl ?_
              refine wf_getf (C := RX8) (T := TX8) (N := 8) (v := .ref (a 0)) 19 0 in_X8 rfl rfl (by decide) fl_X8_30 rfl dX8_mixed_59 ?_
              refine wf_callVD (As := []) (rest := [.int (eG1 p.2)]) 0 (c_X2_countLeft hI) kV_X8_209 rfl (by decide) (by decide) (Nat.le_of_ble_eq_true rfl) rfl rfl rfl dX8_mixed_62 ?_
              refine wf_icmp_ge 108 dX8_mixed_65 (by decide) (fun c65 => ?_) (fun c65 => ?_)
              · have hst : ¬ p.2 ≤ eLeftN g := by have := mt (eG1_lt (v := eLeftN g) (m := p.2) (by omega) (by omega)).mp; intro q9; have q8 := (eG1_lt (v := eLeftN g) (m := p.2) (by omega) (by omega)).mp c65; omega
                refine wf_iload_n 5 dX8_mixed_108 rfl ?_
                refine wf_if_ne 116 dX8_mixed_109 (by decide) (fun c109 => ?_) (fun c109 => ?_)
                · refine wf_iload 1 dX8_mixed_116 rfl ?_
                  exact wf_iret .int rfl (vp_nar_int _) ⟨rfl, rfl⟩ (px_of (by unfold sp_mixed; rw [if_neg h0, if_neg h12, if_neg c109, if_pos (hz.resolve_left c109), nI_clamp (by omega)]; rw [← hmx, show 1000 - k = (999 - k) + 1 by omega]; show _ = (_, _, _); rw [show eMx g A (999 - k + 1) k p = p from by show (if _ then _ else _) = _; rw [if_neg hst]]; rfl) ⟨_, hW, rfl⟩) dX8_mixed_118
                · refine wf_iload_n 2 dX8_mixed_112 rfl ?_
                  refine wf_goto 118 dX8_mixed_113 (by decide) ?_
                  exact wf_iret .int rfl (vp_nar_int _) ⟨rfl, rfl⟩ (px_of (by unfold sp_mixed; rw [if_neg h0, if_neg h12, if_pos c109, nI_clamp (by omega)]; rw [← hmx, show 1000 - k = (999 - k) + 1 by omega]; show _ = (_, _, _); rw [show eMx g A (999 - k + 1) k p = p from by show (if _ then _ else _) = _; rw [if_neg hst]]; rfl) ⟨_, hW, rfl⟩) dX8_mixed_118
              · have hst : p.2 ≤ eLeftN g := by have := mt (eG1_lt (v := eLeftN g) (m := p.2) (by omega) (by omega)).mpr c65; omega
                refine wf_iload 0 dX8_mixed_68 rfl ?_
                refine wf_callSD (As := [.int (nI k)]) (rest := []) (c_X8_sumOfDigits (by omega)) kS_X8_212 rfl (by decide) (by decide) (Nat.le_of_ble_eq_true rfl) rfl dX8_mixed_70 ?_
                refine wf_iload_n 4 dX8_mixed_73 rfl ?_
                refine wf_icmp_le_n 80 dX8_mixed_74 (by decide) (by omega) (by omega) (fun c74 => ?_) (fun c74 => ?_)
                · refine wf_aload_n 3 dX8_mixed_80 rfl ?_
                  refine wf_iload 0 dX8_mixed_81 rfl ?_
                  refine wf_callVD (As := [.int (nI k)]) (rest := []) 19 (c_X8_countLeftByBitters hI hW (by omega)) kV_X8_215 rfl (by decide) (by decide) (Nat.le_of_ble_eq_true rfl) rfl rfl rfl dX8_mixed_83 ?_
                  refine wf_istore [(6, .int (nI (eLeftN (eDk (eBt g k))))), (5, .int (nI k)), (4, .int (eG1 p.2)), (3, .int (nI p.1)), (0, .ref (ax 0)), (1, .int (nI A)), (2, .int z)] dX8_mixed_86 (by decide) rfl ?_
                  refine wf_iload 0 dX8_mixed_88 rfl ?_
                  refine wf_iload 2 dX8_mixed_90 rfl ?_
                  refine wf_icmp_le 102 dX8_mixed_92 (by decide) (fun c92 => ?_) (fun c92 => ?_)
                  · refine wf_iinc (nI (k + 1)) 1 [(5, .int (nI (k + 1))), (6, .int (nI (eLeftN (eDk (eBt g k))))), (4, .int (eG1 p.2)), (3, .int (nI p.1)), (0, .ref (ax 0)), (1, .int (nI A)), (2, .int z)] dX8_mixed_102 rfl (nI_1 k) (by decide) rfl ?_
                    refine wf_goto 48 dX8_mixed_105 (by decide) ?_
                    refine wf_sub (lv' := [(5, .int (nI (k + 1))), (4, .int (eG1 p.2)), (3, .int (nI p.1)), (0, .ref (ax 0)), (1, .int (nI A)), (2, .int z)]) [0, 2, 3, 4, 5, 6] rfl ?_
                    exact ih48 (k + 1) p _ (by omega) (by omega) ((hI.oBt (by omega)).oHrs _) (by omega) (by rw [← hmx, show 1000 - k = (1000 - (k + 1)) + 1 by omega]; symm; show (if _ then (if _ then _ else if _ then _ else _) else _) = _; rw [if_pos hst, if_neg (by omega), if_neg (by have := (eG1_lt (v := eLeftN (eDk (eBt g k))) (m := p.2) (by omega) (by omega)).mp c92; omega)])
                  · refine wf_iload 0 dX8_mixed_95 rfl ?_
                    refine wf_istore [(4, .int (nI (eLeftN (eDk (eBt g k))))), (6, .int (nI (eLeftN (eDk (eBt g k))))), (5, .int (nI k)), (3, .int (nI p.1)), (0, .ref (ax 0)), (1, .int (nI A)), (2, .int z)] dX8_mixed_97 (by decide) rfl ?_
                    refine wf_iload 2 dX8_mixed_99 rfl ?_
                    refine wf_istore_n [(3, .int (nI k)), (4, .int (nI (eLeftN (eDk (eBt g k))))), (6, .int (nI (eLeftN (eDk (eBt g k))))), (5, .int (nI k)), (0, .ref (ax 0)), (1, .int (nI A)), (2, .int z)] dX8_mixed_101 rfl (by decide) rfl ?_
                    refine wf_iinc (nI (k + 1)) 3 [(5, .int (nI (k + 1))), (3, .int (nI k)), (4, .int (nI (eLeftN (eDk (eBt g k))))), (6, .int (nI (eLeftN (eDk (eBt g k))))), (0, .ref (ax 0)), (1, .int (nI A)), (2, .int z)] dX8_mixed_102 rfl (nI_1 k) (by decide) rfl ?_
                    refine wf_goto 48 dX8_mixed_105 (by decide) ?_
                    refine wf_sub (lv' := [(5, .int (nI (k + 1))), (4, .int (nI (eLeftN (eDk (eBt g k))))), (3, .int (nI k)), (0, .ref (ax 0)), (1, .int (nI A)), (2, .int z)]) [0, 2, 1, 4, 5, 6] rfl ?_
                    refine wf_lvc [(5, .int (nI (k + 1))), (4, .int (eG1 (k, eLeftN (eDk (eBt g k)) + 1).2)), (3, .int (nI ((k, eLeftN (eDk (eBt g k)) + 1).1))), (0, .ref (ax 0)), (1, .int (nI A)), (2, .int z)] (by rw [eG1_s]) ?_
                    exact ih48 (k + 1) (k, eLeftN (eDk (eBt g k)) + 1) _ (by omega) (by omega) ((hI.oBt (by omega)).oHrs _) (by show eLeftN _ + 1 ≤ 11; omega) (by rw [← hmx, show 1000 - k = (1000 - (k + 1)) + 1 by omega]; symm; show (if _ then (if _ then _ else if _ then _ else _) else _) = _; rw [if_pos hst, if_neg (by omega), if_pos (by have := mt (eG1_lt (v := eLeftN (eDk (eBt g k))) (m := p.2) (by omega) (by omega)).mpr c92; omega)])
                · refine wf_goto 102 dX8_mixed_77 (by decide) ?_
                  refine wf_iinc (nI (k + 1)) 0 [(5, .int (nI (k + 1))), (4, .int (eG1 p.2)), (3, .int (nI p.1)), (0, .ref (ax 0)), (1, .int (nI A)), (2, .int z)] dX8_mixed_102 rfl (nI_1 k) (by decide) rfl ?_
                  refine wf_goto 48 dX8_mixed_105 (by decide) ?_
                  refine wf_sub (lv' := [(5, .int (nI (k + 1))), (4, .int (eG1 p.2)), (3, .int (nI p.1)), (0, .ref (ax 0)), (1, .int (nI A)), (2, .int z)]) [0, 1, 2, 3, 4, 5] rfl ?_
                  exact ih48 (k + 1) p _ (by omega) (by omega) hW (by omega) (by rw [← hmx, show 1000 - k = (1000 - (k + 1)) + 1 by omega]; symm; show (if _ then (if _ then _ else if _ then _ else _) else _) = _; rw [if_pos hst, if_pos c74])
        refine wf_sub (lv' := [(5, .int (nI 0)), (4, .int (-1)), (3, .int (nI 0)), (0, .ref (ax 0)), (1, .int (nI A)), (2, .int z)]) [0, 1, 2, 3, 4, 5] rfl ?_
        refine wf_lvc [(5, .int (nI 0)), (4, .int (eG1 ((0, 0) : Nat × Nat).2)), (3, .int (nI (((0, 0) : Nat × Nat).1))), (0, .ref (ax 0)), (1, .int (nI A)), (2, .int z)] (by rw [show ((0, 0) : Nat × Nat).2 = 0 from rfl, eG1_0]) ?_
        exact L48 _ 0 (0, 0) gm (Nat.lt_succ_self _) (Nat.zero_le _) hM (by decide) rfl
      · refine wf_iload_n 2 dX8_mixed_28 rfl ?_
        refine wf_iconst (nI 1) dX8_mixed_29 (by decide) ?_
        refine wf_icmp_eq 40 dX8_mixed_30 (by decide) (fun c30 => ?_) (fun c30 => ?_)
        · have h0 := Int32.not_lt.mpr c1
          have h12 := Int32.not_lt.mpr c14
          have hz : z = 0 ∨ z = nI 1 := Or.inr c30
          obtain ⟨A, hA, rfl⟩ := i_le (k := 12) (by decide) h0 h12
          refine wf_iconst (nI 0) dX8_mixed_40 (by decide) ?_
          refine wf_istore_n [(3, .int (nI 0)), (0, .ref (ax 0)), (1, .int (nI A)), (2, .int z)] dX8_mixed_41 rfl (by decide) rfl ?_
          refine wf_iconst (-1) dX8_mixed_42 (by decide) ?_
          refine wf_istore [(4, .int (-1)), (3, .int (nI 0)), (0, .ref (ax 0)), (1, .int (nI A)), (2, .int z)] dX8_mixed_43 (by decide) rfl ?_
          refine wf_iconst (nI 0) dX8_mixed_45 (by decide) ?_
          refine wf_istore [(5, .int (nI 0)), (4, .int (-1)), (3, .int (nI 0)), (0, .ref (ax 0)), (1, .int (nI A)), (2, .int z)] dX8_mixed_46 (by decide) rfl ?_
          have L48 : ∀ (fu48 : Nat) (k : Nat) (p : Nat × Nat) (gw : Gd), 1000 - k < fu48 → (k ≤ 1000) → (Inv gw) → (p.2 ≤ 11) → (eMx g A (1000 - k) k p = eMx g A 1000 0 (0, 0)) → WF l E RX8 cX8_mixed 7 (some .int) rmX8_mixed false (fun _ => True) (QM E (wg E (kk 6) a g ++ (wk E kk ++ (wl E al y ++ (wx E ax (a 0) (b 0) (c 0) (al 0) y ++ (wg E (kk 6) b gm ++ (wg E (kk 6) c gi ++ r)))))) (PX E kk a b c al ax r (sp_mixed g y (nI A) z) gi) rmX8_mixed) (wg E (kk 6) a g ++ (wk E kk ++ (wl E al y ++ (wx E ax (a 0) (b 0) (c 0) (al 0) y ++ (wg E (kk 6) b gm ++ (wg E (kk 6) c gi ++ r)))))) 0 0 48 [(5, .int (nI k)), (4, .int (eG1 p.2)), (3, .int (nI p.1)), (0, .ref (ax 0)), (1, .int (nI A)), (2, .int z)] [] (wg E (kk 6) a g ++ (wk E kk ++ (wl E al y ++ (wx E ax (a 0) (b 0) (c 0) (al 0) y ++ (wg E (kk 6) b gw ++ (wg E (kk 6) c gi ++ r)))))) := by
            intro fu48
            induction fu48 with
            | zero => intro k p gw hn; exact absurd hn (Nat.not_lt_zero _)
            | succ fu48 ih48 =>
              intro k p gw hn hk0 hW hp2 hmx
              have q1 := eLeftN_le g
              have q2 := eLeftN_le (eDk (eBt g k))
              have q3 : eDs k < 1000 := by unfold eDs; omega
              refine wf_iload 0 dX8_mixed_48 rfl ?_
              refine wf_sipush (nI 999) dX8_mixed_50 (by decide) ?_
              refine wf_icmp_gt_n 108 dX8_mixed_53 (by decide) (by omega) (by omega) (fun c53 => ?_) (fun c53 => ?_)
              · refine wf_iload_n 5 dX8_mixed_108 rfl ?_
                refine wf_if_ne 116 dX8_mixed_109 (by decide) (fun c109 => ?_) (fun c109 => ?_)
                · refine wf_iload 1 dX8_mixed_116 rfl ?_
                  exact wf_iret .int rfl (vp_nar_int _) ⟨rfl, rfl⟩ (px_of (by unfold sp_mixed; rw [if_neg h0, if_neg h12, if_neg c109, if_pos (hz.resolve_left c109), nI_clamp (by omega)]; rw [← hmx, show 1000 - k = 0 by omega]; rfl) ⟨_, hW, rfl⟩) dX8_mixed_118
                · refine wf_iload_n 2 dX8_mixed_112 rfl ?_
                  refine wf_goto 118 dX8_mixed_113 (by decide) ?_
                  exact wf_iret .int rfl (vp_nar_int _) ⟨rfl, rfl⟩ (px_of (by unfold sp_mixed; rw [if_neg h0, if_neg h12, if_pos c109, nI_clamp (by omega)]; rw [← hmx, show 1000 - k = 0 by omega]; rfl) ⟨_, hW, rfl⟩) dX8_mixed_118
              · refine wf_iload 1 dX8_mixed_56 rfl ?_
                refine wf_aload_n 3 dX8_mixed_58 rfl ?_
                refine wf_getf (C := RX8) (T := TX8) (N := 8) (v := .ref (a 0)) 19 0 in_X8 rfl rfl (by decide) fl_X8_30 rfl dX8_mixed_59 ?_
                refine wf_callVD (As := []) (rest := [.int (eG1 p.2)]) 0 (c_X2_countLeft hI) kV_X8_209 rfl (by decide) (by decide) (Nat.le_of_ble_eq_true rfl) rfl rfl rfl dX8_mixed_62 ?_
                refine wf_icmp_ge 108 dX8_mixed_65 (by decide) (fun c65 => ?_) (fun c65 => ?_)
                · have hst : ¬ p.2 ≤ eLeftN g := by have := mt (eG1_lt (v := eLeftN g) (m := p.2) (by omega) (by omega)).mp; intro q9; have q8 := (eG1_lt (v := eLeftN g) (m := p.2) (by omega) (by omega)).mp c65; omega
                  refine wf_iload_n 5 dX8_mixed_108 rfl ?_
                  refine wf_if_ne 116 dX8_mixed_109 (by decide) (fun c109 => ?_) (fun c109 => ?_)
                  · refine wf_iload 1 dX8_mixed_116 rfl ?_
                    exact wf_iret .int rfl (vp_nar_int _) ⟨rfl, rfl⟩ (px_of (by unfold sp_mixed; rw [if_neg h0, if_neg h12, if_neg c109, if_pos (hz.resolve_left c109), nI_clamp (by omega)]; rw [← hmx, show 1000 - k = (999 - k) + 1 by omega]; show _ = (_, _, _); rw [show eMx g A (999 - k + 1) k p = p from by show (if _ then _ else _) = _; rw [if_neg hst]]; rfl) ⟨_, hW, rfl⟩) dX8_mixed_118
                  · refine wf_iload_n 2 dX8_mixed_112 rfl ?_
                    refine wf_goto 118 dX8_mixed_113 (by decide) ?_
                    exact wf_iret .int rfl (vp_nar_int _) ⟨rfl, rfl⟩ (px_of (by unfold sp_mixed; rw [if_neg h0, if_neg h12, if_pos c109, nI_clamp (by omega)]; rw [← hmx, show 1000 - k = (999 - k) + 1 by omega]; show _ = (_, _, _); rw [show eMx g A (999 - k + 1) k p = p from by show (if _ then _ else _) = _; rw [if_neg hst]]; rfl) ⟨_, hW, rfl⟩) dX8_mixed_118
                · have hst : p.2 ≤ eLeftN g := by have := mt (eG1_lt (v := eLeftN g) (m := p.2) (by omega) (by omega)).mpr c65; omega
                  refine wf_iload 0 dX8_mixed_68 rfl ?_
                  refine wf_callSD (As := [.int (nI k)]) (rest := []) (c_X8_sumOfDigits (by omega)) kS_X8_212 rfl (by decide) (by decide) (Nat.le_of_ble_eq_true rfl) rfl dX8_mixed_70 ?_
                  refine wf_iload_n 4 dX8_mixed_73 rfl ?_
                  refine wf_icmp_le_n 80 dX8_mixed_74 (by decide) (by omega) (by omega) (fun c74 => ?_) (fun c74 => ?_)
                  · refine wf_aload_n 3 dX8_mixed_80 rfl ?_
                    refine wf_iload 0 dX8_mixed_81 rfl ?_
                    refine wf_callVD (As := [.int (nI k)]) (rest := []) 19 (c_X8_countLeftByBitters hI hW (by omega)) kV_X8_215 rfl (by decide) (by decide) (Nat.le_of_ble_eq_true rfl) rfl rfl rfl dX8_mixed_83 ?_
                    refine wf_istore [(6, .int (nI (eLeftN (eDk (eBt g k))))), (5, .int (nI k)), (4, .int (eG1 p.2)), (3, .int (nI p.1)), (0, .ref (ax 0)), (1, .int (nI A)), (2, .int z)] dX8_mixed_86 (by decide) rfl ?_
                    refine wf_iload 0 dX8_mixed_88 rfl ?_
                    refine wf_iload 2 dX8_mixed_90 rfl ?_
                    refine wf_icmp_le 102 dX8_mixed_92 (by decide) (fun c92 => ?_) (fun c92 => ?_)
                    · refine wf_iinc (nI (k + 1)) 1 [(5, .int (nI (k + 1))), (6, .int (nI (eLeftN (eDk (eBt g k))))), (4, .int (eG1 p.2)), (3, .int (nI p.1)), (0, .ref (ax 0)), (1, .int (nI A)), (2, .int z)] dX8_mixed_102 rfl (nI_1 k) (by decide) rfl ?_
                      refine wf_goto 48 dX8_mixed_105 (by decide) ?_
                      refine wf_sub (lv' := [(5, .int (nI (k + 1))), (4, .int (eG1 p.2)), (3, .int (nI p.1)), (0, .ref (ax 0)), (1, .int (nI A)), (2, .int z)]) [0, 2, 3, 4, 5, 6] rfl ?_
                      exact ih48 (k + 1) p _ (by omega) (by omega) ((hI.oBt (by omega)).oHrs _) (by omega) (by rw [← hmx, show 1000 - k = (1000 - (k + 1)) + 1 by omega]; symm; show (if _ then (if _ then _ else if _ then _ else _) else _) = _; rw [if_pos hst, if_neg (by omega), if_neg (by have := (eG1_lt (v := eLeftN (eDk (eBt g k))) (m := p.2) (by omega) (by omega)).mp c92; omega)])
                    · refine wf_iload 0 dX8_mixed_95 rfl ?_
                      refine wf_istore [(4, .int (nI (eLeftN (eDk (eBt g k))))), (6, .int (nI (eLeftN (eDk (eBt g k))))), (5, .int (nI k)), (3, .int (nI p.1)), (0, .ref (ax 0)), (1, .int (nI A)), (2, .int z)] dX8_mixed_97 (by decide) rfl ?_
                      refine wf_iload 2 dX8_mixed_99 rfl ?_
                      refine wf_istore_n [(3, .int (nI k)), (4, .int (nI (eLeftN (eDk (eBt g k))))), (6, .int (nI (eLeftN (eDk (eBt g k))))), (5, .int (nI k)), (0, .ref (ax 0)), (1, .int (nI A)), (2, .int z)] dX8_mixed_101 rfl (by decide) rfl ?_
                      refine wf_iinc (nI (k + 1)) 3 [(5, .int (nI (k + 1))), (3, .int (nI k)), (4, .int (nI (eLeftN (eDk (eBt g k))))), (6, .int (nI (eLeftN (eDk (eBt g k))))), (0, .ref (ax 0)), (1, .int (nI A)), (2, .int z)] dX8_mixed_102 rfl (nI_1 k) (by decide) rfl ?_
                      refine wf_goto 48 dX8_mixed_105 (by decide) ?_
                      refine wf_sub (lv' := [(5, .int (nI (k + 1))), (4, .int (nI (eLeftN (eDk (eBt g k))))), (3, .int (nI k)), (0, .ref (ax 0)), (1, .int (nI A)), (2, .int z)]) [0, 2, 1, 4, 5, 6] rfl ?_
                      refine wf_lvc [(5, .int (nI (k + 1))), (4, .int (eG1 (k, eLeftN (eDk (eBt g k)) + 1).2)), (3, .int (nI ((k, eLeftN (eDk (eBt g k)) + 1).1))), (0, .ref (ax 0)), (1, .int (nI A)), (2, .int z)] (by rw [eG1_s]) ?_
                      exact ih48 (k + 1) (k, eLeftN (eDk (eBt g k)) + 1) _ (by omega) (by omega) ((hI.oBt (by omega)).oHrs _) (by show eLeftN _ + 1 ≤ 11; omega) (by rw [← hmx, show 1000 - k = (1000 - (k + 1)) + 1 by omega]; symm; show (if _ then (if _ then _ else if _ then _ else _) else _) = _; rw [if_pos hst, if_neg (by omega), if_pos (by have := mt (eG1_lt (v := eLeftN (eDk (eBt g k))) (m := p.2) (by omega) (by omega)).mpr c92; omega)])
                  · refine wf_goto 102 dX8_mixed_77 (by decide) ?_
                    refine wf_iinc (nI (k + 1)) 0 [(5, .int (nI (k + 1))), (4, .int (eG1 p.2)), (3, .int (nI p.1)), (0, .ref (ax 0)), (1, .int (nI A)), (2, .int z)] dX8_mixed_102 rfl (nI_1 k) (by decide) rfl ?_
                    refine wf_goto 48 dX8_mixed_105 (by decide) ?_
                    refine wf_sub (lv' := [(5, .int (nI (k + 1))), (4, .int (eG1 p.2)), (3, .int (nI p.1)), (0, .ref (ax 0)), (1, .int (nI A)), (2, .int z)]) [0, 1, 2, 3, 4, 5] rfl ?_
                    exact ih48 (k + 1) p _ (by omega) (by omega) hW (by omega) (by rw [← hmx, show 1000 - k = (1000 - (k + 1)) + 1 by omega]; symm; show (if _ then (if _ then _ else if _ then _ else _) else _) = _; rw [if_pos hst, if_pos c74])
          refine wf_sub (lv' := [(5, .int (nI 0)), (4, .int (-1)), (3, .int (nI 0)), (0, .ref (ax 0)), (1, .int (nI A)), (2, .int z)]) [0, 1, 2, 3, 4, 5] rfl ?_
          refine wf_lvc [(5, .int (nI 0)), (4, .int (eG1 ((0, 0) : Nat × Nat).2)), (3, .int (nI (((0, 0) : Nat × Nat).1))), (0, .ref (ax 0)), (1, .int (nI A)), (2, .int z)] (by rw [show ((0, 0) : Nat × Nat).2 = 0 from rfl, eG1_0]) ?_
          exact L48 _ 0 (0, 0) gm (Nat.lt_succ_self _) (Nat.zero_le _) hM (by decide) rfl
        · refine wf_aload_n 0 dX8_mixed_33 rfl ?_
          refine wf_bipush (-2) dX8_mixed_34 (by decide) ?_
          refine wf_callVD (As := [.int (-2)]) (rest := []) 19 (c_X8_refuse (k := 2) (by decide)) kV_X8_56 rfl (by decide) (by decide) (Nat.le_of_ble_eq_true rfl) rfl rfl rfl dX8_mixed_36 ?_
          exact wf_iret .int rfl (vp_nar_int _) ⟨rfl, rfl⟩ (px_of (by unfold sp_mixed; rw [if_neg (Int32.not_lt.mpr c1), if_neg (Int32.not_lt.mpr c14), if_neg c25, if_neg c30]; rfl) ⟨_, hM, rfl⟩) dX8_mixed_39
    · refine wf_aload_n 0 dX8_mixed_17 rfl ?_
      refine wf_bipush (-6) dX8_mixed_18 (by decide) ?_
      refine wf_callVD (As := [.int (-6)]) (rest := []) 19 (c_X8_refuse (k := 6) (by decide)) kV_X8_56 rfl (by decide) (by decide) (Nat.le_of_ble_eq_true rfl) rfl rfl rfl dX8_mixed_20 ?_
      exact wf_iret .int rfl (vp_nar_int _) ⟨rfl, rfl⟩ (px_of (by unfold sp_mixed; rw [if_neg (Int32.not_lt.mpr c1), if_pos (Int32.not_le.mp c14)]; rfl) ⟨_, hM, rfl⟩) dX8_mixed_23
  · refine wf_aload_n 0 dX8_mixed_4 rfl ?_
    refine wf_bipush (-4) dX8_mixed_5 (by decide) ?_
    refine wf_callVD (As := [.int (-4)]) (rest := []) 19 (c_X8_refuse (k := 4) (by decide)) kV_X8_56 rfl (by decide) (by decide) (Nat.le_of_ble_eq_true rfl) rfl rfl rfl dX8_mixed_7 ?_
    exact wf_iret .int rfl (vp_nar_int _) ⟨rfl, rfl⟩ (px_of (by unfold sp_mixed; rw [if_pos (Int32.not_le.mp c1)]; rfl) ⟨_, hM, rfl⟩) dX8_mixed_10
