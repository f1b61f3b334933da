abbrev rmX9_leftNow : Room := { frames := 0, cells := 0, slots := 0, locals := 0 }
set_option maxHeartbeats 4000000 in
set_option maxRecDepth 100000 in
theorem c_X9_leftNow {l : Launch} {E : Ev}  {g y j : Gd} {td : Nat → Int32} {am : Nat → Nat} {r : va_W} (hI : Inv g) : CT l E yX9_leftNow cX9_leftNow 1 (some .int) rmX9_leftNow [.ref (am 0)] (wm E am g y j td ++ r) (IS (some (.int (nI (eLeft g)))) (wm E am g y j td ++ r)) := by
  refine CT.of (lv := [(0, .ref (am 0))]) false (by decide +kernel) (by decide) (Nat.le_of_ble_eq_true rfl) rfl ?_
  have f0 := hI.words
  have f1 := hI.birds
  have f2 := hI.gone
  have f3 := hI.hour
  have f4 := hI.all
  have f5 := pw10 f0
  have f6 : 1 <<< g 9 0 = 2 ^ g 9 0 := by rw [Nat.shiftLeft_eq, Nat.one_mul]
  have f7 : 1 ≤ 2 ^ g 9 0 := Nat.one_le_two_pow
  have f8 := hI.allW
  refine wf_iconst (nI 1) dX9_leftNow_0 (by decide) ?_
  refine wf_aload_n 0 dX9_leftNow_1 rfl ?_
  refine wf_getf (C := RX9) (T := TX9) (N := 27) (v := .int (nI (g 9 0))) 0 10 in_X9 rfl rfl (by decide) fl_X9_59 rfl dX9_leftNow_2 ?_
  refine wf_ishl (nI (1 <<< (g 9 0))) dX9_leftNow_5 (nI_shl (by omega) (by omega)) ?_
  refine wf_iconst (nI 1) dX9_leftNow_6 (by decide) ?_
  refine wf_isub (nI ((1 <<< (g 9 0)) - 1)) dX9_leftNow_7 (pk_sub (by omega)) ?_
  refine wf_aload_n 0 dX9_leftNow_8 rfl ?_
  refine wf_getf (C := RX9) (T := TX9) (N := 27) (v := .int (nI (g 9 2))) 0 13 in_X9 rfl rfl (by decide) fl_X9_142 rfl dX9_leftNow_9 ?_
  refine wf_iconst (-1) dX9_leftNow_12 (by decide) ?_
  refine wf_ixor (nI (g 9 2) ^^^ -1) dX9_leftNow_13 rfl ?_
  refine wf_iand (nI (ldf ((1 <<< (g 9 0)) - 1) (g 9 2))) dX9_leftNow_14 (nI_andn (by omega) (by omega)) ?_
  exact wf_iret .int rfl (vp_nar_int _) ⟨rfl, rfl⟩ ⟨congrArg (fun z => some (Value.int z)) (rfl), rfl⟩ dX9_leftNow_15
abbrev rmX9_bits : Room := { frames := 0, cells := 0, slots := 0, locals := 0 }
set_option maxHeartbeats 4000000 in
set_option maxRecDepth 100000 in
theorem c_X9_bits {l : Launch} {E : Ev} {r : va_W} {x : Nat} (hx : x < 1024) : CT l E yX9_bits cX9_bits 3 (some .int) rmX9_bits [.int (nI x)] (r) (IS (some (.int (nI (eBits x)))) r) := by
  refine CT.of (lv := [(0, .int (nI x))]) false (by decide +kernel) (by decide) (Nat.le_of_ble_eq_true rfl) rfl ?_
  refine wf_iconst (nI 0) dX9_bits_0 (by decide) ?_
  refine wf_istore_n [(1, .int (nI 0)), (0, .int (nI x))] dX9_bits_1 rfl (by decide) rfl ?_
  refine wf_iconst (nI 0) dX9_bits_2 (by decide) ?_
  refine wf_istore_n [(2, .int (nI 0)), (1, .int (nI 0)), (0, .int (nI x))] dX9_bits_3 rfl (by decide) rfl ?_
  have L4 : ∀ (fu4 : Nat) (k : Nat), 31 - k < fu4 → (k ≤ 31) → WF l E RX9 cX9_bits 3 (some .int) rmX9_bits false (fun _ => True) (QM E (r) (IS (some (.int (nI (eBits x)))) r) rmX9_bits) (r) 0 0 4 [(2, .int (nI k)), (1, .int (nI (eCnt x k))), (0, .int (nI x))] [] (r) := by
    intro fu4
    induction fu4 with
    | zero => intro k hn; exact absurd hn (Nat.not_lt_zero _)
    | succ fu4 ih4 =>
      intro k hn hk
      have f1 := eCnt_le x k
      refine wf_iload_n 0 dX9_bits_4 rfl ?_
      refine wf_bipush (nI 31) dX9_bits_5 (by decide) ?_
      refine wf_icmp_ge_n 24 dX9_bits_7 (by decide) (by omega) (by omega) (fun c7 => ?_) (fun c7 => ?_)
      · refine wf_iload_n 1 dX9_bits_24 rfl ?_
        exact wf_iret .int rfl (vp_nar_int _) ⟨rfl, rfl⟩ ⟨congrArg (fun z => some (Value.int z)) (by rw [show k = 31 by omega, eCnt_31 hx]), rfl⟩ dX9_bits_25
      · refine wf_iload_n 1 dX9_bits_10 rfl ?_
        refine wf_iload_n 2 dX9_bits_11 rfl ?_
        refine wf_iload_n 0 dX9_bits_12 rfl ?_
        refine wf_ishr (nI (x >>> k)) dX9_bits_13 (nI_shr (by omega) (by omega)) ?_
        refine wf_iconst (nI 1) dX9_bits_14 (by decide) ?_
        refine wf_iand (nI ((x >>> k) &&& 1)) dX9_bits_15 (nI_land (Nat.lt_of_le_of_lt (Nat.shiftRight_le _ _) (by omega)) (by decide)) ?_
        refine wf_iadd (nI ((eCnt x k) + ((x >>> k) &&& 1))) dX9_bits_16 (nI_add (eCnt x k) ((x >>> k) &&& 1)) ?_
        refine wf_istore_n [(1, .int (nI ((eCnt x k) + ((x >>> k) &&& 1)))), (2, .int (nI k)), (0, .int (nI x))] dX9_bits_17 rfl (by decide) rfl ?_
        refine wf_iinc (nI (k + 1)) 1 [(2, .int (nI (k + 1))), (1, .int (nI ((eCnt x k) + ((x >>> k) &&& 1)))), (0, .int (nI x))] dX9_bits_18 rfl (nI_1 k) (by decide) rfl ?_
        refine wf_goto 4 dX9_bits_21 (by decide) ?_
        refine wf_sub (lv' := [(2, .int (nI (k + 1))), (1, .int (nI ((eCnt x k) + ((x >>> k) &&& 1)))), (0, .int (nI x))]) [0, 1, 2] rfl ?_
        exact ih4 (k + 1) (by omega) (by omega)
  refine wf_sub (lv' := [(2, .int (nI 0)), (1, .int (nI 0)), (0, .int (nI x))]) [0, 1, 2] rfl ?_
  exact L4 _ 0 (Nat.lt_succ_self _) (Nat.zero_le _)
abbrev rmX9_leftAtDusk : Room := { frames := 5, cells := 0, slots := 0, locals := 111 }
set_option maxHeartbeats 4000000 in
set_option maxRecDepth 100000 in
theorem c_X9_leftAtDusk {l : Launch} {E : Ev}  {g y j : Gd} {td : Nat → Int32} {am : Nat → Nat} {r : va_W} (hI : Inv g) : CT l E yX9_leftAtDusk cX9_leftAtDusk 4 (some .int) rmX9_leftAtDusk [.ref (am 0)] (wm E am g y j td ++ r) (IS (some (.int (nI (eLeft (eDk g))))) (wm E am g y j td ++ r)) := by
  refine CT.of (lv := [(0, .ref (am 0))]) false (by decide +kernel) (by decide) (Nat.le_of_ble_eq_true rfl) rfl ?_
  have f0 := hI.words
  have f1 := hI.birds
  have f2 := hI.gone
  have f3 := hI.hour
  refine wf_aload_n 0 dX9_leftAtDusk_0 rfl ?_
  refine wf_getf (C := RX9) (T := TX9) (N := 27) (v := .int (nI (g 9 3))) 0 12 in_X9 rfl rfl (by decide) fl_X9_139 rfl dX9_leftAtDusk_1 ?_
  refine wf_istore_n [(1, .int (nI (g 9 3))), (0, .ref (am 0))] dX9_leftAtDusk_4 rfl (by decide) rfl ?_
  refine wf_aload_n 1 dX9_leftAtDusk_5 rfl ?_
  refine wf_getf (C := RX9) (T := TX9) (N := 27) (v := .int (nI (g 9 2))) 0 13 in_X9 rfl rfl (by decide) fl_X9_142 rfl dX9_leftAtDusk_6 ?_
  refine wf_istore_n [(2, .int (nI (g 9 2))), (1, .int (nI (g 9 3))), (0, .ref (am 0))] dX9_leftAtDusk_9 rfl (by decide) rfl ?_
  have L10 : ∀ (fu10 : Nat) (i : Nat), 8 - i < fu10 → (g 9 3 ≤ i) → (i ≤ 8) → WF l E RX9 cX9_leftAtDusk 4 (some .int) rmX9_leftAtDusk false (fun _ => True) (QM E (wm E am g y j td ++ r) (IS (some (.int (nI (eLeft (eDk g))))) (wm E am g y j td ++ r)) rmX9_leftAtDusk) (wm E am g y j td ++ r) 0 0 10 [(2, .int (nI (g 9 2))), (1, .int (nI (g 9 3))), (0, .ref (am 0))] [] (wm E am (eHrs g (i - g 9 3)) y j td ++ r) := by
    intro fu10
    induction fu10 with
    | zero => intro i hn; exact absurd hn (Nat.not_lt_zero _)
    | succ fu10 ih10 =>
      intro i hn hi1 hi2
      have hH := hI.oHrs (i - g 9 3)
      have e93 := eHrs_hour (g := g) (i - g 9 3) (by omega)
      refine wf_aload_n 2 dX9_leftAtDusk_10 rfl ?_
      refine wf_getf (C := RX9) (T := TX9) (N := 27) (v := .int (nI ((eHrs g (i - g 9 3)) 9 3))) 0 12 in_X9 rfl rfl (by decide) fl_X9_139 rfl dX9_leftAtDusk_11 ?_
      refine wf_bipush (nI 8) dX9_leftAtDusk_14 (by decide) ?_
      refine wf_icmp_ge_n 27 dX9_leftAtDusk_16 (by decide) (by omega) (by omega) (fun c16 => ?_) (fun c16 => ?_)
      · have hie : i = 8 := by omega
        subst hie
        refine wf_aload_n 2 dX9_leftAtDusk_27 rfl ?_
        refine wf_callVD (As := []) (rest := []) 0 (c_X9_leftNow (hI.oHrs _)) kV_X9_169 rfl (by decide) (by decide) (Nat.le_of_ble_eq_true rfl) rfl rfl rfl dX9_leftAtDusk_28 ?_
        refine wf_istore_n [(3, .int (nI (eLeft (eDk g)))), (2, .int (nI (g 9 2))), (1, .int (nI (g 9 3))), (0, .ref (am 0))] dX9_leftAtDusk_31 rfl (by decide) rfl ?_
        refine wf_aload_n 3 dX9_leftAtDusk_32 rfl ?_
        refine wf_iload_n 2 dX9_leftAtDusk_33 rfl ?_
        refine wf_putf (C := RX9) (T := TX9) (N := 27) (ty := .int) 0 12 (wm E am (gs (eDk g) 9 3 (g 9 3)) y j td ++ r) tyX9 in_X9 tyX9_ok nmX9 rfl rfl (by decide) fl_X9_139 rfl (by decide +kernel) (by rfl) rfl (Nat.le_of_ble_eq_true rfl) (sf 0 (Nat.le_of_ble_eq_true rfl) (wm_put12 (g 9 3))) dX9_leftAtDusk_34 ?_
        refine wf_aload_n 3 dX9_leftAtDusk_37 rfl ?_
        refine wf_iload_n 1 dX9_leftAtDusk_38 rfl ?_
        refine wf_putf (C := RX9) (T := TX9) (N := 27) (ty := .int) 0 13 (wm E am (gs (gs (eDk g) 9 3 (g 9 3)) 9 2 (g 9 2)) y j td ++ r) tyX9 in_X9 tyX9_ok nmX9 rfl rfl (by decide) fl_X9_142 rfl (by decide +kernel) (by rfl) rfl (Nat.le_of_ble_eq_true rfl) (sf 0 (Nat.le_of_ble_eq_true rfl) (wm_put13 (g 9 2))) dX9_leftAtDusk_39 ?_
        refine wf_iload_n 0 dX9_leftAtDusk_42 rfl ?_
        exact wf_iret .int rfl (vp_nar_int _) ⟨rfl, rfl⟩ ⟨congrArg (fun z => some (Value.int z)) (rfl), (by rw [dk_back (fun f i h h2 => eDk_f h h2)])⟩ dX9_leftAtDusk_43
      · refine wf_aload_n 2 dX9_leftAtDusk_19 rfl ?_
        refine wf_callVD (As := []) (rest := []) 0 (c_X9_goesHour hH (by omega)) kV_X9_166 rfl (by decide) (by decide) (Nat.le_of_ble_eq_true rfl) rfl rfl rfl dX9_leftAtDusk_20 ?_
        refine wf_pop dX9_leftAtDusk_23 rfl ?_
        refine wf_goto 10 dX9_leftAtDusk_24 (by decide) ?_
        refine wf_sub (lv' := [(2, .int (nI (g 9 2))), (1, .int (nI (g 9 3))), (0, .ref (am 0))]) [0, 1, 2] rfl ?_
        refine wf_world (wm E am (eHrs g (i + 1 - g 9 3)) y j td ++ r) (by rw [show i + 1 - g 9 3 = (i - g 9 3) + 1 by omega]; rfl) ?_
        exact ih10 (i + 1) (by omega) (by omega) (by omega)
  refine wf_sub (lv' := [(2, .int (nI (g 9 2))), (1, .int (nI (g 9 3))), (0, .ref (am 0))]) [0, 1, 2] rfl ?_
  refine wf_world (wm E am (eHrs g (g 9 3 - g 9 3)) y j td ++ r) (by rw [Nat.sub_self]; rfl) ?_
  exact L10 _ (g 9 3) (Nat.lt_succ_self _) (Nat.le_refl _) f3
abbrev rmX9_goesIn : Room := { frames := 5, cells := 0, slots := 0, locals := 111 }
set_option maxHeartbeats 4000000 in
set_option maxRecDepth 100000 in
theorem c_X9_goesIn {l : Launch} {E : Ev} {w : Nat} {g y j : Gd} {td : Nat → Int32} {am : Nat → Nat} {r : va_W} (hI : Inv g) (hw : w < 10) : CT l E yX9_goesIn cX9_goesIn 5 (some .int) rmX9_goesIn [.ref (am 0), .int (nI w)] (wm E am g y j td ++ r) (IS (some (.int (nI (mGi g w)))) (wm E am g y j td ++ r)) := by
  refine CT.of (lv := [(0, .ref (am 0)), (1, .int (nI w))]) false (by decide +kernel) (by decide) (Nat.le_of_ble_eq_true rfl) rfl ?_
  have f0 := hI.words
  have f1 := hI.birds
  have f2 := hI.gone
  have f3 := hI.hour
  refine wf_aload_n 0 dX9_goesIn_0 rfl ?_
  refine wf_iload_n 1 dX9_goesIn_1 rfl ?_
  refine wf_callVD (As := [.int (nI w)]) (rest := []) 0 (c_X9_isGone hI (by omega)) kV_X9_148 rfl (by decide) (by decide) (Nat.le_of_ble_eq_true rfl) rfl rfl rfl dX9_goesIn_2 ?_
  refine wf_if_eq_b 11 dX9_goesIn_5 (by decide) (fun c5 => ?_) (fun c5 => ?_)
  · refine wf_aload_n 0 dX9_goesIn_11 rfl ?_
    refine wf_getf (C := RX9) (T := TX9) (N := 27) (v := .int (nI (g 9 3))) 0 12 in_X9 rfl rfl (by decide) fl_X9_139 rfl dX9_goesIn_12 ?_
    refine wf_istore_n [(2, .int (nI (g 9 3))), (0, .ref (am 0)), (1, .int (nI w))] dX9_goesIn_15 rfl (by decide) rfl ?_
    refine wf_aload_n 1 dX9_goesIn_16 rfl ?_
    refine wf_getf (C := RX9) (T := TX9) (N := 27) (v := .int (nI (g 9 2))) 0 13 in_X9 rfl rfl (by decide) fl_X9_142 rfl dX9_goesIn_17 ?_
    refine wf_istore_n [(3, .int (nI (g 9 2))), (2, .int (nI (g 9 3))), (0, .ref (am 0)), (1, .int (nI w))] dX9_goesIn_20 rfl (by decide) rfl ?_
    have L21 : ∀ (fu21 : Nat) (i : Nat), 8 - i < fu21 → (g 9 3 ≤ i) → (i ≤ 8) → (mGo g w (i - g 9 3)) → WF l E RX9 cX9_goesIn 5 (some .int) rmX9_goesIn false (fun _ => True) (QM E (wm E am g y j td ++ r) (IS (some (.int (nI (mGi g w)))) (wm E am g y j td ++ r)) rmX9_goesIn) (wm E am g y j td ++ r) 0 0 21 [(3, .int (nI (g 9 2))), (2, .int (nI (g 9 3))), (0, .ref (am 0)), (1, .int (nI w))] [] (wm E am (eHrs g (i - g 9 3)) y j td ++ r) := by
      intro fu21
      induction fu21 with
      | zero => intro i hn; exact absurd hn (Nat.not_lt_zero _)
      | succ fu21 ih21 =>
        intro i hn hi1 hi2 hgo
        have hH := hI.oHrs (i - g 9 3)
        have e93 := eHrs_hour (g := g) (i - g 9 3) (by omega)
        refine wf_aload_n 2 dX9_goesIn_21 rfl ?_
        refine wf_getf (C := RX9) (T := TX9) (N := 27) (v := .int (nI ((eHrs g (i - g 9 3)) 9 3))) 0 12 in_X9 rfl rfl (by decide) fl_X9_139 rfl dX9_goesIn_22 ?_
        refine wf_bipush (nI 8) dX9_goesIn_25 (by decide) ?_
        refine wf_icmp_ge_n 46 dX9_goesIn_27 (by decide) (by omega) (by omega) (fun c27 => ?_) (fun c27 => ?_)
        · refine wf_aload_n 2 dX9_goesIn_46 rfl ?_
          refine wf_iload_n 3 dX9_goesIn_47 rfl ?_
          refine wf_callVD (As := [.int (nI w)]) (rest := []) 0 (c_X9_isGone hH (by omega)) kV_X9_148 rfl (by decide) (by decide) (Nat.le_of_ble_eq_true rfl) rfl rfl rfl dX9_goesIn_48 ?_
          refine wf_if_eq_b 63 dX9_goesIn_51 (by decide) (fun c51 => ?_) (fun c51 => ?_)
          · refine wf_bipush (nI 8) dX9_goesIn_63 (by decide) ?_
            refine wf_istore [(4, .int (nI 8)), (3, .int (nI (g 9 2))), (2, .int (nI (g 9 3))), (0, .ref (am 0)), (1, .int (nI w))] dX9_goesIn_65 (by decide) rfl ?_
            refine wf_aload_n 3 dX9_goesIn_67 rfl ?_
            refine wf_iload_n 2 dX9_goesIn_68 rfl ?_
            refine wf_putf (C := RX9) (T := TX9) (N := 27) (ty := .int) 0 12 (wm E am (gs (eHrs g (i - g 9 3)) 9 3 (g 9 3)) y j td ++ r) tyX9 in_X9 tyX9_ok nmX9 rfl rfl (by decide) fl_X9_139 rfl (by decide +kernel) (by rfl) rfl (Nat.le_of_ble_eq_true rfl) (sf 0 (Nat.le_of_ble_eq_true rfl) (wm_put12 (g 9 3))) dX9_goesIn_69 ?_
            refine wf_aload_n 3 dX9_goesIn_72 rfl ?_
            refine wf_iload_n 1 dX9_goesIn_73 rfl ?_
            refine wf_putf (C := RX9) (T := TX9) (N := 27) (ty := .int) 0 13 (wm E am (gs (gs (eHrs g (i - g 9 3)) 9 3 (g 9 3)) 9 2 (g 9 2)) y j td ++ r) tyX9 in_X9 tyX9_ok nmX9 rfl rfl (by decide) fl_X9_142 rfl (by decide +kernel) (by rfl) rfl (Nat.le_of_ble_eq_true rfl) (sf 0 (Nat.le_of_ble_eq_true rfl) (wm_put13 (g 9 2))) dX9_goesIn_74 ?_
            refine wf_iload 0 dX9_goesIn_77 rfl ?_
            exact wf_iret .int rfl (vp_nar_int _) ⟨rfl, rfl⟩ ⟨congrArg (fun z => some (Value.int z)) (by unfold mGi; rw [if_neg (by rw [c5]; decide), mGo_n hgo c51 (by omega)]), (by rw [dk_back (fun f i h h2 => eHrs_f h h2)])⟩ dX9_goesIn_79
          · have hd1 := (mGo_g hgo c51).1
            refine wf_aload_n 2 dX9_goesIn_54 rfl ?_
            refine wf_getf (C := RX9) (T := TX9) (N := 27) (v := .int (nI ((eHrs g (i - g 9 3)) 9 3))) 0 12 in_X9 rfl rfl (by decide) fl_X9_139 rfl dX9_goesIn_55 ?_
            refine wf_iconst (nI 1) dX9_goesIn_58 (by decide) ?_
            refine wf_isub (nI (((eHrs g (i - g 9 3)) 9 3) - 1)) dX9_goesIn_59 (pk_sub (by omega)) ?_
            refine wf_goto 65 dX9_goesIn_60 (by decide) ?_
            refine wf_istore [(4, .int (nI (((eHrs g (i - g 9 3)) 9 3) - 1))), (3, .int (nI (g 9 2))), (2, .int (nI (g 9 3))), (0, .ref (am 0)), (1, .int (nI w))] dX9_goesIn_65 (by decide) rfl ?_
            refine wf_aload_n 3 dX9_goesIn_67 rfl ?_
            refine wf_iload_n 2 dX9_goesIn_68 rfl ?_
            refine wf_putf (C := RX9) (T := TX9) (N := 27) (ty := .int) 0 12 (wm E am (gs (eHrs g (i - g 9 3)) 9 3 (g 9 3)) y j td ++ r) tyX9 in_X9 tyX9_ok nmX9 rfl rfl (by decide) fl_X9_139 rfl (by decide +kernel) (by rfl) rfl (Nat.le_of_ble_eq_true rfl) (sf 0 (Nat.le_of_ble_eq_true rfl) (wm_put12 (g 9 3))) dX9_goesIn_69 ?_
            refine wf_aload_n 3 dX9_goesIn_72 rfl ?_
            refine wf_iload_n 1 dX9_goesIn_73 rfl ?_
            refine wf_putf (C := RX9) (T := TX9) (N := 27) (ty := .int) 0 13 (wm E am (gs (gs (eHrs g (i - g 9 3)) 9 3 (g 9 3)) 9 2 (g 9 2)) y j td ++ r) tyX9 in_X9 tyX9_ok nmX9 rfl rfl (by decide) fl_X9_142 rfl (by decide +kernel) (by rfl) rfl (Nat.le_of_ble_eq_true rfl) (sf 0 (Nat.le_of_ble_eq_true rfl) (wm_put13 (g 9 2))) dX9_goesIn_74 ?_
            refine wf_iload 0 dX9_goesIn_77 rfl ?_
            exact wf_iret .int rfl (vp_nar_int _) ⟨rfl, rfl⟩ ⟨congrArg (fun z => some (Value.int z)) (by unfold mGi; rw [if_neg (by rw [c5]; decide), (mGo_g hgo c51).2]; exact congrArg nI (by omega)), (by rw [dk_back (fun f i h h2 => eHrs_f h h2)])⟩ dX9_goesIn_79
        · refine wf_aload_n 2 dX9_goesIn_30 rfl ?_
          refine wf_iload_n 3 dX9_goesIn_31 rfl ?_
          refine wf_callVD (As := [.int (nI w)]) (rest := []) 0 (c_X9_isGone hH (by omega)) kV_X9_148 rfl (by decide) (by decide) (Nat.le_of_ble_eq_true rfl) rfl rfl rfl dX9_goesIn_32 ?_
          refine wf_if_ne_b 46 dX9_goesIn_35 (by decide) (fun c35 => ?_) (fun c35 => ?_)
          · refine wf_aload_n 2 dX9_goesIn_46 rfl ?_
            refine wf_iload_n 3 dX9_goesIn_47 rfl ?_
            refine wf_callVD (As := [.int (nI w)]) (rest := []) 0 (c_X9_isGone hH (by omega)) kV_X9_148 rfl (by decide) (by decide) (Nat.le_of_ble_eq_true rfl) rfl rfl rfl dX9_goesIn_48 ?_
            refine wf_if_eq_b 63 dX9_goesIn_51 (by decide) (fun c51 => ?_) (fun c51 => ?_)
            · refine wf_bipush (nI 8) dX9_goesIn_63 (by decide) ?_
              refine wf_istore [(4, .int (nI 8)), (3, .int (nI (g 9 2))), (2, .int (nI (g 9 3))), (0, .ref (am 0)), (1, .int (nI w))] dX9_goesIn_65 (by decide) rfl ?_
              refine wf_aload_n 3 dX9_goesIn_67 rfl ?_
              refine wf_iload_n 2 dX9_goesIn_68 rfl ?_
              refine wf_putf (C := RX9) (T := TX9) (N := 27) (ty := .int) 0 12 (wm E am (gs (eHrs g (i - g 9 3)) 9 3 (g 9 3)) y j td ++ r) tyX9 in_X9 tyX9_ok nmX9 rfl rfl (by decide) fl_X9_139 rfl (by decide +kernel) (by rfl) rfl (Nat.le_of_ble_eq_true rfl) (sf 0 (Nat.le_of_ble_eq_true rfl) (wm_put12 (g 9 3))) dX9_goesIn_69 ?_
              refine wf_aload_n 3 dX9_goesIn_72 rfl ?_
              refine wf_iload_n 1 dX9_goesIn_73 rfl ?_
              refine wf_putf (C := RX9) (T := TX9) (N := 27) (ty := .int) 0 13 (wm E am (gs (gs (eHrs g (i - g 9 3)) 9 3 (g 9 3)) 9 2 (g 9 2)) y j td ++ r) tyX9 in_X9 tyX9_ok nmX9 rfl rfl (by decide) fl_X9_142 rfl (by decide +kernel) (by rfl) rfl (Nat.le_of_ble_eq_true rfl) (sf 0 (Nat.le_of_ble_eq_true rfl) (wm_put13 (g 9 2))) dX9_goesIn_74 ?_
              refine wf_iload 0 dX9_goesIn_77 rfl ?_
              exact wf_iret .int rfl (vp_nar_int _) ⟨rfl, rfl⟩ ⟨congrArg (fun z => some (Value.int z)) (by exact absurd (c35.symm.trans c51) (by decide)), (by rw [dk_back (fun f i h h2 => eHrs_f h h2)])⟩ dX9_goesIn_79
            · have hd1 := (mGo_g hgo c51).1
              refine wf_aload_n 2 dX9_goesIn_54 rfl ?_
              refine wf_getf (C := RX9) (T := TX9) (N := 27) (v := .int (nI ((eHrs g (i - g 9 3)) 9 3))) 0 12 in_X9 rfl rfl (by decide) fl_X9_139 rfl dX9_goesIn_55 ?_
              refine wf_iconst (nI 1) dX9_goesIn_58 (by decide) ?_
              refine wf_isub (nI (((eHrs g (i - g 9 3)) 9 3) - 1)) dX9_goesIn_59 (pk_sub (by omega)) ?_
              refine wf_goto 65 dX9_goesIn_60 (by decide) ?_
              refine wf_istore [(4, .int (nI (((eHrs g (i - g 9 3)) 9 3) - 1))), (3, .int (nI (g 9 2))), (2, .int (nI (g 9 3))), (0, .ref (am 0)), (1, .int (nI w))] dX9_goesIn_65 (by decide) rfl ?_
              refine wf_aload_n 3 dX9_goesIn_67 rfl ?_
              refine wf_iload_n 2 dX9_goesIn_68 rfl ?_
              refine wf_putf (C := RX9) (T := TX9) (N := 27) (ty := .int) 0 12 (wm E am (gs (eHrs g (i - g 9 3)) 9 3 (g 9 3)) y j td ++ r) tyX9 in_X9 tyX9_ok nmX9 rfl rfl (by decide) fl_X9_139 rfl (by decide +kernel) (by rfl) rfl (Nat.le_of_ble_eq_true rfl) (sf 0 (Nat.le_of_ble_eq_true rfl) (wm_put12 (g 9 3))) dX9_goesIn_69 ?_
              refine wf_aload_n 3 dX9_goesIn_72 rfl ?_
              refine wf_iload_n 1 dX9_goesIn_73 rfl ?_
              refine wf_putf (C := RX9) (T := TX9) (N := 27) (ty := .int) 0 13 (wm E am (gs (gs (eHrs g (i - g 9 3)) 9 3 (g 9 3)) 9 2 (g 9 2)) y j td ++ r) tyX9 in_X9 tyX9_ok nmX9 rfl rfl (by decide) fl_X9_142 rfl (by decide +kernel) (by rfl) rfl (Nat.le_of_ble_eq_true rfl) (sf 0 (Nat.le_of_ble_eq_true rfl) (wm_put13 (g 9 2))) dX9_goesIn_74 ?_
              refine wf_iload 0 dX9_goesIn_77 rfl ?_
              exact wf_iret .int rfl (vp_nar_int _) ⟨rfl, rfl⟩ ⟨congrArg (fun z => some (Value.int z)) (by unfold mGi; rw [if_neg (by rw [c5]; decide), (mGo_g hgo c51).2]; exact congrArg nI (by omega)), (by rw [dk_back (fun f i h h2 => eHrs_f h h2)])⟩ dX9_goesIn_79
          · refine wf_aload_n 2 dX9_goesIn_38 rfl ?_
            refine wf_callVD (As := []) (rest := []) 0 (c_X9_goesHour hH (by omega)) kV_X9_166 rfl (by decide) (by decide) (Nat.le_of_ble_eq_true rfl) rfl rfl rfl dX9_goesIn_39 ?_
            refine wf_pop dX9_goesIn_42 rfl ?_
            refine wf_goto 21 dX9_goesIn_43 (by decide) ?_
            refine wf_sub (lv' := [(3, .int (nI (g 9 2))), (2, .int (nI (g 9 3))), (0, .ref (am 0)), (1, .int (nI w))]) [0, 1, 2, 3] rfl ?_
            refine wf_world (wm E am (eHrs g (i + 1 - g 9 3)) y j td ++ r) (by rw [show i + 1 - g 9 3 = (i - g 9 3) + 1 by omega]; rfl) ?_
            exact ih21 (i + 1) (by omega) (by omega) (by omega) (by rw [show i + 1 - g 9 3 = (i - g 9 3) + 1 by omega]; exact mGo_s hgo (by omega) c35)
    refine wf_sub (lv' := [(3, .int (nI (g 9 2))), (2, .int (nI (g 9 3))), (0, .ref (am 0)), (1, .int (nI w))]) [0, 1, 2, 3] rfl ?_
    refine wf_world (wm E am (eHrs g (g 9 3 - g 9 3)) y j td ++ r) (by rw [Nat.sub_self]; rfl) ?_
    exact L21 _ (g 9 3) (Nat.lt_succ_self _) (Nat.le_refl _) f3 (mGo_0 c5)
  · refine wf_bipush (nI 9) dX9_goesIn_8 (by decide) ?_
    exact wf_iret .int rfl (vp_nar_int _) ⟨rfl, rfl⟩ ⟨congrArg (fun z => some (Value.int z)) (by unfold mGi; rw [if_pos c5]), rfl⟩ dX9_goesIn_10
abbrev rmX9_meaningsOf : Room := { frames := 0, cells := 0, slots := 0, locals := 0 }
set_option maxHeartbeats 4000000 in
set_option maxRecDepth 100000 in
theorem c_X9_meaningsOf {l : Launch} {E : Ev} {s : Nat} {g y j : Gd} {td : Nat → Int32} {am : Nat → Nat} {r : va_W} (hI : Inv g) (hs : s < 1024) : CT l E yX9_meaningsOf cX9_meaningsOf 4 (some .int) rmX9_meaningsOf [.ref (am 0), .int (nI s)] (wm E am g y j td ++ r) (IS (some (.int (nI (mMe g s (g 9 0))))) (wm E am g y j td ++ r)) := by
  refine CT.of (lv := [(0, .ref (am 0)), (1, .int (nI s))]) false (by decide +kernel) (by decide) (Nat.le_of_ble_eq_true rfl) rfl ?_
  have f0 := hI.words
  have f1 := hI.birds
  have f2 := hI.gone
  have f3 := hI.hour
  refine wf_iconst (nI 0) dX9_meaningsOf_0 (by decide) ?_
  refine wf_istore_n [(2, .int (nI 0)), (0, .ref (am 0)), (1, .int (nI s))] dX9_meaningsOf_1 rfl (by decide) rfl ?_
  refine wf_iconst (nI 0) dX9_meaningsOf_2 (by decide) ?_
  refine wf_istore_n [(3, .int (nI 0)), (2, .int (nI 0)), (0, .ref (am 0)), (1, .int (nI s))] dX9_meaningsOf_3 rfl (by decide) rfl ?_
  have L4 : ∀ (fu4 : Nat) (n : Nat), g 9 0 - n < fu4 → (n ≤ g 9 0) → WF l E RX9 cX9_meaningsOf 4 (some .int) rmX9_meaningsOf false (fun _ => True) (QM E (wm E am g y j td ++ r) (IS (some (.int (nI (mMe g s (g 9 0))))) (wm E am g y j td ++ r)) rmX9_meaningsOf) (wm E am g y j td ++ r) 0 0 4 [(3, .int (nI n)), (2, .int (nI (mMe g s n))), (0, .ref (am 0)), (1, .int (nI s))] [] (wm E am g y j td ++ r) := by
    intro fu4
    induction fu4 with
    | zero => intro n hn; exact absurd hn (Nat.not_lt_zero _)
    | succ fu4 ih4 =>
      intro n hn hn0
      have f6 := hI.mean n
      have f7 := mMe_lt hI s n
      have f8 := mMe_sh hI s n
      have f9 := and1' (s >>> n)
      refine wf_iload_n 0 dX9_meaningsOf_4 rfl ?_
      refine wf_aload_n 2 dX9_meaningsOf_5 rfl ?_
      refine wf_getf (C := RX9) (T := TX9) (N := 27) (v := .int (nI (g 9 0))) 0 10 in_X9 rfl rfl (by decide) fl_X9_59 rfl dX9_meaningsOf_6 ?_
      refine wf_icmp_ge_n 33 dX9_meaningsOf_9 (by decide) (by omega) (by omega) (fun c9 => ?_) (fun c9 => ?_)
      · refine wf_iload_n 1 dX9_meaningsOf_33 rfl ?_
        exact wf_iret .int rfl (vp_nar_int _) ⟨rfl, rfl⟩ ⟨congrArg (fun z => some (Value.int z)) (by rw [show n = g 9 0 by omega]), rfl⟩ dX9_meaningsOf_34
      · refine wf_iload_n 1 dX9_meaningsOf_12 rfl ?_
        refine wf_iload_n 3 dX9_meaningsOf_13 rfl ?_
        refine wf_iload_n 0 dX9_meaningsOf_14 rfl ?_
        refine wf_ishr (nI (s >>> n)) dX9_meaningsOf_15 (nI_shr (by omega) (by omega)) ?_
        refine wf_iconst (nI 1) dX9_meaningsOf_16 (by decide) ?_
        refine wf_iand (nI ((s >>> n) &&& 1)) dX9_meaningsOf_17 (nI_land (Nat.lt_of_le_of_lt (Nat.shiftRight_le _ _) (by omega)) (by decide)) ?_
        refine wf_aload_n 2 dX9_meaningsOf_18 rfl ?_
        refine wf_getf (C := RX9) (T := TX9) (N := 27) (v := .ref (am 4)) 0 3 in_X9 rfl rfl (by decide) fl_X9_19 rfl dX9_meaningsOf_19 ?_
        refine wf_iload_n 0 dX9_meaningsOf_22 rfl ?_
        refine wf_iald_n (nI (g 2 n)) 4 rfl (by omega) (by decide) rfl dX9_meaningsOf_23 ?_
        refine wf_ishl (nI (((s >>> n) &&& 1) <<< (g 2 n))) dX9_meaningsOf_24 (nI_shl (by omega) (by omega)) ?_
        refine wf_ior (nI ((mMe g s n) ||| (((s >>> n) &&& 1) <<< (g 2 n)))) dX9_meaningsOf_25 (nI_lor (by omega) (by omega)) ?_
        refine wf_istore_n [(2, .int (nI ((mMe g s n) ||| (((s >>> n) &&& 1) <<< (g 2 n))))), (3, .int (nI n)), (0, .ref (am 0)), (1, .int (nI s))] dX9_meaningsOf_26 rfl (by decide) rfl ?_
        refine wf_iinc (nI (n + 1)) 1 [(3, .int (nI (n + 1))), (2, .int (nI ((mMe g s n) ||| (((s >>> n) &&& 1) <<< (g 2 n))))), (0, .ref (am 0)), (1, .int (nI s))] dX9_meaningsOf_27 rfl (nI_1 n) (by decide) rfl ?_
        refine wf_goto 4 dX9_meaningsOf_30 (by decide) ?_
        refine wf_sub (lv' := [(3, .int (nI (n + 1))), (2, .int (nI ((mMe g s n) ||| (((s >>> n) &&& 1) <<< (g 2 n))))), (0, .ref (am 0)), (1, .int (nI s))]) [0, 1, 2, 3] rfl ?_
        exact ih4 (n + 1) (by omega) (by omega)
  refine wf_sub (lv' := [(3, .int (nI 0)), (2, .int (nI 0)), (0, .ref (am 0)), (1, .int (nI s))]) [0, 1, 2, 3] rfl ?_
  exact L4 _ 0 (Nat.lt_succ_self _) (Nat.zero_le _)
abbrev rmX9_otherAt : Room := { frames := 1, cells := 0, slots := 0, locals := 21 }
set_option maxHeartbeats 4000000 in
set_option maxRecDepth 100000 in
theorem c_X9_otherAt {l : Launch} {E : Ev}  {g y j : Gd} {td : Nat → Int32} {am : Nat → Nat} {r : va_W} (hI : Inv g) (hy : ∀ i, y 2 i ≤ 9) (hy2 : y 0 2 ≤ 10) : CT l E yX9_otherAt cX9_otherAt 3 (some .int) rmX9_otherAt [.ref (am 0)] (wm E am g y j td ++ r) (IS (some (.int (eO (eOther g (y 2) (y 0 2) (g 9 0) 0 0)))) (wm E am g y j td ++ r)) := by
  refine CT.of (lv := [(0, .ref (am 0))]) false (by decide +kernel) (by decide) (Nat.le_of_ble_eq_true rfl) rfl ?_
  have f0 := hI.words
  have f1 := hI.birds
  have f2 := hI.gone
  have f3 := hI.hour
  refine wf_iconst (nI 0) dX9_otherAt_0 (by decide) ?_
  refine wf_istore_n [(1, .int (nI 0)), (0, .ref (am 0))] dX9_otherAt_1 rfl (by decide) rfl ?_
  refine wf_iconst (nI 0) dX9_otherAt_2 (by decide) ?_
  refine wf_istore_n [(2, .int (nI 0)), (1, .int (nI 0)), (0, .ref (am 0))] dX9_otherAt_3 rfl (by decide) rfl ?_
  have L4 : ∀ (fu4 : Nat) (n : Nat) (p : Nat), g 9 0 - n < fu4 → (n ≤ g 9 0) → (p ≤ n) → (p ≤ y 0 2) → (eOther g (y 2) (y 0 2) (g 9 0 - n) n p = eOther g (y 2) (y 0 2) (g 9 0) 0 0) → WF l E RX9 cX9_otherAt 3 (some .int) rmX9_otherAt false (fun _ => True) (QM E (wm E am g y j td ++ r) (IS (some (.int (eO (eOther g (y 2) (y 0 2) (g 9 0) 0 0)))) (wm E am g y j td ++ r)) rmX9_otherAt) (wm E am g y j td ++ r) 0 0 4 [(2, .int (nI n)), (1, .int (nI p)), (0, .ref (am 0))] [] (wm E am g y j td ++ r) := by
    intro fu4
    induction fu4 with
    | zero => intro n p hn; exact absurd hn (Nat.not_lt_zero _)
    | succ fu4 ih4 =>
      intro n p hn hn0 hp0 hp1 ho
      have f6 := hI.mean n
      have f7 := hy p
      refine wf_iload_n 0 dX9_otherAt_4 rfl ?_
      refine wf_aload_n 2 dX9_otherAt_5 rfl ?_
      refine wf_getf (C := RX9) (T := TX9) (N := 27) (v := .int (nI (g 9 0))) 0 10 in_X9 rfl rfl (by decide) fl_X9_59 rfl dX9_otherAt_6 ?_
      refine wf_icmp_ge_n 57 dX9_otherAt_9 (by decide) (by omega) (by omega) (fun c9 => ?_) (fun c9 => ?_)
      · refine wf_iload_n 1 dX9_otherAt_57 rfl ?_
        refine wf_aload_n 2 dX9_otherAt_58 rfl ?_
        refine wf_getf (C := RX9) (T := TX9) (N := 27) (v := .int (nI (y 0 2))) 0 26 in_X9 rfl rfl (by decide) fl_X9_200 rfl dX9_otherAt_59 ?_
        refine wf_icmp_ge_n 69 dX9_otherAt_62 (by decide) (by omega) (by omega) (fun c62 => ?_) (fun c62 => ?_)
        · refine wf_bipush (-9) dX9_otherAt_69 (by decide) ?_
          exact wf_iret .int rfl (vp_nar_int _) ⟨rfl, rfl⟩ ⟨congrArg (fun z => some (Value.int z)) (by rw [← ho, show g 9 0 - n = 0 by omega]; show _ = eO (if _ then _ else _); rw [if_neg (by omega)]; rfl), rfl⟩ dX9_otherAt_71
        · refine wf_iload_n 1 dX9_otherAt_65 rfl ?_
          refine wf_goto 71 dX9_otherAt_66 (by decide) ?_
          exact wf_iret .int rfl (vp_nar_int _) ⟨rfl, rfl⟩ ⟨congrArg (fun z => some (Value.int z)) (by rw [← ho, show g 9 0 - n = 0 by omega]; show _ = eO (if _ then _ else _); rw [if_pos (by omega)]; rfl), rfl⟩ dX9_otherAt_71
      · refine wf_aload_n 2 dX9_otherAt_12 rfl ?_
        refine wf_iload_n 0 dX9_otherAt_13 rfl ?_
        refine wf_callVD (As := [.int (nI n)]) (rest := []) 0 (c_X9_isGone hI (by omega)) kV_X9_148 rfl (by decide) (by decide) (Nat.le_of_ble_eq_true rfl) rfl rfl rfl dX9_otherAt_14 ?_
        refine wf_if_eq_b 23 dX9_otherAt_17 (by decide) (fun c17 => ?_) (fun c17 => ?_)
        · refine wf_iload_n 1 dX9_otherAt_23 rfl ?_
          refine wf_aload_n 2 dX9_otherAt_24 rfl ?_
          refine wf_getf (C := RX9) (T := TX9) (N := 27) (v := .int (nI (y 0 2))) 0 26 in_X9 rfl rfl (by decide) fl_X9_200 rfl dX9_otherAt_25 ?_
          refine wf_icmp_eq_n 46 dX9_otherAt_28 (by decide) (by omega) (by omega) (fun c28 => ?_) (fun c28 => ?_)
          · refine wf_iload_n 1 dX9_otherAt_46 rfl ?_
            exact wf_iret .int rfl (vp_nar_int _) ⟨rfl, rfl⟩ ⟨congrArg (fun z => some (Value.int z)) (by rw [← ho, show g 9 0 - n = (g 9 0 - (n + 1)) + 1 by omega]; show _ = eO (if _ then _ else if _ then _ else _); rw [if_neg (by rw [c17]; decide), if_pos (Or.inl (by omega))]; rfl), rfl⟩ dX9_otherAt_47
          · refine wf_aload_n 2 dX9_otherAt_31 rfl ?_
            refine wf_getf (C := RX9) (T := TX9) (N := 27) (v := .ref (am 16)) 0 25 in_X9 rfl rfl (by decide) fl_X9_55 rfl dX9_otherAt_32 ?_
            refine wf_iload_n 1 dX9_otherAt_35 rfl ?_
            refine wf_iald_n (nI (y 2 p)) 16 rfl (by omega) (by decide) rfl dX9_otherAt_36 ?_
            refine wf_aload_n 2 dX9_otherAt_37 rfl ?_
            refine wf_getf (C := RX9) (T := TX9) (N := 27) (v := .ref (am 4)) 0 3 in_X9 rfl rfl (by decide) fl_X9_19 rfl dX9_otherAt_38 ?_
            refine wf_iload_n 0 dX9_otherAt_41 rfl ?_
            refine wf_iald_n (nI (g 2 n)) 4 rfl (by omega) (by decide) rfl dX9_otherAt_42 ?_
            refine wf_icmp_eq_n 48 dX9_otherAt_43 (by decide) (by omega) (by omega) (fun c43 => ?_) (fun c43 => ?_)
            · refine wf_iinc (nI (p + 1)) 1 [(1, .int (nI (p + 1))), (2, .int (nI n)), (0, .ref (am 0))] dX9_otherAt_48 rfl (nI_1 p) (by decide) rfl ?_
              refine wf_iinc (nI (n + 1)) 1 [(2, .int (nI (n + 1))), (1, .int (nI (p + 1))), (0, .ref (am 0))] dX9_otherAt_51 rfl (nI_1 n) (by decide) rfl ?_
              refine wf_goto 4 dX9_otherAt_54 (by decide) ?_
              refine wf_sub (lv' := [(2, .int (nI (n + 1))), (1, .int (nI (p + 1))), (0, .ref (am 0))]) [0, 1, 2] rfl ?_
              exact ih4 (n + 1) (p + 1) (by omega) (by omega) (by omega) (by omega) (by rw [← ho, show g 9 0 - n = (g 9 0 - (n + 1)) + 1 by omega]; symm; show (if _ then _ else if _ then _ else _) = _; rw [if_neg (by rw [c17]; decide), if_neg (by omega)])
            · refine wf_iload_n 1 dX9_otherAt_46 rfl ?_
              exact wf_iret .int rfl (vp_nar_int _) ⟨rfl, rfl⟩ ⟨congrArg (fun z => some (Value.int z)) (by rw [← ho, show g 9 0 - n = (g 9 0 - (n + 1)) + 1 by omega]; show _ = eO (if _ then _ else if _ then _ else _); rw [if_neg (by rw [c17]; decide), if_pos (Or.inr c43)]; rfl), rfl⟩ dX9_otherAt_47
        · refine wf_goto 51 dX9_otherAt_20 (by decide) ?_
          refine wf_iinc (nI (n + 1)) 0 [(2, .int (nI (n + 1))), (1, .int (nI p)), (0, .ref (am 0))] dX9_otherAt_51 rfl (nI_1 n) (by decide) rfl ?_
          refine wf_goto 4 dX9_otherAt_54 (by decide) ?_
          refine wf_sub (lv' := [(2, .int (nI (n + 1))), (1, .int (nI p)), (0, .ref (am 0))]) [0, 1, 2] rfl ?_
          exact ih4 (n + 1) p (by omega) (by omega) (by omega) (by omega) (by rw [← ho, show g 9 0 - n = (g 9 0 - (n + 1)) + 1 by omega]; symm; show (if _ then _ else if _ then _ else _) = _; rw [if_pos c17])
  refine wf_sub (lv' := [(2, .int (nI 0)), (1, .int (nI 0)), (0, .ref (am 0))]) [0, 1, 2] rfl ?_
  exact L4 _ 0 0 (Nat.lt_succ_self _) (Nat.zero_le _) (Nat.zero_le _) (Nat.zero_le _) rfl
