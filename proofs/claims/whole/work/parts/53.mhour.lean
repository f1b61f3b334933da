abbrev rmX9_mayEat : Room := { frames := 1, cells := 0, slots := 0, locals := 21 }
set_option maxHeartbeats 4000000 in
set_option maxRecDepth 100000 in
theorem c_X9_mayEat {l : Launch} {E : Ev} {b w : Nat} {g y j : Gd} {td : Nat → Int32} {am : Nat → Nat} {r : va_W} (hI : Inv g) (hb : b < 4) (hw : w < 10) (h8 : g 9 3 < 8) : CT l E yX9_mayEat cX9_mayEat 3 (some .boolean) rmX9_mayEat [.ref (am 0), .int (nI b), .int (nI w)] (wm E am g y j td ++ r) (IS (some (.int (bI (mOk g b w)))) (wm E am g y j td ++ r)) := by
  refine CT.of (lv := [(0, .ref (am 0)), (1, .int (nI b)), (2, .int (nI w))]) false (by decide +kernel) (by decide) (Nat.le_of_ble_eq_true rfl) rfl ?_
  have f0 := hI.words
  have f1 := hI.birds
  have f2 := hI.gone
  have f3 := hI.hour
  have f4 := hI.wat (g 9 3)
  have f5 := hI.str w
  have f6 := hI.taste b
  have f7 := hI.kind b
  refine wf_aload_n 0 dX9_mayEat_0 rfl ?_
  refine wf_iload_n 2 dX9_mayEat_1 rfl ?_
  refine wf_callVD (As := [.int (nI w)]) (rest := []) 0 (c_X9_isGone hI (by omega)) kV_X9_148 rfl (by decide) (by decide) (Nat.le_of_ble_eq_true rfl) rfl rfl rfl dX9_mayEat_2 ?_
  refine wf_if_ne_b 39 dX9_mayEat_5 (by decide) (fun c5 => ?_) (fun c5 => ?_)
  · refine wf_iconst (nI 0) dX9_mayEat_39 (by decide) ?_
    exact wf_iret .boolean rfl (by decide) ⟨rfl, rfl⟩ ⟨congrArg (fun z => some (Value.int z)) (b1_zero (by simp [mOk, eMay, eWat, eRch, h8, c5])), rfl⟩ dX9_mayEat_40
  · refine wf_aload_n 0 dX9_mayEat_8 rfl ?_
    refine wf_getf (C := RX9) (T := TX9) (N := 27) (v := .ref (am 10)) 0 9 in_X9 rfl rfl (by decide) fl_X9_37 rfl dX9_mayEat_9 ?_
    refine wf_aload_n 0 dX9_mayEat_12 rfl ?_
    refine wf_getf (C := RX9) (T := TX9) (N := 27) (v := .int (nI (g 9 3))) 0 12 in_X9 rfl rfl (by decide) fl_X9_139 rfl dX9_mayEat_13 ?_
    refine wf_iald_n (nI (g 8 (g 9 3))) 10 rfl (by omega) (by decide) rfl dX9_mayEat_16 ?_
    refine wf_iload_n 2 dX9_mayEat_17 rfl ?_
    refine wf_ishr (nI ((g 8 (g 9 3)) >>> w)) dX9_mayEat_18 (nI_shr (by omega) (by omega)) ?_
    refine wf_iconst (nI 1) dX9_mayEat_19 (by decide) ?_
    refine wf_iand (nI (((g 8 (g 9 3)) >>> w) &&& 1)) dX9_mayEat_20 (nI_land (Nat.lt_of_le_of_lt (Nat.shiftRight_le _ _) (by omega)) (by decide)) ?_
    refine wf_iconst (nI 1) dX9_mayEat_21 (by decide) ?_
    refine wf_icmp_eq_n 39 dX9_mayEat_22 (by decide) (Nat.lt_trans (and1 _) (by decide)) (by decide) (fun c22 => ?_) (fun c22 => ?_)
    · refine wf_iconst (nI 0) dX9_mayEat_39 (by decide) ?_
      exact wf_iret .boolean rfl (by decide) ⟨rfl, rfl⟩ ⟨congrArg (fun z => some (Value.int z)) (b1_zero (by simp [mOk, eMay, eWat, eRch, h8, c5, c22])), rfl⟩ dX9_mayEat_40
    · refine wf_aload_n 0 dX9_mayEat_25 rfl ?_
      refine wf_iload_n 2 dX9_mayEat_26 rfl ?_
      refine wf_callVD (As := [.int (nI w)]) (rest := []) 0 (c_X9_strengthOf hI (by omega)) kV_X9_151 rfl (by decide) (by decide) (Nat.le_of_ble_eq_true rfl) rfl rfl rfl dX9_mayEat_27 ?_
      refine wf_aload_n 0 dX9_mayEat_30 rfl ?_
      refine wf_getf (C := RX9) (T := TX9) (N := 27) (v := .ref (am 6)) 0 5 in_X9 rfl rfl (by decide) fl_X9_25 rfl dX9_mayEat_31 ?_
      refine wf_iload_n 1 dX9_mayEat_34 rfl ?_
      refine wf_iald_n (nI (g 4 b)) 6 rfl (by omega) (by decide) rfl dX9_mayEat_35 ?_
      refine wf_icmp_ge_n 41 dX9_mayEat_36 (by decide) (by omega) (by omega) (fun c36 => ?_) (fun c36 => ?_)
      · refine wf_aload_n 0 dX9_mayEat_41 rfl ?_
        refine wf_getf (C := RX9) (T := TX9) (N := 27) (v := .ref (am 5)) 0 4 in_X9 rfl rfl (by decide) fl_X9_22 rfl dX9_mayEat_42 ?_
        refine wf_iload_n 1 dX9_mayEat_45 rfl ?_
        refine wf_iald_n (nI (g 3 b)) 5 rfl (by omega) (by decide) rfl dX9_mayEat_46 ?_
        refine wf_iconst (nI 5) dX9_mayEat_47 (by decide) ?_
        refine wf_icmp_ne_n 65 dX9_mayEat_48 (by decide) (by omega) (by omega) (fun c48 => ?_) (fun c48 => ?_)
        · refine wf_iconst (nI 1) dX9_mayEat_65 (by decide) ?_
          refine wf_goto 70 dX9_mayEat_66 (by decide) ?_
          exact wf_iret .boolean rfl (by decide) ⟨rfl, rfl⟩ ⟨congrArg (fun z => some (Value.int z)) (b1_one (by rw [mOk_t h8 c5 c22 (by omega)]; simp [eRch, c48])), rfl⟩ dX9_mayEat_70
        · refine wf_iload_n 2 dX9_mayEat_51 rfl ?_
          refine wf_if_eq_n 65 dX9_mayEat_52 (by decide) (by omega) (fun c52 => ?_) (fun c52 => ?_)
          · refine wf_iconst (nI 1) dX9_mayEat_65 (by decide) ?_
            refine wf_goto 70 dX9_mayEat_66 (by decide) ?_
            exact wf_iret .boolean rfl (by decide) ⟨rfl, rfl⟩ ⟨congrArg (fun z => some (Value.int z)) (b1_one (by rw [mOk_t h8 c5 c22 (by omega)]; simp [eRch, c48, c52])), rfl⟩ dX9_mayEat_70
          · refine wf_aload_n 0 dX9_mayEat_55 rfl ?_
            refine wf_iload_n 2 dX9_mayEat_56 rfl ?_
            refine wf_iconst (nI 1) dX9_mayEat_57 (by decide) ?_
            refine wf_isub (nI (w - 1)) dX9_mayEat_58 (pk_sub (by omega)) ?_
            refine wf_callVD (As := [.int (nI (w - 1))]) (rest := []) 0 (c_X9_isGone hI (by omega)) kV_X9_148 rfl (by decide) (by decide) (Nat.le_of_ble_eq_true rfl) rfl rfl rfl dX9_mayEat_59 ?_
            refine wf_if_eq_b 69 dX9_mayEat_62 (by decide) (fun c62 => ?_) (fun c62 => ?_)
            · refine wf_iconst (nI 0) dX9_mayEat_69 (by decide) ?_
              exact wf_iret .boolean rfl (by decide) ⟨rfl, rfl⟩ ⟨congrArg (fun z => some (Value.int z)) (b1_zero (by rw [mOk_t h8 c5 c22 (by omega)]; simp [eRch, c48, c52, c62])), rfl⟩ dX9_mayEat_70
            · refine wf_iconst (nI 1) dX9_mayEat_65 (by decide) ?_
              refine wf_goto 70 dX9_mayEat_66 (by decide) ?_
              exact wf_iret .boolean rfl (by decide) ⟨rfl, rfl⟩ ⟨congrArg (fun z => some (Value.int z)) (b1_one (by rw [mOk_t h8 c5 c22 (by omega)]; simp [eRch, c48, c52, c62])), rfl⟩ dX9_mayEat_70
      · refine wf_iconst (nI 0) dX9_mayEat_39 (by decide) ?_
        exact wf_iret .boolean rfl (by decide) ⟨rfl, rfl⟩ ⟨congrArg (fun z => some (Value.int z)) (b1_zero (by have c36n : ¬ g 4 b ≤ eStr g w := (by omega); simp [mOk, eMay, eWat, eRch, h8, c5, c22, c36n])), rfl⟩ dX9_mayEat_40
abbrev rmX9_isRather : Room := { frames := 1, cells := 0, slots := 0, locals := 21 }
set_option maxHeartbeats 4000000 in
set_option maxRecDepth 100000 in
theorem c_X9_isRather {l : Launch} {E : Ev} {b w c : Nat} {g y j : Gd} {td : Nat → Int32} {am : Nat → Nat} {r : va_W} (hI : Inv g) (hb : b < 4) (hw : w < 10) (hc : c < 10) : CT l E yX9_isRather cX9_isRather 4 (some .boolean) rmX9_isRather [.ref (am 0), .int (nI b), .int (nI w), .int (nI c)] (wm E am g y j td ++ r) (IS (some (.int (bI (ePrf g (g 3 b) w c)))) (wm E am g y j td ++ r)) := by
  refine CT.of (lv := [(0, .ref (am 0)), (1, .int (nI b)), (2, .int (nI w)), (3, .int (nI c))]) false (by decide +kernel) (by decide) (Nat.le_of_ble_eq_true rfl) rfl ?_
  have f0 := hI.words
  have f1 := hI.birds
  have f2 := hI.gone
  have f3 := hI.hour
  have f5 := hI.str w
  have f6 := hI.str c
  have f7 := hI.kind b
  refine wf_aload_n 0 dX9_isRather_0 rfl ?_
  refine wf_getf (C := RX9) (T := TX9) (N := 27) (v := .ref (am 5)) 0 4 in_X9 rfl rfl (by decide) fl_X9_22 rfl dX9_isRather_1 ?_
  refine wf_iload_n 1 dX9_isRather_4 rfl ?_
  refine wf_iald_n (nI (g 3 b)) 5 rfl (by omega) (by decide) rfl dX9_isRather_5 ?_
  by_cases s6_1 : g 3 b = 1
  · refine wf_tableIn 40 dX9_isRather_6 (by rw [s6_1]; decide) (by rw [s6_1]; decide) (by rw [s6_1]; rfl) (by decide) ?_
    refine wf_iconst (nI 0) dX9_isRather_40 (by decide) ?_
    exact wf_iret .boolean rfl (by decide) ⟨rfl, rfl⟩ ⟨congrArg (fun z => some (Value.int z)) (b1_zero (by unfold ePrf; rw [s6_1]; rfl)), rfl⟩ dX9_isRather_41
  by_cases s6_2 : g 3 b = 2
  · refine wf_tableIn 44 dX9_isRather_6 (by rw [s6_2]; decide) (by rw [s6_2]; decide) (by rw [s6_2]; rfl) (by decide) ?_
    refine wf_aload_n 0 dX9_isRather_44 rfl ?_
    refine wf_iload_n 2 dX9_isRather_45 rfl ?_
    refine wf_callVD (As := [.int (nI w)]) (rest := []) 0 (c_X9_strengthOf hI (by omega)) kV_X9_151 rfl (by decide) (by decide) (Nat.le_of_ble_eq_true rfl) rfl rfl rfl dX9_isRather_46 ?_
    refine wf_aload_n 0 dX9_isRather_49 rfl ?_
    refine wf_iload_n 3 dX9_isRather_50 rfl ?_
    refine wf_callVD (As := [.int (nI c)]) (rest := [.int (nI (eStr g w))]) 0 (c_X9_strengthOf hI (by omega)) kV_X9_151 rfl (by decide) (by decide) (Nat.le_of_ble_eq_true rfl) rfl rfl rfl dX9_isRather_51 ?_
    refine wf_icmp_ge_n 61 dX9_isRather_54 (by decide) (by omega) (by omega) (fun c54 => ?_) (fun c54 => ?_)
    · refine wf_iconst (nI 0) dX9_isRather_61 (by decide) ?_
      exact wf_iret .boolean rfl (by decide) ⟨rfl, rfl⟩ ⟨congrArg (fun z => some (Value.int z)) (b1_zero (by unfold ePrf; rw [s6_2]; simp; omega)), rfl⟩ dX9_isRather_62
    · refine wf_iconst (nI 1) dX9_isRather_57 (by decide) ?_
      refine wf_goto 62 dX9_isRather_58 (by decide) ?_
      exact wf_iret .boolean rfl (by decide) ⟨rfl, rfl⟩ ⟨congrArg (fun z => some (Value.int z)) (b1_one (by unfold ePrf; rw [s6_2]; simp; omega)), rfl⟩ dX9_isRather_62
  by_cases s6_3 : g 3 b = 3
  · refine wf_tableIn 42 dX9_isRather_6 (by rw [s6_3]; decide) (by rw [s6_3]; decide) (by rw [s6_3]; rfl) (by decide) ?_
    refine wf_iconst (nI 1) dX9_isRather_42 (by decide) ?_
    exact wf_iret .boolean rfl (by decide) ⟨rfl, rfl⟩ ⟨congrArg (fun z => some (Value.int z)) (b1_one (by unfold ePrf; rw [s6_3]; rfl)), rfl⟩ dX9_isRather_43
  by_cases s6_4 : g 3 b = 4
  · refine wf_tableIn 63 dX9_isRather_6 (by rw [s6_4]; decide) (by rw [s6_4]; decide) (by rw [s6_4]; rfl) (by decide) ?_
    refine wf_aload_n 0 dX9_isRather_63 rfl ?_
    refine wf_iload_n 2 dX9_isRather_64 rfl ?_
    refine wf_callVD (As := [.int (nI w)]) (rest := []) 0 (c_X9_strengthOf hI (by omega)) kV_X9_151 rfl (by decide) (by decide) (Nat.le_of_ble_eq_true rfl) rfl rfl rfl dX9_isRather_65 ?_
    refine wf_aload_n 0 dX9_isRather_68 rfl ?_
    refine wf_iload_n 3 dX9_isRather_69 rfl ?_
    refine wf_callVD (As := [.int (nI c)]) (rest := [.int (nI (eStr g w))]) 0 (c_X9_strengthOf hI (by omega)) kV_X9_151 rfl (by decide) (by decide) (Nat.le_of_ble_eq_true rfl) rfl rfl rfl dX9_isRather_70 ?_
    refine wf_icmp_le_n 80 dX9_isRather_73 (by decide) (by omega) (by omega) (fun c73 => ?_) (fun c73 => ?_)
    · refine wf_iconst (nI 0) dX9_isRather_80 (by decide) ?_
      exact wf_iret .boolean rfl (by decide) ⟨rfl, rfl⟩ ⟨congrArg (fun z => some (Value.int z)) (b1_zero (by unfold ePrf; rw [s6_4]; simp; omega)), rfl⟩ dX9_isRather_81
    · refine wf_iconst (nI 1) dX9_isRather_76 (by decide) ?_
      refine wf_goto 81 dX9_isRather_77 (by decide) ?_
      exact wf_iret .boolean rfl (by decide) ⟨rfl, rfl⟩ ⟨congrArg (fun z => some (Value.int z)) (b1_one (by unfold ePrf; rw [s6_4]; simp; omega)), rfl⟩ dX9_isRather_81
  by_cases s6_5 : g 3 b = 5
  · refine wf_tableIn 44 dX9_isRather_6 (by rw [s6_5]; decide) (by rw [s6_5]; decide) (by rw [s6_5]; rfl) (by decide) ?_
    refine wf_aload_n 0 dX9_isRather_44 rfl ?_
    refine wf_iload_n 2 dX9_isRather_45 rfl ?_
    refine wf_callVD (As := [.int (nI w)]) (rest := []) 0 (c_X9_strengthOf hI (by omega)) kV_X9_151 rfl (by decide) (by decide) (Nat.le_of_ble_eq_true rfl) rfl rfl rfl dX9_isRather_46 ?_
    refine wf_aload_n 0 dX9_isRather_49 rfl ?_
    refine wf_iload_n 3 dX9_isRather_50 rfl ?_
    refine wf_callVD (As := [.int (nI c)]) (rest := [.int (nI (eStr g w))]) 0 (c_X9_strengthOf hI (by omega)) kV_X9_151 rfl (by decide) (by decide) (Nat.le_of_ble_eq_true rfl) rfl rfl rfl dX9_isRather_51 ?_
    refine wf_icmp_ge_n 61 dX9_isRather_54 (by decide) (by omega) (by omega) (fun c54 => ?_) (fun c54 => ?_)
    · refine wf_iconst (nI 0) dX9_isRather_61 (by decide) ?_
      exact wf_iret .boolean rfl (by decide) ⟨rfl, rfl⟩ ⟨congrArg (fun z => some (Value.int z)) (b1_zero (by unfold ePrf; rw [s6_5]; simp; omega)), rfl⟩ dX9_isRather_62
    · refine wf_iconst (nI 1) dX9_isRather_57 (by decide) ?_
      refine wf_goto 62 dX9_isRather_58 (by decide) ?_
      exact wf_iret .boolean rfl (by decide) ⟨rfl, rfl⟩ ⟨congrArg (fun z => some (Value.int z)) (b1_one (by unfold ePrf; rw [s6_5]; simp; omega)), rfl⟩ dX9_isRather_62
  refine wf_tableOut 63 dX9_isRather_6 (by rw [nI_toInt (by omega)]; omega) (by decide) ?_
  refine wf_aload_n 0 dX9_isRather_63 rfl ?_
  refine wf_iload_n 2 dX9_isRather_64 rfl ?_
  refine wf_callVD (As := [.int (nI w)]) (rest := []) 0 (c_X9_strengthOf hI (by omega)) kV_X9_151 rfl (by decide) (by decide) (Nat.le_of_ble_eq_true rfl) rfl rfl rfl dX9_isRather_65 ?_
  refine wf_aload_n 0 dX9_isRather_68 rfl ?_
  refine wf_iload_n 3 dX9_isRather_69 rfl ?_
  refine wf_callVD (As := [.int (nI c)]) (rest := [.int (nI (eStr g w))]) 0 (c_X9_strengthOf hI (by omega)) kV_X9_151 rfl (by decide) (by decide) (Nat.le_of_ble_eq_true rfl) rfl rfl rfl dX9_isRather_70 ?_
  refine wf_icmp_le_n 80 dX9_isRather_73 (by decide) (by omega) (by omega) (fun c73 => ?_) (fun c73 => ?_)
  · refine wf_iconst (nI 0) dX9_isRather_80 (by decide) ?_
    exact wf_iret .boolean rfl (by decide) ⟨rfl, rfl⟩ ⟨congrArg (fun z => some (Value.int z)) (b1_zero (by unfold ePrf; rw [if_neg s6_1, if_neg s6_3, if_neg (by omega)]; simp; omega)), rfl⟩ dX9_isRather_81
  · refine wf_iconst (nI 1) dX9_isRather_76 (by decide) ?_
    refine wf_goto 81 dX9_isRather_77 (by decide) ?_
    exact wf_iret .boolean rfl (by decide) ⟨rfl, rfl⟩ ⟨congrArg (fun z => some (Value.int z)) (b1_one (by unfold ePrf; rw [if_neg s6_1, if_neg s6_3, if_neg (by omega)]; simp; omega)), rfl⟩ dX9_isRather_81
abbrev rmX9_eatsBy : Room := { frames := 2, cells := 0, slots := 0, locals := 44 }
set_option maxHeartbeats 4000000 in
set_option maxRecDepth 100000 in
theorem c_X9_eatsBy {l : Launch} {E : Ev} {b : Nat} {g y j : Gd} {td : Nat → Int32} {am : Nat → Nat} {r : va_W} (hI : Inv g) (hb : b < 4) (h8 : g 9 3 < 8) : CT l E yX9_eatsBy cX9_eatsBy 4 (some .int) rmX9_eatsBy [.ref (am 0), .int (nI b)] (wm E am g y j td ++ r) (IS (some (.int (eO (eCho g (g 3 b) (g 4 b))))) (wm E am g y j td ++ r)) := by
  refine CT.of (lv := [(0, .ref (am 0)), (1, .int (nI b))]) false (by decide +kernel) (by decide) (Nat.le_of_ble_eq_true rfl) rfl ?_
  have f0 := hI.words
  have f1 := hI.birds
  have f2 := hI.gone
  have f3 := hI.hour
  refine wf_bipush (-9) dX9_eatsBy_0 (by decide) ?_
  refine wf_istore_n [(2, .int (-9)), (0, .ref (am 0)), (1, .int (nI b))] dX9_eatsBy_2 rfl (by decide) rfl ?_
  refine wf_iconst (nI 0) dX9_eatsBy_3 (by decide) ?_
  refine wf_istore_n [(3, .int (nI 0)), (2, .int (-9)), (0, .ref (am 0)), (1, .int (nI b))] dX9_eatsBy_4 rfl (by decide) rfl ?_
  have L5 : ∀ (fu5 : Nat) (n : Nat), g 9 0 - n < fu5 → (n ≤ g 9 0) → WF l E RX9 cX9_eatsBy 4 (some .int) rmX9_eatsBy false (fun _ => True) (QM E (wm E am g y j td ++ r) (IS (some (.int (eO (eCho g (g 3 b) (g 4 b))))) (wm E am g y j td ++ r)) rmX9_eatsBy) (wm E am g y j td ++ r) 0 0 5 [(3, .int (nI n)), (2, .int (eO (eCh g (g 3 b) (g 4 b) n))), (0, .ref (am 0)), (1, .int (nI b))] [] (wm E am g y j td ++ r) := by
    intro fu5
    induction fu5 with
    | zero => intro n hn; exact absurd hn (Nat.not_lt_zero _)
    | succ fu5 ih5 =>
      intro n hn hn0
      refine wf_iload_n 0 dX9_eatsBy_5 rfl ?_
      refine wf_aload_n 2 dX9_eatsBy_6 rfl ?_
      refine wf_getf (C := RX9) (T := TX9) (N := 27) (v := .int (nI (g 9 0))) 0 10 in_X9 rfl rfl (by decide) fl_X9_59 rfl dX9_eatsBy_7 ?_
      refine wf_icmp_ge_n 44 dX9_eatsBy_10 (by decide) (by omega) (by omega) (fun c10 => ?_) (fun c10 => ?_)
      · refine wf_iload_n 1 dX9_eatsBy_44 rfl ?_
        exact wf_iret .int rfl (vp_nar_int _) ⟨rfl, rfl⟩ ⟨congrArg (fun z => some (Value.int z)) (by rw [show n = g 9 0 by omega]; rfl), rfl⟩ dX9_eatsBy_45
      · refine wf_aload_n 2 dX9_eatsBy_13 rfl ?_
        refine wf_iload_n 3 dX9_eatsBy_14 rfl ?_
        refine wf_iload_n 0 dX9_eatsBy_15 rfl ?_
        refine wf_callVD (As := [.int (nI b), .int (nI n)]) (rest := []) 0 (c_X9_mayEat hI (by omega) (by omega) h8) kV_X9_154 rfl (by decide) (by decide) (Nat.le_of_ble_eq_true rfl) rfl rfl rfl dX9_eatsBy_16 ?_
        refine wf_if_eq_b 38 dX9_eatsBy_19 (by decide) (fun c19 => ?_) (fun c19 => ?_)
        · refine wf_iinc (nI (n + 1)) 0 [(3, .int (nI (n + 1))), (2, .int (eO (eCh g (g 3 b) (g 4 b) n))), (0, .ref (am 0)), (1, .int (nI b))] dX9_eatsBy_38 rfl (nI_1 n) (by decide) rfl ?_
          refine wf_goto 5 dX9_eatsBy_41 (by decide) ?_
          refine wf_sub (lv' := [(3, .int (nI (n + 1))), (2, .int (eO (eCh g (g 3 b) (g 4 b) n))), (0, .ref (am 0)), (1, .int (nI b))]) [0, 1, 2, 3] rfl ?_
          rw [show eO (eCh g (g 3 b) (g 4 b) n) = eO (eCh g (g 3 b) (g 4 b) (n + 1)) from congrArg eO (mS_no c19).symm]
          exact ih5 (n + 1) (by omega) (by omega)
        · rcases hco : eCh g (g 3 b) (g 4 b) n with _ | c0
          · refine wf_iload_n 1 dX9_eatsBy_22 rfl ?_
            refine wf_if_lt 36 dX9_eatsBy_23 (by decide) (fun c23 => ?_) (fun c23 => ?_)
            · refine wf_iload_n 0 dX9_eatsBy_36 rfl ?_
              refine wf_istore_n [(2, .int (nI n)), (3, .int (nI n)), (0, .ref (am 0)), (1, .int (nI b))] dX9_eatsBy_37 rfl (by decide) rfl ?_
              refine wf_iinc (nI (n + 1)) 1 [(3, .int (nI (n + 1))), (2, .int (nI n)), (0, .ref (am 0)), (1, .int (nI b))] dX9_eatsBy_38 rfl (nI_1 n) (by decide) rfl ?_
              refine wf_goto 5 dX9_eatsBy_41 (by decide) ?_
              refine wf_sub (lv' := [(3, .int (nI (n + 1))), (2, .int (nI n)), (0, .ref (am 0)), (1, .int (nI b))]) [0, 1, 2, 3] rfl ?_
              refine wf_lvc [(3, .int (nI (n + 1))), (2, .int (eO (eCh g (g 3 b) (g 4 b) (n + 1)))), (0, .ref (am 0)), (1, .int (nI b))] (by rw [mS_new c19 hco]; rfl) ?_
              exact ih5 (n + 1) (by omega) (by omega)
            · exact absurd (show eO none < 0 by decide) c23
          · have hc0 := eCh_lt _ _ _ _ c0 hco
            refine wf_iload_n 1 dX9_eatsBy_22 rfl ?_
            refine wf_if_lt 36 dX9_eatsBy_23 (by decide) (fun c23 => ?_) (fun c23 => ?_)
            · exact absurd c23 (Int32.not_lt.mpr (nI_pos' (by omega)))
            · refine wf_aload_n 2 dX9_eatsBy_26 rfl ?_
              refine wf_iload_n 3 dX9_eatsBy_27 rfl ?_
              refine wf_iload_n 0 dX9_eatsBy_28 rfl ?_
              refine wf_iload_n 1 dX9_eatsBy_29 rfl ?_
              refine wf_callVD (As := [.int (nI b), .int (nI n), .int (nI c0)]) (rest := []) 0 (c_X9_isRather hI (by omega) (by omega) (by omega)) kV_X9_157 rfl (by decide) (by decide) (Nat.le_of_ble_eq_true rfl) rfl rfl rfl dX9_eatsBy_30 ?_
              refine wf_if_eq_b 38 dX9_eatsBy_33 (by decide) (fun c33 => ?_) (fun c33 => ?_)
              · refine wf_iinc (nI (n + 1)) 0 [(3, .int (nI (n + 1))), (2, .int (nI c0)), (0, .ref (am 0)), (1, .int (nI b))] dX9_eatsBy_38 rfl (nI_1 n) (by decide) rfl ?_
                refine wf_goto 5 dX9_eatsBy_41 (by decide) ?_
                refine wf_sub (lv' := [(3, .int (nI (n + 1))), (2, .int (nI c0)), (0, .ref (am 0)), (1, .int (nI b))]) [0, 1, 2, 3] rfl ?_
                refine wf_lvc [(3, .int (nI (n + 1))), (2, .int (eO (eCh g (g 3 b) (g 4 b) (n + 1)))), (0, .ref (am 0)), (1, .int (nI b))] (by rw [mS_not c19 hco c33]; rfl) ?_
                exact ih5 (n + 1) (by omega) (by omega)
              · refine wf_iload_n 0 dX9_eatsBy_36 rfl ?_
                refine wf_istore_n [(2, .int (nI n)), (3, .int (nI n)), (0, .ref (am 0)), (1, .int (nI b))] dX9_eatsBy_37 rfl (by decide) rfl ?_
                refine wf_iinc (nI (n + 1)) 1 [(3, .int (nI (n + 1))), (2, .int (nI n)), (0, .ref (am 0)), (1, .int (nI b))] dX9_eatsBy_38 rfl (nI_1 n) (by decide) rfl ?_
                refine wf_goto 5 dX9_eatsBy_41 (by decide) ?_
                refine wf_sub (lv' := [(3, .int (nI (n + 1))), (2, .int (nI n)), (0, .ref (am 0)), (1, .int (nI b))]) [0, 1, 2, 3] rfl ?_
                refine wf_lvc [(3, .int (nI (n + 1))), (2, .int (eO (eCh g (g 3 b) (g 4 b) (n + 1)))), (0, .ref (am 0)), (1, .int (nI b))] (by rw [mS_prf c19 hco c33]; rfl) ?_
                exact ih5 (n + 1) (by omega) (by omega)
  refine wf_sub (lv' := [(3, .int (nI 0)), (2, .int (-9)), (0, .ref (am 0)), (1, .int (nI b))]) [0, 1, 2, 3] rfl ?_
  exact L5 _ 0 (Nat.lt_succ_self _) (Nat.zero_le _)
abbrev rmX9_eats : Room := { frames := 3, cells := 0, slots := 0, locals := 67 }
set_option maxHeartbeats 4000000 in
set_option maxRecDepth 100000 in
theorem c_X9_eats {l : Launch} {E : Ev} {b : Nat} {g y j : Gd} {td : Nat → Int32} {am : Nat → Nat} {r : va_W} (hI : Inv g) (hb : b < 4) (h8 : g 9 3 < 8) : CT l E yX9_eats cX9_eats 3 (some .int) rmX9_eats [.ref (am 0), .int (nI b)] (wm E am g y j td ++ r) (IS (some (.int (nI (eEn g b)))) (wm E am (eEat g b) y j td ++ r)) := by
  refine CT.of (lv := [(0, .ref (am 0)), (1, .int (nI b))]) false (by decide +kernel) (by decide) (Nat.le_of_ble_eq_true rfl) rfl ?_
  have f0 := hI.words
  have f1 := hI.birds
  have f2 := hI.gone
  have f3 := hI.hour
  refine wf_aload_n 0 dX9_eats_0 rfl ?_
  refine wf_iload_n 1 dX9_eats_1 rfl ?_
  refine wf_callVD (As := [.int (nI b)]) (rest := []) 0 (c_X9_eatsBy hI (by omega) h8) kV_X9_160 rfl (by decide) (by decide) (Nat.le_of_ble_eq_true rfl) rfl rfl rfl dX9_eats_2 ?_
  refine wf_istore_n [(2, .int (eO (eCho g (g 3 b) (g 4 b)))), (0, .ref (am 0)), (1, .int (nI b))] dX9_eats_5 rfl (by decide) rfl ?_
  rcases hco : eCho g (g 3 b) (g 4 b) with _ | w
  · refine wf_iload_n 0 dX9_eats_6 rfl ?_
    refine wf_if_ge 12 dX9_eats_7 (by decide) (fun c7 => ?_) (fun c7 => ?_)
    · exact absurd c7 (show ¬ (0 : Int32) ≤ eO none by decide)
    · refine wf_iconst (nI 0) dX9_eats_10 (by decide) ?_
      exact wf_iret .int rfl (vp_nar_int _) ⟨rfl, rfl⟩ ⟨congrArg (fun z => some (Value.int z)) (by unfold eEn; rw [hco]), (by unfold eEat; rw [hco]; rfl)⟩ dX9_eats_11
  · have hw := eCh_lt _ _ _ _ w hco
    have sh : 1 <<< w < 1024 := by rw [Nat.shiftLeft_eq, Nat.one_mul]; exact Nat.lt_of_lt_of_le (Nat.pow_lt_pow_right (by decide) (show w < 10 by omega)) (by decide)
    refine wf_iload_n 0 dX9_eats_6 rfl ?_
    refine wf_if_ge 12 dX9_eats_7 (by decide) (fun c7 => ?_) (fun c7 => ?_)
    · refine wf_aload_n 1 dX9_eats_12 rfl ?_
      refine wf_dup dX9_eats_13 rfl ?_
      refine wf_getf (C := RX9) (T := TX9) (N := 27) (v := .int (nI (g 9 2))) 0 13 in_X9 rfl rfl (by decide) fl_X9_142 rfl dX9_eats_14 ?_
      refine wf_iconst (nI 1) dX9_eats_17 (by decide) ?_
      refine wf_iload_n 0 dX9_eats_18 rfl ?_
      refine wf_ishl (nI (1 <<< w)) dX9_eats_19 (nI_shl (by omega) (by omega)) ?_
      refine wf_ior (nI ((g 9 2) ||| (1 <<< w))) dX9_eats_20 (nI_lor (by omega) (by omega)) ?_
      refine wf_putf (C := RX9) (T := TX9) (N := 27) (ty := .int) 0 13 (wm E am (gs g 9 2 ((g 9 2) ||| (1 <<< w))) y j td ++ r) tyX9 in_X9 tyX9_ok nmX9 rfl rfl (by decide) fl_X9_142 rfl (by decide +kernel) (by rfl) rfl (Nat.le_of_ble_eq_true rfl) (sf 0 (Nat.le_of_ble_eq_true rfl) (wm_put13 ((g 9 2) ||| (1 <<< w)))) dX9_eats_21 ?_
      refine wf_iconst (nI 1) dX9_eats_24 (by decide) ?_
      exact wf_iret .int rfl (vp_nar_int _) ⟨rfl, rfl⟩ ⟨congrArg (fun z => some (Value.int z)) (by unfold eEn; rw [hco]), (by unfold eEat; rw [hco]; rfl)⟩ dX9_eats_25
    · exact absurd (nI_pos' (by omega)) c7
abbrev rmX9_goesHour : Room := { frames := 4, cells := 0, slots := 0, locals := 89 }
set_option maxHeartbeats 4000000 in
set_option maxRecDepth 100000 in
theorem c_X9_goesHour {l : Launch} {E : Ev} {g y j : Gd} {td : Nat → Int32} {am : Nat → Nat} {r : va_W} (hI : Inv g) (h8 : g 9 3 < 8) : CT l E yX9_goesHour cX9_goesHour 3 (some .int) rmX9_goesHour [.ref (am 0)] (wm E am g y j td ++ r) (IS (some (.int (nI (eLeftN g - eLeftN (eHr g))))) (wm E am (eHr g) y j td ++ r)) := by
  refine CT.of (lv := [(0, .ref (am 0))]) false (by decide +kernel) (by decide) (Nat.le_of_ble_eq_true rfl) rfl ?_
  have f0 := hI.words
  have f1 := hI.birds
  have f2 := hI.gone
  have f3 := hI.hour
  have f4 := hI.left
  refine wf_iconst (nI 0) dX9_goesHour_0 (by decide) ?_
  refine wf_istore_n [(1, .int (nI 0)), (0, .ref (am 0))] dX9_goesHour_1 rfl (by decide) rfl ?_
  refine wf_iconst (nI 0) dX9_goesHour_2 (by decide) ?_
  refine wf_istore_n [(2, .int (nI 0)), (1, .int (nI 0)), (0, .ref (am 0))] dX9_goesHour_3 rfl (by decide) rfl ?_
  have L4 : ∀ (fu4 : Nat) (b : Nat) (n : Nat), g 9 1 - b < fu4 → (b ≤ g 9 1) → (n + eLeftN (eBirds g b) = eLeftN g) → (n ≤ 2 * b) → WF l E RX9 cX9_goesHour 3 (some .int) rmX9_goesHour false (fun _ => True) (QM E (wm E am g y j td ++ r) (IS (some (.int (nI (eLeftN g - eLeftN (eHr g))))) (wm E am (eHr g) y j td ++ r)) rmX9_goesHour) (wm E am g y j td ++ r) 0 0 4 [(2, .int (nI b)), (1, .int (nI n)), (0, .ref (am 0))] [] (wm E am (eBirds g b) y j td ++ r) := by
    intro fu4
    induction fu4 with
    | zero => intro b n hn; exact absurd hn (Nat.not_lt_zero _)
    | succ fu4 ih4 =>
      intro b n hn hb hn1 hn2
      have hB := hI.oBirds b
      have hbf : ∀ f i, ¬ (f = 9 ∧ i = 2) → eBirds g b f i = g f i := fun f i h => eBirds_f h
      have e91 := hbf 9 1 (by decide)
      have e93 := hbf 9 3 (by decide)
      have e5 := hbf 5 b (by omega)
      have e6 := hbf 6 b (by omega)
      have e3 := hbf 3 b (by omega)
      have g5 := hI.fro b
      have g6 := hI.til b
      have g3 := hI.kind b
      have q1 := eEn_le (eBirds g b) b
      have q2 := eEn_le (eEat (eBirds g b) b) b
      have l1 := eEat_left hB b
      have hE := hB.oEat b
      have l2 := eEat_left hE b
      have d3 : eEat (eBirds g b) b 3 b = eBirds g b 3 b := eGo_f (by omega)
      have d93 : eEat (eBirds g b) b 9 3 = eBirds g b 9 3 := eGo_f (by omega)
      refine wf_iload_n 0 dX9_goesHour_4 rfl ?_
      refine wf_aload_n 2 dX9_goesHour_5 rfl ?_
      refine wf_getf (C := RX9) (T := TX9) (N := 27) (v := .int (nI ((eBirds g b) 9 1))) 0 11 in_X9 rfl rfl (by decide) fl_X9_63 rfl dX9_goesHour_6 ?_
      refine wf_icmp_ge_n 69 dX9_goesHour_9 (by decide) (by omega) (by omega) (fun c9 => ?_) (fun c9 => ?_)
      · have hbe : b = g 9 1 := by omega
        subst hbe
        have hh : gs (eBirds g (g 9 1)) 9 3 (eBirds g (g 9 1) 9 3 + 1) = eHr g := by unfold eHr; rw [if_neg (by omega), e93]
        refine wf_aload_n 2 dX9_goesHour_69 rfl ?_
        refine wf_dup dX9_goesHour_70 rfl ?_
        refine wf_getf (C := RX9) (T := TX9) (N := 27) (v := .int (nI ((eBirds g (g 9 1)) 9 3))) 0 12 in_X9 rfl rfl (by decide) fl_X9_139 rfl dX9_goesHour_71 ?_
        refine wf_iconst (nI 1) dX9_goesHour_74 (by decide) ?_
        refine wf_iadd (nI (((eBirds g (g 9 1)) 9 3) + 1)) dX9_goesHour_75 (nI_add ((eBirds g (g 9 1)) 9 3) 1) ?_
        refine wf_putf (C := RX9) (T := TX9) (N := 27) (ty := .int) 0 12 (wm E am (gs (eBirds g (g 9 1)) 9 3 (((eBirds g (g 9 1)) 9 3) + 1)) y j td ++ r) tyX9 in_X9 tyX9_ok nmX9 rfl rfl (by decide) fl_X9_139 rfl (by decide +kernel) (by rfl) rfl (Nat.le_of_ble_eq_true rfl) (sf 0 (Nat.le_of_ble_eq_true rfl) (wm_put12 (((eBirds g (g 9 1)) 9 3) + 1))) dX9_goesHour_76 ?_
        have hl : eLeftN (eHr g) = eLeftN (eBirds g (g 9 1)) := by rw [← hh]; rfl
        rw [hh]
        refine wf_iload_n 1 dX9_goesHour_79 rfl ?_
        exact wf_iret .int rfl (vp_nar_int _) ⟨rfl, rfl⟩ ⟨congrArg (fun z => some (Value.int z)) (congrArg nI (by omega)), rfl⟩ dX9_goesHour_80
      · refine wf_aload_n 2 dX9_goesHour_12 rfl ?_
        refine wf_getf (C := RX9) (T := TX9) (N := 27) (v := .int (nI ((eBirds g b) 9 3))) 0 12 in_X9 rfl rfl (by decide) fl_X9_139 rfl dX9_goesHour_13 ?_
        refine wf_aload_n 2 dX9_goesHour_16 rfl ?_
        refine wf_getf (C := RX9) (T := TX9) (N := 27) (v := .ref (am 7)) 0 6 in_X9 rfl rfl (by decide) fl_X9_28 rfl dX9_goesHour_17 ?_
        refine wf_iload_n 0 dX9_goesHour_20 rfl ?_
        refine wf_iald_n (nI ((eBirds g b) 5 b)) 7 rfl (by omega) (by decide) rfl dX9_goesHour_21 ?_
        refine wf_aload_n 2 dX9_goesHour_22 rfl ?_
        refine wf_getf (C := RX9) (T := TX9) (N := 27) (v := .ref (am 8)) 0 7 in_X9 rfl rfl (by decide) fl_X9_31 rfl dX9_goesHour_23 ?_
        refine wf_iload_n 0 dX9_goesHour_26 rfl ?_
        refine wf_iald_n (nI ((eBirds g b) 6 b)) 8 rfl (by omega) (by decide) rfl dX9_goesHour_27 ?_
        refine wf_callSD (As := [.int (nI ((eBirds g b) 9 3)), .int (nI ((eBirds g b) 5 b)), .int (nI ((eBirds g b) 6 b))]) (rest := []) (c_X9_isIn) kS_X9_87 rfl (by decide) (by decide) (Nat.le_of_ble_eq_true rfl) rfl dX9_goesHour_28 ?_
        refine wf_if_ne_b 37 dX9_goesHour_31 (by decide) (fun c31 => ?_) (fun c31 => ?_)
        · refine wf_iload_n 1 dX9_goesHour_37 rfl ?_
          refine wf_aload_n 2 dX9_goesHour_38 rfl ?_
          refine wf_iload_n 0 dX9_goesHour_39 rfl ?_
          refine wf_callVD (As := [.int (nI b)]) (rest := [.int (nI n)]) 0 (c_X9_eats hB (by omega) (by omega)) kV_X9_163 rfl (by decide) (by decide) (Nat.le_of_ble_eq_true rfl) rfl rfl rfl dX9_goesHour_40 ?_
          refine wf_iadd (nI (n + (eEn (eBirds g b) b))) dX9_goesHour_43 (nI_add n (eEn (eBirds g b) b)) ?_
          refine wf_istore_n [(1, .int (nI (n + (eEn (eBirds g b) b)))), (2, .int (nI b)), (0, .ref (am 0))] dX9_goesHour_44 rfl (by decide) rfl ?_
          refine wf_aload_n 2 dX9_goesHour_45 rfl ?_
          refine wf_getf (C := RX9) (T := TX9) (N := 27) (v := .ref (am 5)) 0 4 in_X9 rfl rfl (by decide) fl_X9_22 rfl dX9_goesHour_46 ?_
          refine wf_iload_n 1 dX9_goesHour_49 rfl ?_
          refine wf_iald_n (nI ((eEat (eBirds g b) b) 3 b)) 5 rfl (by omega) (by decide) rfl dX9_goesHour_50 ?_
          refine wf_iconst (nI 4) dX9_goesHour_51 (by decide) ?_
          refine wf_icmp_ne_n 63 dX9_goesHour_52 (by decide) (by omega) (by omega) (fun c52 => ?_) (fun c52 => ?_)
          · refine wf_iinc (nI (b + 1)) 1 [(2, .int (nI (b + 1))), (1, .int (nI (n + (eEn (eBirds g b) b)))), (0, .ref (am 0))] dX9_goesHour_63 rfl (nI_1 b) (by decide) rfl ?_
            refine wf_goto 4 dX9_goesHour_66 (by decide) ?_
            refine wf_sub (lv' := [(2, .int (nI (b + 1))), (1, .int (nI (n + (eEn (eBirds g b) b)))), (0, .ref (am 0))]) [0, 1, 2] rfl ?_
            have hme : eMeals g b = 1 := by unfold eMeals; rw [if_pos (by rw [← e5, ← e6, ← e93]; exact of_decide_eq_true ((eIn_n (by omega) (by omega) (by omega)).symm.trans c31)), if_neg (by omega)]
            have hnx : eBirds g (b + 1) = (eEat (eBirds g b) b) := by show eEats _ b (eMeals g b) = _; rw [hme]; rfl
            refine wf_world (wm E am (eBirds g (b + 1)) y j td ++ r) (by rw [hnx]) ?_
            exact ih4 (b + 1) (n + eEn (eBirds g b) b) (by omega) (by omega) (by rw [hnx]; omega) (by omega)
          · refine wf_iload_n 0 dX9_goesHour_55 rfl ?_
            refine wf_aload_n 2 dX9_goesHour_56 rfl ?_
            refine wf_iload_n 1 dX9_goesHour_57 rfl ?_
            refine wf_callVD (As := [.int (nI b)]) (rest := [.int (nI (n + (eEn (eBirds g b) b)))]) 0 (c_X9_eats hE (by omega) (by omega)) kV_X9_163 rfl (by decide) (by decide) (Nat.le_of_ble_eq_true rfl) rfl rfl rfl dX9_goesHour_58 ?_
            refine wf_iadd (nI ((n + (eEn (eBirds g b) b)) + (eEn (eEat (eBirds g b) b) b))) dX9_goesHour_61 (nI_add (n + (eEn (eBirds g b) b)) (eEn (eEat (eBirds g b) b) b)) ?_
            refine wf_istore_n [(1, .int (nI ((n + (eEn (eBirds g b) b)) + (eEn (eEat (eBirds g b) b) b)))), (2, .int (nI b)), (0, .ref (am 0))] dX9_goesHour_62 rfl (by decide) rfl ?_
            refine wf_iinc (nI (b + 1)) 1 [(2, .int (nI (b + 1))), (1, .int (nI ((n + (eEn (eBirds g b) b)) + (eEn (eEat (eBirds g b) b) b)))), (0, .ref (am 0))] dX9_goesHour_63 rfl (nI_1 b) (by decide) rfl ?_
            refine wf_goto 4 dX9_goesHour_66 (by decide) ?_
            refine wf_sub (lv' := [(2, .int (nI (b + 1))), (1, .int (nI ((n + (eEn (eBirds g b) b)) + (eEn (eEat (eBirds g b) b) b)))), (0, .ref (am 0))]) [0, 1, 2] rfl ?_
            have hme : eMeals g b = 2 := by unfold eMeals; rw [if_pos (by rw [← e5, ← e6, ← e93]; exact of_decide_eq_true ((eIn_n (by omega) (by omega) (by omega)).symm.trans c31)), if_pos (by omega)]
            have hnx : eBirds g (b + 1) = (eEat (eEat (eBirds g b) b) b) := by show eEats _ b (eMeals g b) = _; rw [hme]; rfl
            refine wf_world (wm E am (eBirds g (b + 1)) y j td ++ r) (by rw [hnx]) ?_
            exact ih4 (b + 1) (n + eEn (eBirds g b) b + eEn (eEat (eBirds g b) b) b) (by omega) (by omega) (by rw [hnx]; omega) (by omega)
        · refine wf_goto 63 dX9_goesHour_34 (by decide) ?_
          refine wf_iinc (nI (b + 1)) 0 [(2, .int (nI (b + 1))), (1, .int (nI n)), (0, .ref (am 0))] dX9_goesHour_63 rfl (nI_1 b) (by decide) rfl ?_
          refine wf_goto 4 dX9_goesHour_66 (by decide) ?_
          refine wf_sub (lv' := [(2, .int (nI (b + 1))), (1, .int (nI n)), (0, .ref (am 0))]) [0, 1, 2] rfl ?_
          have hme : eMeals g b = 0 := by unfold eMeals; rw [if_neg (by rw [← e5, ← e6, ← e93]; exact of_decide_eq_false ((eIn_n (by omega) (by omega) (by omega)).symm.trans c31))]
          have hnx : eBirds g (b + 1) = (eBirds g b) := by show eEats _ b (eMeals g b) = _; rw [hme]; rfl
          refine wf_world (wm E am (eBirds g (b + 1)) y j td ++ r) (by rw [hnx]) ?_
          exact ih4 (b + 1) n (by omega) (by omega) (by rw [hnx]; omega) (by omega)
  refine wf_sub (lv' := [(2, .int (nI 0)), (1, .int (nI 0)), (0, .ref (am 0))]) [0, 1, 2] rfl ?_
  exact L4 _ 0 0 (Nat.lt_succ_self _) (Nat.zero_le _) (Nat.zero_add _) (Nat.zero_le _)
