abbrev rmX6_choice : Room := { frames := 2, cells := 0, slots := 0, locals := 45 }
set_option maxHeartbeats 4000000 in
set_option maxRecDepth 100000 in
theorem c_X6_choice_0 {l : Launch} {E : Ev} {t : Nat} {g : Gd} {a kk : Nat → Nat} {r : va_W} (hI : Inv g) (ht : t < 1000) : CT l E yX6_choice cX6_choice 5 (some .int) rmX6_choice [.ref (kk 0), .ref (a 0), .int (nI t)] (wg E (kk 6) a g ++ (wk E kk ++ r)) (IS (some (.int (eO (eCho g 0 t)))) (wg E (kk 6) a g ++ (wk E kk ++ r))) := by
  refine CT.of (lv := [(0, .ref (kk 0)), (1, .ref (a 0)), (2, .int (nI t))]) false (by decide +kernel) (by decide) (Nat.le_of_ble_eq_true rfl) rfl ?_
  have f0 := hI.words
  have f1 := hI.birds
  have f2 := hI.gone
  have f3 := hI.hour
  refine wf_bipush (-9) dX6_choice_0 (by decide) ?_
  refine wf_istore_n [(3, .int (-9)), (0, .ref (kk 0)), (1, .ref (a 0)), (2, .int (nI t))] dX6_choice_2 rfl (by decide) rfl ?_
  refine wf_iconst (nI 0) dX6_choice_3 (by decide) ?_
  refine wf_istore [(4, .int (nI 0)), (3, .int (-9)), (0, .ref (kk 0)), (1, .ref (a 0)), (2, .int (nI t))] dX6_choice_4 (by decide) rfl ?_
  have L6 : ∀ (fu6 : Nat) (n : Nat), g 9 0 - n < fu6 → (n ≤ g 9 0) → WF l E RX6 cX6_choice 5 (some .int) rmX6_choice false (fun _ => True) (QM E (wg E (kk 6) a g ++ (wk E kk ++ r)) (IS (some (.int (eO (eCho g 0 t)))) (wg E (kk 6) a g ++ (wk E kk ++ r))) rmX6_choice) (wg E (kk 6) a g ++ (wk E kk ++ r)) 0 0 6 [(4, .int (nI n)), (3, .int (eO (eCh g 0 t n))), (0, .ref (kk 0)), (1, .ref (a 0)), (2, .int (nI t))] [] (wg E (kk 6) a g ++ (wk E kk ++ r)) := by
    intro fu6
    induction fu6 with
    | zero => intro n hn; exact absurd hn (Nat.not_lt_zero _)
    | succ fu6 ih6 =>
      intro n hn hn0
      refine wf_iload 0 dX6_choice_6 rfl ?_
      refine wf_aload_n 3 dX6_choice_8 rfl ?_
      refine wf_getf (C := RX2) (T := TX2) (N := 14) (v := .int (nI (g 9 0))) 0 4 in_X2 rfl rfl (by decide) fl_X6_9 rfl dX6_choice_9 ?_
      refine wf_icmp_ge_n 64 dX6_choice_12 (by decide) (by omega) (by omega) (fun c12 => ?_) (fun c12 => ?_)
      · refine wf_iload_n 1 dX6_choice_64 rfl ?_
        exact wf_iret .int rfl (vp_nar_int _) ⟨rfl, rfl⟩ ⟨congrArg (fun z => some (Value.int z)) (by rw [show n = g 9 0 by omega]; rfl), rfl⟩ dX6_choice_65
      · refine wf_aload_n 3 dX6_choice_15 rfl ?_
        refine wf_iload 0 dX6_choice_16 rfl ?_
        refine wf_iload_n 4 dX6_choice_18 rfl ?_
        refine wf_callVD (As := [.int (nI n), .int (nI t)]) (rest := []) 0 (c_X2_mayBeEaten hI (by omega) (by omega)) kV_X6_15 rfl (by decide) (by decide) (Nat.le_of_ble_eq_true rfl) rfl rfl rfl dX6_choice_19 ?_
        refine wf_if_eq_b 58 dX6_choice_22 (by decide) (fun c22 => ?_) (fun c22 => ?_)
        · refine wf_iinc (nI (n + 1)) 0 [(4, .int (nI (n + 1))), (3, .int (eO (eCh g 0 t n))), (0, .ref (kk 0)), (1, .ref (a 0)), (2, .int (nI t))] dX6_choice_58 rfl (nI_1 n) (by decide) rfl ?_
          refine wf_goto 6 dX6_choice_61 (by decide) ?_
          refine wf_sub (lv' := [(4, .int (nI (n + 1))), (3, .int (eO (eCh g 0 t n))), (0, .ref (kk 0)), (1, .ref (a 0)), (2, .int (nI t))]) [0, 1, 2, 3, 4] rfl ?_
          rw [show eO (eCh g 0 t n) = eO (eCh g 0 t (n + 1)) from congrArg eO (eS_no1 c22).symm]
          exact ih6 (n + 1) (by omega) (by omega)
        · refine wf_aload_n 2 dX6_choice_25 rfl ?_
          refine wf_aload_n 3 dX6_choice_26 rfl ?_
          refine wf_iload 0 dX6_choice_27 rfl ?_
          refine wf_callUD (As := [.ref (a 0), .int (nI n)]) (rest := []) 11 (c_X6_reaches (k := 0) (by decide)) kU_X6_19_X6 rfl (by decide) (by decide) (Nat.le_of_ble_eq_true rfl) rfl rfl rfl dX6_choice_29 ?_
          refine wf_if_ne_b 38 dX6_choice_32 (by decide) (fun c32 => ?_) (fun c32 => ?_)
          · rcases hco : eCh g 0 t n with _ | c0
            · refine wf_iload_n 1 dX6_choice_38 rfl ?_
              refine wf_bipush (-9) dX6_choice_39 (by decide) ?_
              refine wf_icmp_eq 55 dX6_choice_41 (by decide) (fun c41 => ?_) (fun c41 => ?_)
              · refine wf_iload 0 dX6_choice_55 rfl ?_
                refine wf_istore_n [(3, .int (nI n)), (4, .int (nI n)), (0, .ref (kk 0)), (1, .ref (a 0)), (2, .int (nI t))] dX6_choice_57 rfl (by decide) rfl ?_
                refine wf_iinc (nI (n + 1)) 1 [(4, .int (nI (n + 1))), (3, .int (nI n)), (0, .ref (kk 0)), (1, .ref (a 0)), (2, .int (nI t))] dX6_choice_58 rfl (nI_1 n) (by decide) rfl ?_
                refine wf_goto 6 dX6_choice_61 (by decide) ?_
                refine wf_sub (lv' := [(4, .int (nI (n + 1))), (3, .int (nI n)), (0, .ref (kk 0)), (1, .ref (a 0)), (2, .int (nI t))]) [0, 1, 2, 3, 4] rfl ?_
                refine wf_lvc [(4, .int (nI (n + 1))), (3, .int (eO (eCh g 0 t (n + 1)))), (0, .ref (kk 0)), (1, .ref (a 0)), (2, .int (nI t))] (by rw [eS_new c22 c32 hco]; rfl) ?_
                exact ih6 (n + 1) (by omega) (by omega)
              · exact absurd rfl c41
            · have hc0 := eCh_lt g 0 t n c0 hco
              refine wf_iload_n 1 dX6_choice_38 rfl ?_
              refine wf_bipush (-9) dX6_choice_39 (by decide) ?_
              refine wf_icmp_eq 55 dX6_choice_41 (by decide) (fun c41 => ?_) (fun c41 => ?_)
              · exact absurd c41 (ne9 (by omega))
              · refine wf_aload_n 2 dX6_choice_44 rfl ?_
                refine wf_aload_n 3 dX6_choice_45 rfl ?_
                refine wf_iload 0 dX6_choice_46 rfl ?_
                refine wf_iload_n 1 dX6_choice_48 rfl ?_
                refine wf_callUD (As := [.ref (a 0), .int (nI n), .int (nI c0)]) (rest := []) 11 (c_X6_prefers (k := 0) hI (by omega) (by omega) (Or.inl rfl)) kU_X6_25_X6 rfl (by decide) (by decide) (Nat.le_of_ble_eq_true rfl) rfl rfl rfl dX6_choice_49 ?_
                refine wf_if_eq_b 58 dX6_choice_52 (by decide) (fun c52 => ?_) (fun c52 => ?_)
                · refine wf_iinc (nI (n + 1)) 0 [(4, .int (nI (n + 1))), (3, .int (nI c0)), (0, .ref (kk 0)), (1, .ref (a 0)), (2, .int (nI t))] dX6_choice_58 rfl (nI_1 n) (by decide) rfl ?_
                  refine wf_goto 6 dX6_choice_61 (by decide) ?_
                  refine wf_sub (lv' := [(4, .int (nI (n + 1))), (3, .int (nI c0)), (0, .ref (kk 0)), (1, .ref (a 0)), (2, .int (nI t))]) [0, 1, 2, 3, 4] rfl ?_
                  refine wf_lvc [(4, .int (nI (n + 1))), (3, .int (eO (eCh g 0 t (n + 1)))), (0, .ref (kk 0)), (1, .ref (a 0)), (2, .int (nI t))] (by rw [eS_not c22 c32 hco c52]; rfl) ?_
                  exact ih6 (n + 1) (by omega) (by omega)
                · refine wf_iload 0 dX6_choice_55 rfl ?_
                  refine wf_istore_n [(3, .int (nI n)), (4, .int (nI n)), (0, .ref (kk 0)), (1, .ref (a 0)), (2, .int (nI t))] dX6_choice_57 rfl (by decide) rfl ?_
                  refine wf_iinc (nI (n + 1)) 1 [(4, .int (nI (n + 1))), (3, .int (nI n)), (0, .ref (kk 0)), (1, .ref (a 0)), (2, .int (nI t))] dX6_choice_58 rfl (nI_1 n) (by decide) rfl ?_
                  refine wf_goto 6 dX6_choice_61 (by decide) ?_
                  refine wf_sub (lv' := [(4, .int (nI (n + 1))), (3, .int (nI n)), (0, .ref (kk 0)), (1, .ref (a 0)), (2, .int (nI t))]) [0, 1, 2, 3, 4] rfl ?_
                  refine wf_lvc [(4, .int (nI (n + 1))), (3, .int (eO (eCh g 0 t (n + 1)))), (0, .ref (kk 0)), (1, .ref (a 0)), (2, .int (nI t))] (by rw [eS_prf c22 c32 hco c52]; rfl) ?_
                  exact ih6 (n + 1) (by omega) (by omega)
          · refine wf_goto 58 dX6_choice_35 (by decide) ?_
            refine wf_iinc (nI (n + 1)) 0 [(4, .int (nI (n + 1))), (3, .int (eO (eCh g 0 t n))), (0, .ref (kk 0)), (1, .ref (a 0)), (2, .int (nI t))] dX6_choice_58 rfl (nI_1 n) (by decide) rfl ?_
            refine wf_goto 6 dX6_choice_61 (by decide) ?_
            refine wf_sub (lv' := [(4, .int (nI (n + 1))), (3, .int (eO (eCh g 0 t n))), (0, .ref (kk 0)), (1, .ref (a 0)), (2, .int (nI t))]) [0, 1, 2, 3, 4] rfl ?_
            rw [show eO (eCh g 0 t n) = eO (eCh g 0 t (n + 1)) from congrArg eO (eS_no2 c32).symm]
            exact ih6 (n + 1) (by omega) (by omega)
  refine wf_sub (lv' := [(4, .int (nI 0)), (3, .int (-9)), (0, .ref (kk 0)), (1, .ref (a 0)), (2, .int (nI t))]) [0, 1, 2, 3, 4] rfl ?_
  exact L6 _ 0 (Nat.lt_succ_self _) (Nat.zero_le _)
set_option maxHeartbeats 4000000 in
set_option maxRecDepth 100000 in
theorem c_X6_choice_1 {l : Launch} {E : Ev} {t : Nat} {g : Gd} {a kk : Nat → Nat} {r : va_W} (hI : Inv g) (ht : t < 1000) : CT l E yX6_choice cX6_choice 5 (some .int) rmX6_choice [.ref (kk 1), .ref (a 0), .int (nI t)] (wg E (kk 6) a g ++ (wk E kk ++ r)) (IS (some (.int (eO (eCho g 1 t)))) (wg E (kk 6) a g ++ (wk E kk ++ r))) := by
  refine CT.of (lv := [(0, .ref (kk 1)), (1, .ref (a 0)), (2, .int (nI t))]) false (by decide +kernel) (by decide) (Nat.le_of_ble_eq_true rfl) rfl ?_
  have f0 := hI.words
  have f1 := hI.birds
  have f2 := hI.gone
  have f3 := hI.hour
  refine wf_bipush (-9) dX6_choice_0 (by decide) ?_
  refine wf_istore_n [(3, .int (-9)), (0, .ref (kk 1)), (1, .ref (a 0)), (2, .int (nI t))] dX6_choice_2 rfl (by decide) rfl ?_
  refine wf_iconst (nI 0) dX6_choice_3 (by decide) ?_
  refine wf_istore [(4, .int (nI 0)), (3, .int (-9)), (0, .ref (kk 1)), (1, .ref (a 0)), (2, .int (nI t))] dX6_choice_4 (by decide) rfl ?_
  have L6 : ∀ (fu6 : Nat) (n : Nat), g 9 0 - n < fu6 → (n ≤ g 9 0) → WF l E RX6 cX6_choice 5 (some .int) rmX6_choice false (fun _ => True) (QM E (wg E (kk 6) a g ++ (wk E kk ++ r)) (IS (some (.int (eO (eCho g 1 t)))) (wg E (kk 6) a g ++ (wk E kk ++ r))) rmX6_choice) (wg E (kk 6) a g ++ (wk E kk ++ r)) 0 0 6 [(4, .int (nI n)), (3, .int (eO (eCh g 1 t n))), (0, .ref (kk 1)), (1, .ref (a 0)), (2, .int (nI t))] [] (wg E (kk 6) a g ++ (wk E kk ++ r)) := by
    intro fu6
    induction fu6 with
    | zero => intro n hn; exact absurd hn (Nat.not_lt_zero _)
    | succ fu6 ih6 =>
      intro n hn hn0
      refine wf_iload 0 dX6_choice_6 rfl ?_
      refine wf_aload_n 3 dX6_choice_8 rfl ?_
      refine wf_getf (C := RX2) (T := TX2) (N := 14) (v := .int (nI (g 9 0))) 0 4 in_X2 rfl rfl (by decide) fl_X6_9 rfl dX6_choice_9 ?_
      refine wf_icmp_ge_n 64 dX6_choice_12 (by decide) (by omega) (by omega) (fun c12 => ?_) (fun c12 => ?_)
      · refine wf_iload_n 1 dX6_choice_64 rfl ?_
        exact wf_iret .int rfl (vp_nar_int _) ⟨rfl, rfl⟩ ⟨congrArg (fun z => some (Value.int z)) (by rw [show n = g 9 0 by omega]; rfl), rfl⟩ dX6_choice_65
      · refine wf_aload_n 3 dX6_choice_15 rfl ?_
        refine wf_iload 0 dX6_choice_16 rfl ?_
        refine wf_iload_n 4 dX6_choice_18 rfl ?_
        refine wf_callVD (As := [.int (nI n), .int (nI t)]) (rest := []) 0 (c_X2_mayBeEaten hI (by omega) (by omega)) kV_X6_15 rfl (by decide) (by decide) (Nat.le_of_ble_eq_true rfl) rfl rfl rfl dX6_choice_19 ?_
        refine wf_if_eq_b 58 dX6_choice_22 (by decide) (fun c22 => ?_) (fun c22 => ?_)
        · refine wf_iinc (nI (n + 1)) 0 [(4, .int (nI (n + 1))), (3, .int (eO (eCh g 1 t n))), (0, .ref (kk 1)), (1, .ref (a 0)), (2, .int (nI t))] dX6_choice_58 rfl (nI_1 n) (by decide) rfl ?_
          refine wf_goto 6 dX6_choice_61 (by decide) ?_
          refine wf_sub (lv' := [(4, .int (nI (n + 1))), (3, .int (eO (eCh g 1 t n))), (0, .ref (kk 1)), (1, .ref (a 0)), (2, .int (nI t))]) [0, 1, 2, 3, 4] rfl ?_
          rw [show eO (eCh g 1 t n) = eO (eCh g 1 t (n + 1)) from congrArg eO (eS_no1 c22).symm]
          exact ih6 (n + 1) (by omega) (by omega)
        · refine wf_aload_n 2 dX6_choice_25 rfl ?_
          refine wf_aload_n 3 dX6_choice_26 rfl ?_
          refine wf_iload 0 dX6_choice_27 rfl ?_
          refine wf_callUD (As := [.ref (a 0), .int (nI n)]) (rest := []) 12 (c_X6_reaches (k := 1) (by decide)) kU_X6_19_X7 rfl (by decide) (by decide) (Nat.le_of_ble_eq_true rfl) rfl rfl rfl dX6_choice_29 ?_
          refine wf_if_ne_b 38 dX6_choice_32 (by decide) (fun c32 => ?_) (fun c32 => ?_)
          · rcases hco : eCh g 1 t n with _ | c0
            · refine wf_iload_n 1 dX6_choice_38 rfl ?_
              refine wf_bipush (-9) dX6_choice_39 (by decide) ?_
              refine wf_icmp_eq 55 dX6_choice_41 (by decide) (fun c41 => ?_) (fun c41 => ?_)
              · refine wf_iload 0 dX6_choice_55 rfl ?_
                refine wf_istore_n [(3, .int (nI n)), (4, .int (nI n)), (0, .ref (kk 1)), (1, .ref (a 0)), (2, .int (nI t))] dX6_choice_57 rfl (by decide) rfl ?_
                refine wf_iinc (nI (n + 1)) 1 [(4, .int (nI (n + 1))), (3, .int (nI n)), (0, .ref (kk 1)), (1, .ref (a 0)), (2, .int (nI t))] dX6_choice_58 rfl (nI_1 n) (by decide) rfl ?_
                refine wf_goto 6 dX6_choice_61 (by decide) ?_
                refine wf_sub (lv' := [(4, .int (nI (n + 1))), (3, .int (nI n)), (0, .ref (kk 1)), (1, .ref (a 0)), (2, .int (nI t))]) [0, 1, 2, 3, 4] rfl ?_
                refine wf_lvc [(4, .int (nI (n + 1))), (3, .int (eO (eCh g 1 t (n + 1)))), (0, .ref (kk 1)), (1, .ref (a 0)), (2, .int (nI t))] (by rw [eS_new c22 c32 hco]; rfl) ?_
                exact ih6 (n + 1) (by omega) (by omega)
              · exact absurd rfl c41
            · have hc0 := eCh_lt g 1 t n c0 hco
              refine wf_iload_n 1 dX6_choice_38 rfl ?_
              refine wf_bipush (-9) dX6_choice_39 (by decide) ?_
              refine wf_icmp_eq 55 dX6_choice_41 (by decide) (fun c41 => ?_) (fun c41 => ?_)
              · exact absurd c41 (ne9 (by omega))
              · refine wf_aload_n 2 dX6_choice_44 rfl ?_
                refine wf_aload_n 3 dX6_choice_45 rfl ?_
                refine wf_iload 0 dX6_choice_46 rfl ?_
                refine wf_iload_n 1 dX6_choice_48 rfl ?_
                refine wf_callUD (As := [.ref (a 0), .int (nI n), .int (nI c0)]) (rest := []) 12 (c_X7_prefers (k := 1) rfl) kU_X6_25_X7 rfl (by decide) (by decide) (Nat.le_of_ble_eq_true rfl) rfl rfl rfl dX6_choice_49 ?_
                refine wf_if_eq_b 58 dX6_choice_52 (by decide) (fun c52 => ?_) (fun c52 => ?_)
                · refine wf_iinc (nI (n + 1)) 0 [(4, .int (nI (n + 1))), (3, .int (nI c0)), (0, .ref (kk 1)), (1, .ref (a 0)), (2, .int (nI t))] dX6_choice_58 rfl (nI_1 n) (by decide) rfl ?_
                  refine wf_goto 6 dX6_choice_61 (by decide) ?_
                  refine wf_sub (lv' := [(4, .int (nI (n + 1))), (3, .int (nI c0)), (0, .ref (kk 1)), (1, .ref (a 0)), (2, .int (nI t))]) [0, 1, 2, 3, 4] rfl ?_
                  refine wf_lvc [(4, .int (nI (n + 1))), (3, .int (eO (eCh g 1 t (n + 1)))), (0, .ref (kk 1)), (1, .ref (a 0)), (2, .int (nI t))] (by rw [eS_not c22 c32 hco c52]; rfl) ?_
                  exact ih6 (n + 1) (by omega) (by omega)
                · refine wf_iload 0 dX6_choice_55 rfl ?_
                  refine wf_istore_n [(3, .int (nI n)), (4, .int (nI n)), (0, .ref (kk 1)), (1, .ref (a 0)), (2, .int (nI t))] dX6_choice_57 rfl (by decide) rfl ?_
                  refine wf_iinc (nI (n + 1)) 1 [(4, .int (nI (n + 1))), (3, .int (nI n)), (0, .ref (kk 1)), (1, .ref (a 0)), (2, .int (nI t))] dX6_choice_58 rfl (nI_1 n) (by decide) rfl ?_
                  refine wf_goto 6 dX6_choice_61 (by decide) ?_
                  refine wf_sub (lv' := [(4, .int (nI (n + 1))), (3, .int (nI n)), (0, .ref (kk 1)), (1, .ref (a 0)), (2, .int (nI t))]) [0, 1, 2, 3, 4] rfl ?_
                  refine wf_lvc [(4, .int (nI (n + 1))), (3, .int (eO (eCh g 1 t (n + 1)))), (0, .ref (kk 1)), (1, .ref (a 0)), (2, .int (nI t))] (by rw [eS_prf c22 c32 hco c52]; rfl) ?_
                  exact ih6 (n + 1) (by omega) (by omega)
          · refine wf_goto 58 dX6_choice_35 (by decide) ?_
            refine wf_iinc (nI (n + 1)) 0 [(4, .int (nI (n + 1))), (3, .int (eO (eCh g 1 t n))), (0, .ref (kk 1)), (1, .ref (a 0)), (2, .int (nI t))] dX6_choice_58 rfl (nI_1 n) (by decide) rfl ?_
            refine wf_goto 6 dX6_choice_61 (by decide) ?_
            refine wf_sub (lv' := [(4, .int (nI (n + 1))), (3, .int (eO (eCh g 1 t n))), (0, .ref (kk 1)), (1, .ref (a 0)), (2, .int (nI t))]) [0, 1, 2, 3, 4] rfl ?_
            rw [show eO (eCh g 1 t n) = eO (eCh g 1 t (n + 1)) from congrArg eO (eS_no2 c32).symm]
            exact ih6 (n + 1) (by omega) (by omega)
  refine wf_sub (lv' := [(4, .int (nI 0)), (3, .int (-9)), (0, .ref (kk 1)), (1, .ref (a 0)), (2, .int (nI t))]) [0, 1, 2, 3, 4] rfl ?_
  exact L6 _ 0 (Nat.lt_succ_self _) (Nat.zero_le _)
set_option maxHeartbeats 4000000 in
set_option maxRecDepth 100000 in
theorem c_X6_choice_2 {l : Launch} {E : Ev} {t : Nat} {g : Gd} {a kk : Nat → Nat} {r : va_W} (hI : Inv g) (ht : t < 1000) : CT l E yX6_choice cX6_choice 5 (some .int) rmX6_choice [.ref (kk 2), .ref (a 0), .int (nI t)] (wg E (kk 6) a g ++ (wk E kk ++ r)) (IS (some (.int (eO (eCho g 2 t)))) (wg E (kk 6) a g ++ (wk E kk ++ r))) := by
  refine CT.of (lv := [(0, .ref (kk 2)), (1, .ref (a 0)), (2, .int (nI t))]) false (by decide +kernel) (by decide) (Nat.le_of_ble_eq_true rfl) rfl ?_
  have f0 := hI.words
  have f1 := hI.birds
  have f2 := hI.gone
  have f3 := hI.hour
  refine wf_bipush (-9) dX6_choice_0 (by decide) ?_
  refine wf_istore_n [(3, .int (-9)), (0, .ref (kk 2)), (1, .ref (a 0)), (2, .int (nI t))] dX6_choice_2 rfl (by decide) rfl ?_
  refine wf_iconst (nI 0) dX6_choice_3 (by decide) ?_
  refine wf_istore [(4, .int (nI 0)), (3, .int (-9)), (0, .ref (kk 2)), (1, .ref (a 0)), (2, .int (nI t))] dX6_choice_4 (by decide) rfl ?_
  have L6 : ∀ (fu6 : Nat) (n : Nat), g 9 0 - n < fu6 → (n ≤ g 9 0) → WF l E RX6 cX6_choice 5 (some .int) rmX6_choice false (fun _ => True) (QM E (wg E (kk 6) a g ++ (wk E kk ++ r)) (IS (some (.int (eO (eCho g 2 t)))) (wg E (kk 6) a g ++ (wk E kk ++ r))) rmX6_choice) (wg E (kk 6) a g ++ (wk E kk ++ r)) 0 0 6 [(4, .int (nI n)), (3, .int (eO (eCh g 2 t n))), (0, .ref (kk 2)), (1, .ref (a 0)), (2, .int (nI t))] [] (wg E (kk 6) a g ++ (wk E kk ++ r)) := by
    intro fu6
    induction fu6 with
    | zero => intro n hn; exact absurd hn (Nat.not_lt_zero _)
    | succ fu6 ih6 =>
      intro n hn hn0
      refine wf_iload 0 dX6_choice_6 rfl ?_
      refine wf_aload_n 3 dX6_choice_8 rfl ?_
      refine wf_getf (C := RX2) (T := TX2) (N := 14) (v := .int (nI (g 9 0))) 0 4 in_X2 rfl rfl (by decide) fl_X6_9 rfl dX6_choice_9 ?_
      refine wf_icmp_ge_n 64 dX6_choice_12 (by decide) (by omega) (by omega) (fun c12 => ?_) (fun c12 => ?_)
      · refine wf_iload_n 1 dX6_choice_64 rfl ?_
        exact wf_iret .int rfl (vp_nar_int _) ⟨rfl, rfl⟩ ⟨congrArg (fun z => some (Value.int z)) (by rw [show n = g 9 0 by omega]; rfl), rfl⟩ dX6_choice_65
      · refine wf_aload_n 3 dX6_choice_15 rfl ?_
        refine wf_iload 0 dX6_choice_16 rfl ?_
        refine wf_iload_n 4 dX6_choice_18 rfl ?_
        refine wf_callVD (As := [.int (nI n), .int (nI t)]) (rest := []) 0 (c_X2_mayBeEaten hI (by omega) (by omega)) kV_X6_15 rfl (by decide) (by decide) (Nat.le_of_ble_eq_true rfl) rfl rfl rfl dX6_choice_19 ?_
        refine wf_if_eq_b 58 dX6_choice_22 (by decide) (fun c22 => ?_) (fun c22 => ?_)
        · refine wf_iinc (nI (n + 1)) 0 [(4, .int (nI (n + 1))), (3, .int (eO (eCh g 2 t n))), (0, .ref (kk 2)), (1, .ref (a 0)), (2, .int (nI t))] dX6_choice_58 rfl (nI_1 n) (by decide) rfl ?_
          refine wf_goto 6 dX6_choice_61 (by decide) ?_
          refine wf_sub (lv' := [(4, .int (nI (n + 1))), (3, .int (eO (eCh g 2 t n))), (0, .ref (kk 2)), (1, .ref (a 0)), (2, .int (nI t))]) [0, 1, 2, 3, 4] rfl ?_
          rw [show eO (eCh g 2 t n) = eO (eCh g 2 t (n + 1)) from congrArg eO (eS_no1 c22).symm]
          exact ih6 (n + 1) (by omega) (by omega)
        · refine wf_aload_n 2 dX6_choice_25 rfl ?_
          refine wf_aload_n 3 dX6_choice_26 rfl ?_
          refine wf_iload 0 dX6_choice_27 rfl ?_
          refine wf_callUD (As := [.ref (a 0), .int (nI n)]) (rest := []) 13 (c_X6_reaches (k := 2) (by decide)) kU_X6_19_X0 rfl (by decide) (by decide) (Nat.le_of_ble_eq_true rfl) rfl rfl rfl dX6_choice_29 ?_
          refine wf_if_ne_b 38 dX6_choice_32 (by decide) (fun c32 => ?_) (fun c32 => ?_)
          · rcases hco : eCh g 2 t n with _ | c0
            · refine wf_iload_n 1 dX6_choice_38 rfl ?_
              refine wf_bipush (-9) dX6_choice_39 (by decide) ?_
              refine wf_icmp_eq 55 dX6_choice_41 (by decide) (fun c41 => ?_) (fun c41 => ?_)
              · refine wf_iload 0 dX6_choice_55 rfl ?_
                refine wf_istore_n [(3, .int (nI n)), (4, .int (nI n)), (0, .ref (kk 2)), (1, .ref (a 0)), (2, .int (nI t))] dX6_choice_57 rfl (by decide) rfl ?_
                refine wf_iinc (nI (n + 1)) 1 [(4, .int (nI (n + 1))), (3, .int (nI n)), (0, .ref (kk 2)), (1, .ref (a 0)), (2, .int (nI t))] dX6_choice_58 rfl (nI_1 n) (by decide) rfl ?_
                refine wf_goto 6 dX6_choice_61 (by decide) ?_
                refine wf_sub (lv' := [(4, .int (nI (n + 1))), (3, .int (nI n)), (0, .ref (kk 2)), (1, .ref (a 0)), (2, .int (nI t))]) [0, 1, 2, 3, 4] rfl ?_
                refine wf_lvc [(4, .int (nI (n + 1))), (3, .int (eO (eCh g 2 t (n + 1)))), (0, .ref (kk 2)), (1, .ref (a 0)), (2, .int (nI t))] (by rw [eS_new c22 c32 hco]; rfl) ?_
                exact ih6 (n + 1) (by omega) (by omega)
              · exact absurd rfl c41
            · have hc0 := eCh_lt g 2 t n c0 hco
              refine wf_iload_n 1 dX6_choice_38 rfl ?_
              refine wf_bipush (-9) dX6_choice_39 (by decide) ?_
              refine wf_icmp_eq 55 dX6_choice_41 (by decide) (fun c41 => ?_) (fun c41 => ?_)
              · exact absurd c41 (ne9 (by omega))
              · refine wf_aload_n 2 dX6_choice_44 rfl ?_
                refine wf_aload_n 3 dX6_choice_45 rfl ?_
                refine wf_iload 0 dX6_choice_46 rfl ?_
                refine wf_iload_n 1 dX6_choice_48 rfl ?_
                refine wf_callUD (As := [.ref (a 0), .int (nI n), .int (nI c0)]) (rest := []) 13 (c_X0_prefers (k := 2) hI (by omega) (by omega) (Or.inl rfl)) kU_X6_25_X0 rfl (by decide) (by decide) (Nat.le_of_ble_eq_true rfl) rfl rfl rfl dX6_choice_49 ?_
                refine wf_if_eq_b 58 dX6_choice_52 (by decide) (fun c52 => ?_) (fun c52 => ?_)
                · refine wf_iinc (nI (n + 1)) 0 [(4, .int (nI (n + 1))), (3, .int (nI c0)), (0, .ref (kk 2)), (1, .ref (a 0)), (2, .int (nI t))] dX6_choice_58 rfl (nI_1 n) (by decide) rfl ?_
                  refine wf_goto 6 dX6_choice_61 (by decide) ?_
                  refine wf_sub (lv' := [(4, .int (nI (n + 1))), (3, .int (nI c0)), (0, .ref (kk 2)), (1, .ref (a 0)), (2, .int (nI t))]) [0, 1, 2, 3, 4] rfl ?_
                  refine wf_lvc [(4, .int (nI (n + 1))), (3, .int (eO (eCh g 2 t (n + 1)))), (0, .ref (kk 2)), (1, .ref (a 0)), (2, .int (nI t))] (by rw [eS_not c22 c32 hco c52]; rfl) ?_
                  exact ih6 (n + 1) (by omega) (by omega)
                · refine wf_iload 0 dX6_choice_55 rfl ?_
                  refine wf_istore_n [(3, .int (nI n)), (4, .int (nI n)), (0, .ref (kk 2)), (1, .ref (a 0)), (2, .int (nI t))] dX6_choice_57 rfl (by decide) rfl ?_
                  refine wf_iinc (nI (n + 1)) 1 [(4, .int (nI (n + 1))), (3, .int (nI n)), (0, .ref (kk 2)), (1, .ref (a 0)), (2, .int (nI t))] dX6_choice_58 rfl (nI_1 n) (by decide) rfl ?_
                  refine wf_goto 6 dX6_choice_61 (by decide) ?_
                  refine wf_sub (lv' := [(4, .int (nI (n + 1))), (3, .int (nI n)), (0, .ref (kk 2)), (1, .ref (a 0)), (2, .int (nI t))]) [0, 1, 2, 3, 4] rfl ?_
                  refine wf_lvc [(4, .int (nI (n + 1))), (3, .int (eO (eCh g 2 t (n + 1)))), (0, .ref (kk 2)), (1, .ref (a 0)), (2, .int (nI t))] (by rw [eS_prf c22 c32 hco c52]; rfl) ?_
                  exact ih6 (n + 1) (by omega) (by omega)
          · refine wf_goto 58 dX6_choice_35 (by decide) ?_
            refine wf_iinc (nI (n + 1)) 0 [(4, .int (nI (n + 1))), (3, .int (eO (eCh g 2 t n))), (0, .ref (kk 2)), (1, .ref (a 0)), (2, .int (nI t))] dX6_choice_58 rfl (nI_1 n) (by decide) rfl ?_
            refine wf_goto 6 dX6_choice_61 (by decide) ?_
            refine wf_sub (lv' := [(4, .int (nI (n + 1))), (3, .int (eO (eCh g 2 t n))), (0, .ref (kk 2)), (1, .ref (a 0)), (2, .int (nI t))]) [0, 1, 2, 3, 4] rfl ?_
            rw [show eO (eCh g 2 t n) = eO (eCh g 2 t (n + 1)) from congrArg eO (eS_no2 c32).symm]
            exact ih6 (n + 1) (by omega) (by omega)
  refine wf_sub (lv' := [(4, .int (nI 0)), (3, .int (-9)), (0, .ref (kk 2)), (1, .ref (a 0)), (2, .int (nI t))]) [0, 1, 2, 3, 4] rfl ?_
  exact L6 _ 0 (Nat.lt_succ_self _) (Nat.zero_le _)
set_option maxHeartbeats 4000000 in
set_option maxRecDepth 100000 in
theorem c_X6_choice_3 {l : Launch} {E : Ev} {t : Nat} {g : Gd} {a kk : Nat → Nat} {r : va_W} (hI : Inv g) (ht : t < 1000) : CT l E yX6_choice cX6_choice 5 (some .int) rmX6_choice [.ref (kk 3), .ref (a 0), .int (nI t)] (wg E (kk 6) a g ++ (wk E kk ++ r)) (IS (some (.int (eO (eCho g 3 t)))) (wg E (kk 6) a g ++ (wk E kk ++ r))) := by
  refine CT.of (lv := [(0, .ref (kk 3)), (1, .ref (a 0)), (2, .int (nI t))]) false (by decide +kernel) (by decide) (Nat.le_of_ble_eq_true rfl) rfl ?_
  have f0 := hI.words
  have f1 := hI.birds
  have f2 := hI.gone
  have f3 := hI.hour
  refine wf_bipush (-9) dX6_choice_0 (by decide) ?_
  refine wf_istore_n [(3, .int (-9)), (0, .ref (kk 3)), (1, .ref (a 0)), (2, .int (nI t))] dX6_choice_2 rfl (by decide) rfl ?_
  refine wf_iconst (nI 0) dX6_choice_3 (by decide) ?_
  refine wf_istore [(4, .int (nI 0)), (3, .int (-9)), (0, .ref (kk 3)), (1, .ref (a 0)), (2, .int (nI t))] dX6_choice_4 (by decide) rfl ?_
  have L6 : ∀ (fu6 : Nat) (n : Nat), g 9 0 - n < fu6 → (n ≤ g 9 0) → WF l E RX6 cX6_choice 5 (some .int) rmX6_choice false (fun _ => True) (QM E (wg E (kk 6) a g ++ (wk E kk ++ r)) (IS (some (.int (eO (eCho g 3 t)))) (wg E (kk 6) a g ++ (wk E kk ++ r))) rmX6_choice) (wg E (kk 6) a g ++ (wk E kk ++ r)) 0 0 6 [(4, .int (nI n)), (3, .int (eO (eCh g 3 t n))), (0, .ref (kk 3)), (1, .ref (a 0)), (2, .int (nI t))] [] (wg E (kk 6) a g ++ (wk E kk ++ r)) := by
    intro fu6
    induction fu6 with
    | zero => intro n hn; exact absurd hn (Nat.not_lt_zero _)
    | succ fu6 ih6 =>
      intro n hn hn0
      refine wf_iload 0 dX6_choice_6 rfl ?_
      refine wf_aload_n 3 dX6_choice_8 rfl ?_
      refine wf_getf (C := RX2) (T := TX2) (N := 14) (v := .int (nI (g 9 0))) 0 4 in_X2 rfl rfl (by decide) fl_X6_9 rfl dX6_choice_9 ?_
      refine wf_icmp_ge_n 64 dX6_choice_12 (by decide) (by omega) (by omega) (fun c12 => ?_) (fun c12 => ?_)
      · refine wf_iload_n 1 dX6_choice_64 rfl ?_
        exact wf_iret .int rfl (vp_nar_int _) ⟨rfl, rfl⟩ ⟨congrArg (fun z => some (Value.int z)) (by rw [show n = g 9 0 by omega]; rfl), rfl⟩ dX6_choice_65
      · refine wf_aload_n 3 dX6_choice_15 rfl ?_
        refine wf_iload 0 dX6_choice_16 rfl ?_
        refine wf_iload_n 4 dX6_choice_18 rfl ?_
        refine wf_callVD (As := [.int (nI n), .int (nI t)]) (rest := []) 0 (c_X2_mayBeEaten hI (by omega) (by omega)) kV_X6_15 rfl (by decide) (by decide) (Nat.le_of_ble_eq_true rfl) rfl rfl rfl dX6_choice_19 ?_
        refine wf_if_eq_b 58 dX6_choice_22 (by decide) (fun c22 => ?_) (fun c22 => ?_)
        · refine wf_iinc (nI (n + 1)) 0 [(4, .int (nI (n + 1))), (3, .int (eO (eCh g 3 t n))), (0, .ref (kk 3)), (1, .ref (a 0)), (2, .int (nI t))] dX6_choice_58 rfl (nI_1 n) (by decide) rfl ?_
          refine wf_goto 6 dX6_choice_61 (by decide) ?_
          refine wf_sub (lv' := [(4, .int (nI (n + 1))), (3, .int (eO (eCh g 3 t n))), (0, .ref (kk 3)), (1, .ref (a 0)), (2, .int (nI t))]) [0, 1, 2, 3, 4] rfl ?_
          rw [show eO (eCh g 3 t n) = eO (eCh g 3 t (n + 1)) from congrArg eO (eS_no1 c22).symm]
          exact ih6 (n + 1) (by omega) (by omega)
        · refine wf_aload_n 2 dX6_choice_25 rfl ?_
          refine wf_aload_n 3 dX6_choice_26 rfl ?_
          refine wf_iload 0 dX6_choice_27 rfl ?_
          refine wf_callUD (As := [.ref (a 0), .int (nI n)]) (rest := []) 14 (c_X6_reaches (k := 3) (by decide)) kU_X6_19_X5 rfl (by decide) (by decide) (Nat.le_of_ble_eq_true rfl) rfl rfl rfl dX6_choice_29 ?_
          refine wf_if_ne_b 38 dX6_choice_32 (by decide) (fun c32 => ?_) (fun c32 => ?_)
          · rcases hco : eCh g 3 t n with _ | c0
            · refine wf_iload_n 1 dX6_choice_38 rfl ?_
              refine wf_bipush (-9) dX6_choice_39 (by decide) ?_
              refine wf_icmp_eq 55 dX6_choice_41 (by decide) (fun c41 => ?_) (fun c41 => ?_)
              · refine wf_iload 0 dX6_choice_55 rfl ?_
                refine wf_istore_n [(3, .int (nI n)), (4, .int (nI n)), (0, .ref (kk 3)), (1, .ref (a 0)), (2, .int (nI t))] dX6_choice_57 rfl (by decide) rfl ?_
                refine wf_iinc (nI (n + 1)) 1 [(4, .int (nI (n + 1))), (3, .int (nI n)), (0, .ref (kk 3)), (1, .ref (a 0)), (2, .int (nI t))] dX6_choice_58 rfl (nI_1 n) (by decide) rfl ?_
                refine wf_goto 6 dX6_choice_61 (by decide) ?_
                refine wf_sub (lv' := [(4, .int (nI (n + 1))), (3, .int (nI n)), (0, .ref (kk 3)), (1, .ref (a 0)), (2, .int (nI t))]) [0, 1, 2, 3, 4] rfl ?_
                refine wf_lvc [(4, .int (nI (n + 1))), (3, .int (eO (eCh g 3 t (n + 1)))), (0, .ref (kk 3)), (1, .ref (a 0)), (2, .int (nI t))] (by rw [eS_new c22 c32 hco]; rfl) ?_
                exact ih6 (n + 1) (by omega) (by omega)
              · exact absurd rfl c41
            · have hc0 := eCh_lt g 3 t n c0 hco
              refine wf_iload_n 1 dX6_choice_38 rfl ?_
              refine wf_bipush (-9) dX6_choice_39 (by decide) ?_
              refine wf_icmp_eq 55 dX6_choice_41 (by decide) (fun c41 => ?_) (fun c41 => ?_)
              · exact absurd c41 (ne9 (by omega))
              · refine wf_aload_n 2 dX6_choice_44 rfl ?_
                refine wf_aload_n 3 dX6_choice_45 rfl ?_
                refine wf_iload 0 dX6_choice_46 rfl ?_
                refine wf_iload_n 1 dX6_choice_48 rfl ?_
                refine wf_callUD (As := [.ref (a 0), .int (nI n), .int (nI c0)]) (rest := []) 14 (c_X5_prefers (k := 3) rfl) kU_X6_25_X5 rfl (by decide) (by decide) (Nat.le_of_ble_eq_true rfl) rfl rfl rfl dX6_choice_49 ?_
                refine wf_if_eq_b 58 dX6_choice_52 (by decide) (fun c52 => ?_) (fun c52 => ?_)
                · refine wf_iinc (nI (n + 1)) 0 [(4, .int (nI (n + 1))), (3, .int (nI c0)), (0, .ref (kk 3)), (1, .ref (a 0)), (2, .int (nI t))] dX6_choice_58 rfl (nI_1 n) (by decide) rfl ?_
                  refine wf_goto 6 dX6_choice_61 (by decide) ?_
                  refine wf_sub (lv' := [(4, .int (nI (n + 1))), (3, .int (nI c0)), (0, .ref (kk 3)), (1, .ref (a 0)), (2, .int (nI t))]) [0, 1, 2, 3, 4] rfl ?_
                  refine wf_lvc [(4, .int (nI (n + 1))), (3, .int (eO (eCh g 3 t (n + 1)))), (0, .ref (kk 3)), (1, .ref (a 0)), (2, .int (nI t))] (by rw [eS_not c22 c32 hco c52]; rfl) ?_
                  exact ih6 (n + 1) (by omega) (by omega)
                · refine wf_iload 0 dX6_choice_55 rfl ?_
                  refine wf_istore_n [(3, .int (nI n)), (4, .int (nI n)), (0, .ref (kk 3)), (1, .ref (a 0)), (2, .int (nI t))] dX6_choice_57 rfl (by decide) rfl ?_
                  refine wf_iinc (nI (n + 1)) 1 [(4, .int (nI (n + 1))), (3, .int (nI n)), (0, .ref (kk 3)), (1, .ref (a 0)), (2, .int (nI t))] dX6_choice_58 rfl (nI_1 n) (by decide) rfl ?_
                  refine wf_goto 6 dX6_choice_61 (by decide) ?_
                  refine wf_sub (lv' := [(4, .int (nI (n + 1))), (3, .int (nI n)), (0, .ref (kk 3)), (1, .ref (a 0)), (2, .int (nI t))]) [0, 1, 2, 3, 4] rfl ?_
                  refine wf_lvc [(4, .int (nI (n + 1))), (3, .int (eO (eCh g 3 t (n + 1)))), (0, .ref (kk 3)), (1, .ref (a 0)), (2, .int (nI t))] (by rw [eS_prf c22 c32 hco c52]; rfl) ?_
                  exact ih6 (n + 1) (by omega) (by omega)
          · refine wf_goto 58 dX6_choice_35 (by decide) ?_
            refine wf_iinc (nI (n + 1)) 0 [(4, .int (nI (n + 1))), (3, .int (eO (eCh g 3 t n))), (0, .ref (kk 3)), (1, .ref (a 0)), (2, .int (nI t))] dX6_choice_58 rfl (nI_1 n) (by decide) rfl ?_
            refine wf_goto 6 dX6_choice_61 (by decide) ?_
            refine wf_sub (lv' := [(4, .int (nI (n + 1))), (3, .int (eO (eCh g 3 t n))), (0, .ref (kk 3)), (1, .ref (a 0)), (2, .int (nI t))]) [0, 1, 2, 3, 4] rfl ?_
            rw [show eO (eCh g 3 t n) = eO (eCh g 3 t (n + 1)) from congrArg eO (eS_no2 c32).symm]
            exact ih6 (n + 1) (by omega) (by omega)
  refine wf_sub (lv' := [(4, .int (nI 0)), (3, .int (-9)), (0, .ref (kk 3)), (1, .ref (a 0)), (2, .int (nI t))]) [0, 1, 2, 3, 4] rfl ?_
  exact L6 _ 0 (Nat.lt_succ_self _) (Nat.zero_le _)
set_option maxHeartbeats 4000000 in
set_option maxRecDepth 100000 in
theorem c_X6_choice_4 {l : Launch} {E : Ev} {t : Nat} {g : Gd} {a kk : Nat → Nat} {r : va_W} (hI : Inv g) (ht : t < 1000) : CT l E yX6_choice cX6_choice 5 (some .int) rmX6_choice [.ref (kk 4), .ref (a 0), .int (nI t)] (wg E (kk 6) a g ++ (wk E kk ++ r)) (IS (some (.int (eO (eCho g 4 t)))) (wg E (kk 6) a g ++ (wk E kk ++ r))) := by
  refine CT.of (lv := [(0, .ref (kk 4)), (1, .ref (a 0)), (2, .int (nI t))]) false (by decide +kernel) (by decide) (Nat.le_of_ble_eq_true rfl) rfl ?_
  have f0 := hI.words
  have f1 := hI.birds
  have f2 := hI.gone
  have f3 := hI.hour
  refine wf_bipush (-9) dX6_choice_0 (by decide) ?_
  refine wf_istore_n [(3, .int (-9)), (0, .ref (kk 4)), (1, .ref (a 0)), (2, .int (nI t))] dX6_choice_2 rfl (by decide) rfl ?_
  refine wf_iconst (nI 0) dX6_choice_3 (by decide) ?_
  refine wf_istore [(4, .int (nI 0)), (3, .int (-9)), (0, .ref (kk 4)), (1, .ref (a 0)), (2, .int (nI t))] dX6_choice_4 (by decide) rfl ?_
  have L6 : ∀ (fu6 : Nat) (n : Nat), g 9 0 - n < fu6 → (n ≤ g 9 0) → WF l E RX6 cX6_choice 5 (some .int) rmX6_choice false (fun _ => True) (QM E (wg E (kk 6) a g ++ (wk E kk ++ r)) (IS (some (.int (eO (eCho g 4 t)))) (wg E (kk 6) a g ++ (wk E kk ++ r))) rmX6_choice) (wg E (kk 6) a g ++ (wk E kk ++ r)) 0 0 6 [(4, .int (nI n)), (3, .int (eO (eCh g 4 t n))), (0, .ref (kk 4)), (1, .ref (a 0)), (2, .int (nI t))] [] (wg E (kk 6) a g ++ (wk E kk ++ r)) := by
    intro fu6
    induction fu6 with
    | zero => intro n hn; exact absurd hn (Nat.not_lt_zero _)
    | succ fu6 ih6 =>
      intro n hn hn0
      refine wf_iload 0 dX6_choice_6 rfl ?_
      refine wf_aload_n 3 dX6_choice_8 rfl ?_
      refine wf_getf (C := RX2) (T := TX2) (N := 14) (v := .int (nI (g 9 0))) 0 4 in_X2 rfl rfl (by decide) fl_X6_9 rfl dX6_choice_9 ?_
      refine wf_icmp_ge_n 64 dX6_choice_12 (by decide) (by omega) (by omega) (fun c12 => ?_) (fun c12 => ?_)
      · refine wf_iload_n 1 dX6_choice_64 rfl ?_
        exact wf_iret .int rfl (vp_nar_int _) ⟨rfl, rfl⟩ ⟨congrArg (fun z => some (Value.int z)) (by rw [show n = g 9 0 by omega]; rfl), rfl⟩ dX6_choice_65
      · refine wf_aload_n 3 dX6_choice_15 rfl ?_
        refine wf_iload 0 dX6_choice_16 rfl ?_
        refine wf_iload_n 4 dX6_choice_18 rfl ?_
        refine wf_callVD (As := [.int (nI n), .int (nI t)]) (rest := []) 0 (c_X2_mayBeEaten hI (by omega) (by omega)) kV_X6_15 rfl (by decide) (by decide) (Nat.le_of_ble_eq_true rfl) rfl rfl rfl dX6_choice_19 ?_
        refine wf_if_eq_b 58 dX6_choice_22 (by decide) (fun c22 => ?_) (fun c22 => ?_)
        · refine wf_iinc (nI (n + 1)) 0 [(4, .int (nI (n + 1))), (3, .int (eO (eCh g 4 t n))), (0, .ref (kk 4)), (1, .ref (a 0)), (2, .int (nI t))] dX6_choice_58 rfl (nI_1 n) (by decide) rfl ?_
          refine wf_goto 6 dX6_choice_61 (by decide) ?_
          refine wf_sub (lv' := [(4, .int (nI (n + 1))), (3, .int (eO (eCh g 4 t n))), (0, .ref (kk 4)), (1, .ref (a 0)), (2, .int (nI t))]) [0, 1, 2, 3, 4] rfl ?_
          rw [show eO (eCh g 4 t n) = eO (eCh g 4 t (n + 1)) from congrArg eO (eS_no1 c22).symm]
          exact ih6 (n + 1) (by omega) (by omega)
        · refine wf_aload_n 2 dX6_choice_25 rfl ?_
          refine wf_aload_n 3 dX6_choice_26 rfl ?_
          refine wf_iload 0 dX6_choice_27 rfl ?_
          refine wf_callUD (As := [.ref (a 0), .int (nI n)]) (rest := []) 15 (c_X6_reaches (k := 4) (by decide)) kU_X6_19_X3 rfl (by decide) (by decide) (Nat.le_of_ble_eq_true rfl) rfl rfl rfl dX6_choice_29 ?_
          refine wf_if_ne_b 38 dX6_choice_32 (by decide) (fun c32 => ?_) (fun c32 => ?_)
          · rcases hco : eCh g 4 t n with _ | c0
            · refine wf_iload_n 1 dX6_choice_38 rfl ?_
              refine wf_bipush (-9) dX6_choice_39 (by decide) ?_
              refine wf_icmp_eq 55 dX6_choice_41 (by decide) (fun c41 => ?_) (fun c41 => ?_)
              · refine wf_iload 0 dX6_choice_55 rfl ?_
                refine wf_istore_n [(3, .int (nI n)), (4, .int (nI n)), (0, .ref (kk 4)), (1, .ref (a 0)), (2, .int (nI t))] dX6_choice_57 rfl (by decide) rfl ?_
                refine wf_iinc (nI (n + 1)) 1 [(4, .int (nI (n + 1))), (3, .int (nI n)), (0, .ref (kk 4)), (1, .ref (a 0)), (2, .int (nI t))] dX6_choice_58 rfl (nI_1 n) (by decide) rfl ?_
                refine wf_goto 6 dX6_choice_61 (by decide) ?_
                refine wf_sub (lv' := [(4, .int (nI (n + 1))), (3, .int (nI n)), (0, .ref (kk 4)), (1, .ref (a 0)), (2, .int (nI t))]) [0, 1, 2, 3, 4] rfl ?_
                refine wf_lvc [(4, .int (nI (n + 1))), (3, .int (eO (eCh g 4 t (n + 1)))), (0, .ref (kk 4)), (1, .ref (a 0)), (2, .int (nI t))] (by rw [eS_new c22 c32 hco]; rfl) ?_
                exact ih6 (n + 1) (by omega) (by omega)
              · exact absurd rfl c41
            · have hc0 := eCh_lt g 4 t n c0 hco
              refine wf_iload_n 1 dX6_choice_38 rfl ?_
              refine wf_bipush (-9) dX6_choice_39 (by decide) ?_
              refine wf_icmp_eq 55 dX6_choice_41 (by decide) (fun c41 => ?_) (fun c41 => ?_)
              · exact absurd c41 (ne9 (by omega))
              · refine wf_aload_n 2 dX6_choice_44 rfl ?_
                refine wf_aload_n 3 dX6_choice_45 rfl ?_
                refine wf_iload 0 dX6_choice_46 rfl ?_
                refine wf_iload_n 1 dX6_choice_48 rfl ?_
                refine wf_callUD (As := [.ref (a 0), .int (nI n), .int (nI c0)]) (rest := []) 15 (c_X6_prefers (k := 4) hI (by omega) (by omega) (Or.inr rfl)) kU_X6_25_X3 rfl (by decide) (by decide) (Nat.le_of_ble_eq_true rfl) rfl rfl rfl dX6_choice_49 ?_
                refine wf_if_eq_b 58 dX6_choice_52 (by decide) (fun c52 => ?_) (fun c52 => ?_)
                · refine wf_iinc (nI (n + 1)) 0 [(4, .int (nI (n + 1))), (3, .int (nI c0)), (0, .ref (kk 4)), (1, .ref (a 0)), (2, .int (nI t))] dX6_choice_58 rfl (nI_1 n) (by decide) rfl ?_
                  refine wf_goto 6 dX6_choice_61 (by decide) ?_
                  refine wf_sub (lv' := [(4, .int (nI (n + 1))), (3, .int (nI c0)), (0, .ref (kk 4)), (1, .ref (a 0)), (2, .int (nI t))]) [0, 1, 2, 3, 4] rfl ?_
                  refine wf_lvc [(4, .int (nI (n + 1))), (3, .int (eO (eCh g 4 t (n + 1)))), (0, .ref (kk 4)), (1, .ref (a 0)), (2, .int (nI t))] (by rw [eS_not c22 c32 hco c52]; rfl) ?_
                  exact ih6 (n + 1) (by omega) (by omega)
                · refine wf_iload 0 dX6_choice_55 rfl ?_
                  refine wf_istore_n [(3, .int (nI n)), (4, .int (nI n)), (0, .ref (kk 4)), (1, .ref (a 0)), (2, .int (nI t))] dX6_choice_57 rfl (by decide) rfl ?_
                  refine wf_iinc (nI (n + 1)) 1 [(4, .int (nI (n + 1))), (3, .int (nI n)), (0, .ref (kk 4)), (1, .ref (a 0)), (2, .int (nI t))] dX6_choice_58 rfl (nI_1 n) (by decide) rfl ?_
                  refine wf_goto 6 dX6_choice_61 (by decide) ?_
                  refine wf_sub (lv' := [(4, .int (nI (n + 1))), (3, .int (nI n)), (0, .ref (kk 4)), (1, .ref (a 0)), (2, .int (nI t))]) [0, 1, 2, 3, 4] rfl ?_
                  refine wf_lvc [(4, .int (nI (n + 1))), (3, .int (eO (eCh g 4 t (n + 1)))), (0, .ref (kk 4)), (1, .ref (a 0)), (2, .int (nI t))] (by rw [eS_prf c22 c32 hco c52]; rfl) ?_
                  exact ih6 (n + 1) (by omega) (by omega)
          · refine wf_goto 58 dX6_choice_35 (by decide) ?_
            refine wf_iinc (nI (n + 1)) 0 [(4, .int (nI (n + 1))), (3, .int (eO (eCh g 4 t n))), (0, .ref (kk 4)), (1, .ref (a 0)), (2, .int (nI t))] dX6_choice_58 rfl (nI_1 n) (by decide) rfl ?_
            refine wf_goto 6 dX6_choice_61 (by decide) ?_
            refine wf_sub (lv' := [(4, .int (nI (n + 1))), (3, .int (eO (eCh g 4 t n))), (0, .ref (kk 4)), (1, .ref (a 0)), (2, .int (nI t))]) [0, 1, 2, 3, 4] rfl ?_
            rw [show eO (eCh g 4 t n) = eO (eCh g 4 t (n + 1)) from congrArg eO (eS_no2 c32).symm]
            exact ih6 (n + 1) (by omega) (by omega)
  refine wf_sub (lv' := [(4, .int (nI 0)), (3, .int (-9)), (0, .ref (kk 4)), (1, .ref (a 0)), (2, .int (nI t))]) [0, 1, 2, 3, 4] rfl ?_
  exact L6 _ 0 (Nat.lt_succ_self _) (Nat.zero_le _)
set_option maxHeartbeats 4000000 in
set_option maxRecDepth 100000 in
theorem c_X6_choice_5 {l : Launch} {E : Ev} {t : Nat} {g : Gd} {a kk : Nat → Nat} {r : va_W} (hI : Inv g) (ht : t < 1000) : CT l E yX6_choice cX6_choice 5 (some .int) rmX6_choice [.ref (kk 5), .ref (a 0), .int (nI t)] (wg E (kk 6) a g ++ (wk E kk ++ r)) (IS (some (.int (eO (eCho g 5 t)))) (wg E (kk 6) a g ++ (wk E kk ++ r))) := by
  refine CT.of (lv := [(0, .ref (kk 5)), (1, .ref (a 0)), (2, .int (nI t))]) false (by decide +kernel) (by decide) (Nat.le_of_ble_eq_true rfl) rfl ?_
  have f0 := hI.words
  have f1 := hI.birds
  have f2 := hI.gone
  have f3 := hI.hour
  refine wf_bipush (-9) dX6_choice_0 (by decide) ?_
  refine wf_istore_n [(3, .int (-9)), (0, .ref (kk 5)), (1, .ref (a 0)), (2, .int (nI t))] dX6_choice_2 rfl (by decide) rfl ?_
  refine wf_iconst (nI 0) dX6_choice_3 (by decide) ?_
  refine wf_istore [(4, .int (nI 0)), (3, .int (-9)), (0, .ref (kk 5)), (1, .ref (a 0)), (2, .int (nI t))] dX6_choice_4 (by decide) rfl ?_
  have L6 : ∀ (fu6 : Nat) (n : Nat), g 9 0 - n < fu6 → (n ≤ g 9 0) → WF l E RX6 cX6_choice 5 (some .int) rmX6_choice false (fun _ => True) (QM E (wg E (kk 6) a g ++ (wk E kk ++ r)) (IS (some (.int (eO (eCho g 5 t)))) (wg E (kk 6) a g ++ (wk E kk ++ r))) rmX6_choice) (wg E (kk 6) a g ++ (wk E kk ++ r)) 0 0 6 [(4, .int (nI n)), (3, .int (eO (eCh g 5 t n))), (0, .ref (kk 5)), (1, .ref (a 0)), (2, .int (nI t))] [] (wg E (kk 6) a g ++ (wk E kk ++ r)) := by
    intro fu6
    induction fu6 with
    | zero => intro n hn; exact absurd hn (Nat.not_lt_zero _)
    | succ fu6 ih6 =>
      intro n hn hn0
      refine wf_iload 0 dX6_choice_6 rfl ?_
      refine wf_aload_n 3 dX6_choice_8 rfl ?_
      refine wf_getf (C := RX2) (T := TX2) (N := 14) (v := .int (nI (g 9 0))) 0 4 in_X2 rfl rfl (by decide) fl_X6_9 rfl dX6_choice_9 ?_
      refine wf_icmp_ge_n 64 dX6_choice_12 (by decide) (by omega) (by omega) (fun c12 => ?_) (fun c12 => ?_)
      · refine wf_iload_n 1 dX6_choice_64 rfl ?_
        exact wf_iret .int rfl (vp_nar_int _) ⟨rfl, rfl⟩ ⟨congrArg (fun z => some (Value.int z)) (by rw [show n = g 9 0 by omega]; rfl), rfl⟩ dX6_choice_65
      · refine wf_aload_n 3 dX6_choice_15 rfl ?_
        refine wf_iload 0 dX6_choice_16 rfl ?_
        refine wf_iload_n 4 dX6_choice_18 rfl ?_
        refine wf_callVD (As := [.int (nI n), .int (nI t)]) (rest := []) 0 (c_X2_mayBeEaten hI (by omega) (by omega)) kV_X6_15 rfl (by decide) (by decide) (Nat.le_of_ble_eq_true rfl) rfl rfl rfl dX6_choice_19 ?_
        refine wf_if_eq_b 58 dX6_choice_22 (by decide) (fun c22 => ?_) (fun c22 => ?_)
        · refine wf_iinc (nI (n + 1)) 0 [(4, .int (nI (n + 1))), (3, .int (eO (eCh g 5 t n))), (0, .ref (kk 5)), (1, .ref (a 0)), (2, .int (nI t))] dX6_choice_58 rfl (nI_1 n) (by decide) rfl ?_
          refine wf_goto 6 dX6_choice_61 (by decide) ?_
          refine wf_sub (lv' := [(4, .int (nI (n + 1))), (3, .int (eO (eCh g 5 t n))), (0, .ref (kk 5)), (1, .ref (a 0)), (2, .int (nI t))]) [0, 1, 2, 3, 4] rfl ?_
          rw [show eO (eCh g 5 t n) = eO (eCh g 5 t (n + 1)) from congrArg eO (eS_no1 c22).symm]
          exact ih6 (n + 1) (by omega) (by omega)
        · refine wf_aload_n 2 dX6_choice_25 rfl ?_
          refine wf_aload_n 3 dX6_choice_26 rfl ?_
          refine wf_iload 0 dX6_choice_27 rfl ?_
          refine wf_callUD (As := [.ref (a 0), .int (nI n)]) (rest := []) 16 (c_X1_reaches hI (by omega)) kU_X6_19_X1 rfl (by decide) (by decide) (Nat.le_of_ble_eq_true rfl) rfl rfl rfl dX6_choice_29 ?_
          refine wf_if_ne_b 38 dX6_choice_32 (by decide) (fun c32 => ?_) (fun c32 => ?_)
          · rcases hco : eCh g 5 t n with _ | c0
            · refine wf_iload_n 1 dX6_choice_38 rfl ?_
              refine wf_bipush (-9) dX6_choice_39 (by decide) ?_
              refine wf_icmp_eq 55 dX6_choice_41 (by decide) (fun c41 => ?_) (fun c41 => ?_)
              · refine wf_iload 0 dX6_choice_55 rfl ?_
                refine wf_istore_n [(3, .int (nI n)), (4, .int (nI n)), (0, .ref (kk 5)), (1, .ref (a 0)), (2, .int (nI t))] dX6_choice_57 rfl (by decide) rfl ?_
                refine wf_iinc (nI (n + 1)) 1 [(4, .int (nI (n + 1))), (3, .int (nI n)), (0, .ref (kk 5)), (1, .ref (a 0)), (2, .int (nI t))] dX6_choice_58 rfl (nI_1 n) (by decide) rfl ?_
                refine wf_goto 6 dX6_choice_61 (by decide) ?_
                refine wf_sub (lv' := [(4, .int (nI (n + 1))), (3, .int (nI n)), (0, .ref (kk 5)), (1, .ref (a 0)), (2, .int (nI t))]) [0, 1, 2, 3, 4] rfl ?_
                refine wf_lvc [(4, .int (nI (n + 1))), (3, .int (eO (eCh g 5 t (n + 1)))), (0, .ref (kk 5)), (1, .ref (a 0)), (2, .int (nI t))] (by rw [eS_new c22 c32 hco]; rfl) ?_
                exact ih6 (n + 1) (by omega) (by omega)
              · exact absurd rfl c41
            · have hc0 := eCh_lt g 5 t n c0 hco
              refine wf_iload_n 1 dX6_choice_38 rfl ?_
              refine wf_bipush (-9) dX6_choice_39 (by decide) ?_
              refine wf_icmp_eq 55 dX6_choice_41 (by decide) (fun c41 => ?_) (fun c41 => ?_)
              · exact absurd c41 (ne9 (by omega))
              · refine wf_aload_n 2 dX6_choice_44 rfl ?_
                refine wf_aload_n 3 dX6_choice_45 rfl ?_
                refine wf_iload 0 dX6_choice_46 rfl ?_
                refine wf_iload_n 1 dX6_choice_48 rfl ?_
                refine wf_callUD (As := [.ref (a 0), .int (nI n), .int (nI c0)]) (rest := []) 16 (c_X0_prefers (k := 5) hI (by omega) (by omega) (Or.inr rfl)) kU_X6_25_X1 rfl (by decide) (by decide) (Nat.le_of_ble_eq_true rfl) rfl rfl rfl dX6_choice_49 ?_
                refine wf_if_eq_b 58 dX6_choice_52 (by decide) (fun c52 => ?_) (fun c52 => ?_)
                · refine wf_iinc (nI (n + 1)) 0 [(4, .int (nI (n + 1))), (3, .int (nI c0)), (0, .ref (kk 5)), (1, .ref (a 0)), (2, .int (nI t))] dX6_choice_58 rfl (nI_1 n) (by decide) rfl ?_
                  refine wf_goto 6 dX6_choice_61 (by decide) ?_
                  refine wf_sub (lv' := [(4, .int (nI (n + 1))), (3, .int (nI c0)), (0, .ref (kk 5)), (1, .ref (a 0)), (2, .int (nI t))]) [0, 1, 2, 3, 4] rfl ?_
                  refine wf_lvc [(4, .int (nI (n + 1))), (3, .int (eO (eCh g 5 t (n + 1)))), (0, .ref (kk 5)), (1, .ref (a 0)), (2, .int (nI t))] (by rw [eS_not c22 c32 hco c52]; rfl) ?_
                  exact ih6 (n + 1) (by omega) (by omega)
                · refine wf_iload 0 dX6_choice_55 rfl ?_
                  refine wf_istore_n [(3, .int (nI n)), (4, .int (nI n)), (0, .ref (kk 5)), (1, .ref (a 0)), (2, .int (nI t))] dX6_choice_57 rfl (by decide) rfl ?_
                  refine wf_iinc (nI (n + 1)) 1 [(4, .int (nI (n + 1))), (3, .int (nI n)), (0, .ref (kk 5)), (1, .ref (a 0)), (2, .int (nI t))] dX6_choice_58 rfl (nI_1 n) (by decide) rfl ?_
                  refine wf_goto 6 dX6_choice_61 (by decide) ?_
                  refine wf_sub (lv' := [(4, .int (nI (n + 1))), (3, .int (nI n)), (0, .ref (kk 5)), (1, .ref (a 0)), (2, .int (nI t))]) [0, 1, 2, 3, 4] rfl ?_
                  refine wf_lvc [(4, .int (nI (n + 1))), (3, .int (eO (eCh g 5 t (n + 1)))), (0, .ref (kk 5)), (1, .ref (a 0)), (2, .int (nI t))] (by rw [eS_prf c22 c32 hco c52]; rfl) ?_
                  exact ih6 (n + 1) (by omega) (by omega)
          · refine wf_goto 58 dX6_choice_35 (by decide) ?_
            refine wf_iinc (nI (n + 1)) 0 [(4, .int (nI (n + 1))), (3, .int (eO (eCh g 5 t n))), (0, .ref (kk 5)), (1, .ref (a 0)), (2, .int (nI t))] dX6_choice_58 rfl (nI_1 n) (by decide) rfl ?_
            refine wf_goto 6 dX6_choice_61 (by decide) ?_
            refine wf_sub (lv' := [(4, .int (nI (n + 1))), (3, .int (eO (eCh g 5 t n))), (0, .ref (kk 5)), (1, .ref (a 0)), (2, .int (nI t))]) [0, 1, 2, 3, 4] rfl ?_
            rw [show eO (eCh g 5 t n) = eO (eCh g 5 t (n + 1)) from congrArg eO (eS_no2 c32).symm]
            exact ih6 (n + 1) (by omega) (by omega)
  refine wf_sub (lv' := [(4, .int (nI 0)), (3, .int (-9)), (0, .ref (kk 5)), (1, .ref (a 0)), (2, .int (nI t))]) [0, 1, 2, 3, 4] rfl ?_
  exact L6 _ 0 (Nat.lt_succ_self _) (Nat.zero_le _)
