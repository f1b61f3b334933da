theorem wf_dmeals {l : Launch} {E : Ev} {cc : ByteArray} {nL : Nat} {ret : Option FieldType} {rm : Room} {ini : Bool} {Xt : State → Prop} {QQ : Qe} {w0 : va_W} {ce sl pc : Nat} {lv : List (Nat × Value)} {rest : List Value} {g : Gd} {a kk : Nat → Nat} {r : va_W} {k : Nat} (hk : k ≤ 5)  (hR : 0 + 1 ≤ rm.frames ∧ 8 + (1 + 11) + 0 ≤ rm.locals) (hcs : ce ≤ rm.cells ∧ sl ≤ rm.slots) (hcat : (rest.map fun v => v.category).sum ≤ 8) (d : decode cc pc = .ok (.invokevirtual 91, 3)) (kont : WF l E RX2 cc nL ret rm ini Xt QQ w0 ce sl (pc + 3) lv (.int (nI (if k = 4 then 2 else 1)) :: rest) (wg E (kk 6) a g ++ (wk E kk ++ r))) : WF l E RX2 cc nL ret rm ini Xt QQ w0 ce sl pc lv (.ref (kk k) :: rest) (wg E (kk 6) a g ++ (wk E kk ++ r)) := by
  rcases (show k = 0 ∨ k = 1 ∨ k = 2 ∨ k = 3 ∨ k = 4 ∨ k = 5 by omega) with rfl | rfl | rfl | rfl | rfl | rfl
  · exact wf_callUD (As := []) (rest := rest) 11 (c_X6_meals) kU_X2_91_X6 rfl hR ⟨rfl, rfl, hcs⟩ hcat rfl rfl rfl d kont
  · exact wf_callUD (As := []) (rest := rest) 12 (c_X6_meals) kU_X2_91_X7 rfl hR ⟨rfl, rfl, hcs⟩ hcat rfl rfl rfl d kont
  · exact wf_callUD (As := []) (rest := rest) 13 (c_X6_meals) kU_X2_91_X0 rfl hR ⟨rfl, rfl, hcs⟩ hcat rfl rfl rfl d kont
  · exact wf_callUD (As := []) (rest := rest) 14 (c_X6_meals) kU_X2_91_X5 rfl hR ⟨rfl, rfl, hcs⟩ hcat rfl rfl rfl d kont
  · exact wf_callUD (As := []) (rest := rest) 15 (c_X3_meals) kU_X2_91_X3 rfl hR ⟨rfl, rfl, hcs⟩ hcat rfl rfl rfl d kont
  · exact wf_callUD (As := []) (rest := rest) 16 (c_X6_meals) kU_X2_91_X1 rfl hR ⟨rfl, rfl, hcs⟩ hcat rfl rfl rfl d kont
theorem wf_dchoice {l : Launch} {E : Ev} {cc : ByteArray} {nL : Nat} {ret : Option FieldType} {rm : Room} {ini : Bool} {Xt : State → Prop} {QQ : Qe} {w0 : va_W} {ce sl pc : Nat} {lv : List (Nat × Value)} {rest : List Value} {g : Gd} {a kk : Nat → Nat} {r : va_W} {k t : Nat} (hk : k ≤ 5) (hI : Inv g) (ht : t < 1000) (hR : 2 + 1 ≤ rm.frames ∧ 8 + (5 + 11) + 45 ≤ rm.locals) (hcs : ce ≤ rm.cells ∧ sl ≤ rm.slots) (hcat : (rest.map fun v => v.category).sum ≤ 8) (d : decode cc pc = .ok (.invokevirtual 96, 3)) (kont : WF l E RX2 cc nL ret rm ini Xt QQ w0 ce sl (pc + 3) lv (.int (eO (eCho g k t)) :: rest) (wg E (kk 6) a g ++ (wk E kk ++ r))) : WF l E RX2 cc nL ret rm ini Xt QQ w0 ce sl pc lv (.int (nI t) :: .ref (a 0) :: .ref (kk k) :: rest) (wg E (kk 6) a g ++ (wk E kk ++ r)) := by
  rcases (show k = 0 ∨ k = 1 ∨ k = 2 ∨ k = 3 ∨ k = 4 ∨ k = 5 by omega) with rfl | rfl | rfl | rfl | rfl | rfl
  · exact wf_callUD (As := [.ref (a 0), .int (nI t)]) (rest := rest) 11 (c_X6_choice_0 hI ht) kU_X2_96_X6 rfl hR ⟨rfl, rfl, hcs⟩ hcat rfl rfl rfl d kont
  · exact wf_callUD (As := [.ref (a 0), .int (nI t)]) (rest := rest) 12 (c_X6_choice_1 hI ht) kU_X2_96_X7 rfl hR ⟨rfl, rfl, hcs⟩ hcat rfl rfl rfl d kont
  · exact wf_callUD (As := [.ref (a 0), .int (nI t)]) (rest := rest) 13 (c_X6_choice_2 hI ht) kU_X2_96_X0 rfl hR ⟨rfl, rfl, hcs⟩ hcat rfl rfl rfl d kont
  · exact wf_callUD (As := [.ref (a 0), .int (nI t)]) (rest := rest) 14 (c_X6_choice_3 hI ht) kU_X2_96_X5 rfl hR ⟨rfl, rfl, hcs⟩ hcat rfl rfl rfl d kont
  · exact wf_callUD (As := [.ref (a 0), .int (nI t)]) (rest := rest) 15 (c_X6_choice_4 hI ht) kU_X2_96_X3 rfl hR ⟨rfl, rfl, hcs⟩ hcat rfl rfl rfl d kont
  · exact wf_callUD (As := [.ref (a 0), .int (nI t)]) (rest := rest) 16 (c_X6_choice_5 hI ht) kU_X2_96_X1 rfl hR ⟨rfl, rfl, hcs⟩ hcat rfl rfl rfl d kont
theorem wf_dchoice8 {l : Launch} {E : Ev} {cc : ByteArray} {nL : Nat} {ret : Option FieldType} {rm : Room} {ini : Bool} {Xt : State → Prop} {QQ : Qe} {w0 : va_W} {ce sl pc : Nat} {lv : List (Nat × Value)} {rest : List Value} {g : Gd} {a kk : Nat → Nat} {r : va_W} {k t : Nat} (hk : k ≤ 5) (hI : Inv g) (ht : t < 1000) (hR : 2 + 1 ≤ rm.frames ∧ 8 + (5 + 11) + 45 ≤ rm.locals) (hcs : ce ≤ rm.cells ∧ sl ≤ rm.slots) (hcat : (rest.map fun v => v.category).sum ≤ 8) (d : decode cc pc = .ok (.invokevirtual 131, 3)) (kont : WF l E RX8 cc nL ret rm ini Xt QQ w0 ce sl (pc + 3) lv (.int (eO (eCho g k t)) :: rest) (wg E (kk 6) a g ++ (wk E kk ++ r))) : WF l E RX8 cc nL ret rm ini Xt QQ w0 ce sl pc lv (.int (nI t) :: .ref (a 0) :: .ref (kk k) :: rest) (wg E (kk 6) a g ++ (wk E kk ++ r)) := by
  rcases (show k = 0 ∨ k = 1 ∨ k = 2 ∨ k = 3 ∨ k = 4 ∨ k = 5 by omega) with rfl | rfl | rfl | rfl | rfl | rfl
  · exact wf_callUD (As := [.ref (a 0), .int (nI t)]) (rest := rest) 11 (c_X6_choice_0 hI ht) kU_X8_131_X6 rfl hR ⟨rfl, rfl, hcs⟩ hcat rfl rfl rfl d kont
  · exact wf_callUD (As := [.ref (a 0), .int (nI t)]) (rest := rest) 12 (c_X6_choice_1 hI ht) kU_X8_131_X7 rfl hR ⟨rfl, rfl, hcs⟩ hcat rfl rfl rfl d kont
  · exact wf_callUD (As := [.ref (a 0), .int (nI t)]) (rest := rest) 13 (c_X6_choice_2 hI ht) kU_X8_131_X0 rfl hR ⟨rfl, rfl, hcs⟩ hcat rfl rfl rfl d kont
  · exact wf_callUD (As := [.ref (a 0), .int (nI t)]) (rest := rest) 14 (c_X6_choice_3 hI ht) kU_X8_131_X5 rfl hR ⟨rfl, rfl, hcs⟩ hcat rfl rfl rfl d kont
  · exact wf_callUD (As := [.ref (a 0), .int (nI t)]) (rest := rest) 15 (c_X6_choice_4 hI ht) kU_X8_131_X3 rfl hR ⟨rfl, rfl, hcs⟩ hcat rfl rfl rfl d kont
  · exact wf_callUD (As := [.ref (a 0), .int (nI t)]) (rest := rest) 16 (c_X6_choice_5 hI ht) kU_X8_131_X1 rfl hR ⟨rfl, rfl, hcs⟩ hcat rfl rfl rfl d kont
abbrev rmX2_passHour : Room := { frames := 3, cells := 0, slots := 0, locals := 69 }
set_option maxHeartbeats 4000000 in
set_option maxRecDepth 100000 in
theorem c_X2_passHour {l : Launch} {E : Ev} {g : Gd} {a kk : Nat → Nat} {r : va_W} (hI : Inv g) : CT l E yX2_passHour cX2_passHour 7 (some .int) rmX2_passHour [.ref (a 0)] (wg E (kk 6) a g ++ (wk E kk ++ r)) (IS (some (.int (nI (eLeftN g) - nI (eLeftN (eHr g))))) (wg E (kk 6) a (eHr g) ++ (wk E kk ++ r))) := by
  refine CT.of (lv := [(0, .ref (a 0))]) false (by decide +kernel) (by decide) (Nat.le_of_ble_eq_true rfl) rfl ?_
  have f0 := hI.words
  have f1 := hI.birds
  have f2 := hI.gone
  have f3 := hI.hour
  have f4 := hI.left
  refine wf_aload_n 0 dX2_passHour_0 rfl ?_
  refine wf_getf (C := RX2) (T := TX2) (N := 14) (v := .int (nI (g 9 3))) 0 13 in_X2 rfl rfl (by decide) fl_X2_59 rfl dX2_passHour_1 ?_
  refine wf_bipush (nI 8) dX2_passHour_4 (by decide) ?_
  refine wf_icmp_lt_n 11 dX2_passHour_6 (by decide) (by omega) (by omega) (fun c6 => ?_) (fun c6 => ?_)
  · refine wf_aload_n 0 dX2_passHour_11 rfl ?_
    refine wf_callVD (As := []) (rest := []) 0 (c_X2_countLeft hI) kV_X2_84 rfl (by decide) (by decide) (Nat.le_of_ble_eq_true rfl) rfl rfl rfl dX2_passHour_12 ?_
    refine wf_istore_n [(1, .int (nI (eLeftN g))), (0, .ref (a 0))] dX2_passHour_15 rfl (by decide) rfl ?_
    refine wf_iconst (nI 0) dX2_passHour_16 (by decide) ?_
    refine wf_istore_n [(2, .int (nI 0)), (1, .int (nI (eLeftN g))), (0, .ref (a 0))] dX2_passHour_17 rfl (by decide) rfl ?_
    have L18 : ∀ (fu18 : Nat) (b : Nat), g 9 1 - b < fu18 → (b ≤ g 9 1) → WF l E RX2 cX2_passHour 7 (some .int) rmX2_passHour false (fun _ => True) (QM E (wg E (kk 6) a g ++ (wk E kk ++ r)) (IS (some (.int (nI (eLeftN g) - nI (eLeftN (eHr g))))) (wg E (kk 6) a (eHr g) ++ (wk E kk ++ r))) rmX2_passHour) (wg E (kk 6) a g ++ (wk E kk ++ r)) 0 0 18 [(2, .int (nI b)), (0, .ref (a 0)), (1, .int (nI (eLeftN g)))] [] (wg E (kk 6) a (eBirds g b) ++ (wk E kk ++ r)) := by
      intro fu18
      induction fu18 with
      | zero => intro b hn; exact absurd hn (Nat.not_lt_zero _)
      | succ fu18 ih18 =>
        intro b hn hb
        have hB := hI.oBirds b
        have hbf : ∀ f i, ¬ (f = 9 ∧ i = 2) → eBirds g b f i = g f i := fun f i h => eBirds_f h
        have e91 := hbf 9 1 (by decide)
        have e93 := hbf 9 3 (by decide)
        have e5 := hbf 5 b (by omega)
        have e6 := hbf 6 b (by omega)
        have eK := hbf 3 b (by omega)
        have e4 := hbf 4 b (by omega)
        have g5 := hI.fro b
        have g6 := hI.til b
        have g4 := hI.taste b
        have g3 := hI.kind b
        refine wf_iload_n 0 dX2_passHour_18 rfl ?_
        refine wf_aload_n 1 dX2_passHour_19 rfl ?_
        refine wf_getf (C := RX2) (T := TX2) (N := 14) (v := .int (nI ((eBirds g b) 9 1))) 0 9 in_X2 rfl rfl (by decide) fl_X2_53 rfl dX2_passHour_20 ?_
        refine wf_icmp_ge_n 135 dX2_passHour_23 (by decide) (by omega) (by omega) (fun c23 => ?_) (fun c23 => ?_)
        · have hbe : b = g 9 1 := by omega
          subst hbe
          have hh : gs (eBirds g (g 9 1)) 9 3 (eBirds g (g 9 1) 9 3 + 1) = eHr g := by unfold eHr; rw [if_neg (by omega), e93]
          refine wf_aload_n 1 dX2_passHour_135 rfl ?_
          refine wf_dup dX2_passHour_136 rfl ?_
          refine wf_getf (C := RX2) (T := TX2) (N := 14) (v := .int (nI ((eBirds g (g 9 1)) 9 3))) 0 13 in_X2 rfl rfl (by decide) fl_X2_59 rfl dX2_passHour_137 ?_
          refine wf_iconst (nI 1) dX2_passHour_140 (by decide) ?_
          refine wf_iadd (nI (((eBirds g (g 9 1)) 9 3) + 1)) dX2_passHour_141 (nI_add ((eBirds g (g 9 1)) 9 3) 1) ?_
          refine wf_putf (C := RX2) (T := TX2) (N := 14) (ty := .int) 0 13 (wg E (kk 6) a (gs (eBirds g (g 9 1)) 9 3 (((eBirds g (g 9 1)) 9 3) + 1)) ++ (wk E kk ++ r)) tyX2 in_X2 tyX2_ok nmX2 rfl rfl (by decide) fl_X2_59 rfl (by decide +kernel) (by rfl) rfl (Nat.le_of_ble_eq_true rfl) (sf 0 (Nat.le_of_ble_eq_true rfl) (wg_put3 (((eBirds g (g 9 1)) 9 3) + 1))) dX2_passHour_142 ?_
          rw [hh]
          refine wf_iload_n 2 dX2_passHour_145 rfl ?_
          refine wf_aload_n 1 dX2_passHour_146 rfl ?_
          refine wf_callVD (As := []) (rest := [.int (nI (eLeftN g))]) 0 (c_X2_countLeft hI.oHr) kV_X2_84 rfl (by decide) (by decide) (Nat.le_of_ble_eq_true rfl) rfl rfl rfl dX2_passHour_147 ?_
          refine wf_isub ((nI (eLeftN g)) - (nI (eLeftN (eHr g)))) dX2_passHour_150 rfl ?_
          exact wf_iret .int rfl (vp_nar_int _) ⟨rfl, rfl⟩ ⟨congrArg (fun z => some (Value.int z)) (rfl), rfl⟩ dX2_passHour_151
        · refine wf_aload_n 1 dX2_passHour_26 rfl ?_
          refine wf_getf (C := RX2) (T := TX2) (N := 14) (v := .ref (a 6)) 0 7 in_X2 rfl rfl (by decide) fl_X2_27 rfl dX2_passHour_27 ?_
          refine wf_iload_n 0 dX2_passHour_30 rfl ?_
          refine wf_iald_n (nI ((eBirds g b) 5 b)) 6 rfl (by omega) (by decide) rfl dX2_passHour_31 ?_
          refine wf_aload_n 1 dX2_passHour_32 rfl ?_
          refine wf_getf (C := RX2) (T := TX2) (N := 14) (v := .int (nI ((eBirds g b) 9 3))) 0 13 in_X2 rfl rfl (by decide) fl_X2_59 rfl dX2_passHour_33 ?_
          refine wf_icmp_gt_n 56 dX2_passHour_36 (by decide) (by omega) (by omega) (fun c36 => ?_) (fun c36 => ?_)
          · refine wf_iconst (nI 0) dX2_passHour_56 (by decide) ?_
            refine wf_istore_n [(3, .int (nI 0)), (2, .int (nI b)), (0, .ref (a 0)), (1, .int (nI (eLeftN g)))] dX2_passHour_57 rfl (by decide) rfl ?_
            refine wf_iload_n 0 dX2_passHour_58 rfl ?_
            refine wf_if_eq_n 73 dX2_passHour_59 (by decide) (by decide) (fun c59 => ?_) (fun c59 => ?_)
            · refine wf_iconst (nI 0) dX2_passHour_73 (by decide) ?_
              refine wf_istore [(4, .int (nI 0)), (3, .int (nI 0)), (2, .int (nI b)), (0, .ref (a 0)), (1, .int (nI (eLeftN g)))] dX2_passHour_74 (by decide) rfl ?_
              obtain ⟨M, hM, hM2⟩ : ∃ M, eMeals g b = M ∧ M = 0 := ⟨0, (by unfold eMeals; rw [if_neg (by omega)]), rfl⟩
              refine wf_lvc [(4, .int (nI M)), (3, .int (nI 0)), (2, .int (nI b)), (0, .ref (a 0)), (1, .int (nI (eLeftN g)))] (by rw [hM2]) ?_
              have hM3 : M ≤ 2 := by rw [hM2]; omega
              refine wf_iconst (nI 0) dX2_passHour_76 (by decide) ?_
              refine wf_istore [(5, .int (nI 0)), (4, .int (nI M)), (3, .int (nI 0)), (2, .int (nI b)), (0, .ref (a 0)), (1, .int (nI (eLeftN g)))] dX2_passHour_77 (by decide) rfl ?_
              have L79 : ∀ (fu79 : Nat) (i : Nat), M - i < fu79 → (i ≤ M) → WF l E RX2 cX2_passHour 7 (some .int) rmX2_passHour false (fun _ => True) (QM E (wg E (kk 6) a g ++ (wk E kk ++ r)) (IS (some (.int (nI (eLeftN g) - nI (eLeftN (eHr g))))) (wg E (kk 6) a (eHr g) ++ (wk E kk ++ r))) rmX2_passHour) (wg E (kk 6) a g ++ (wk E kk ++ r)) 0 0 79 [(5, .int (nI i)), (4, .int (nI M)), (2, .int (nI b)), (0, .ref (a 0)), (1, .int (nI (eLeftN g)))] [] (wg E (kk 6) a (eEats (eBirds g b) b i) ++ (wk E kk ++ r)) := by
                intro fu79
                induction fu79 with
                | zero => intro i hn; exact absurd hn (Nat.not_lt_zero _)
                | succ fu79 ih79 =>
                  intro i hn hi
                  have hE := hB.oEats b i
                  have hef : ∀ f j, ¬ (f = 9 ∧ j = 2) → eEats (eBirds g b) b i f j = g f j := fun f j h => (eEats_f h).trans (hbf f j h)
                  have d93 := hef 9 3 (by decide)
                  have d3 := hef 3 b (by omega)
                  have d4 := hef 4 b (by omega)
                  have d2 := hE.gone
                  have d0 := hef 9 0 (by decide)
                  refine wf_iload 0 dX2_passHour_79 rfl ?_
                  refine wf_iload 1 dX2_passHour_81 rfl ?_
                  refine wf_icmp_ge_n 129 dX2_passHour_83 (by decide) (by omega) (by omega) (fun c83 => ?_) (fun c83 => ?_)
                  · refine wf_iinc (nI (b + 1)) 2 [(2, .int (nI (b + 1))), (5, .int (nI i)), (4, .int (nI M)), (0, .ref (a 0)), (1, .int (nI (eLeftN g)))] dX2_passHour_129 rfl (nI_1 b) (by decide) rfl ?_
                    refine wf_goto 18 dX2_passHour_132 (by decide) ?_
                    refine wf_sub (lv' := [(2, .int (nI (b + 1))), (0, .ref (a 0)), (1, .int (nI (eLeftN g)))]) [0, 3, 4] rfl ?_
                    refine wf_world (wg E (kk 6) a (eBirds g (b + 1)) ++ (wk E kk ++ r)) (by rw [show eBirds g (b + 1) = eEats (eBirds g b) b (eMeals g b) from rfl, hM, show i = M by omega]) ?_
                    exact ih18 (b + 1) (by omega) (by omega)
                  · refine wf_aload_n 3 dX2_passHour_86 rfl ?_
                    refine wf_iload_n 2 dX2_passHour_87 rfl ?_
                    refine wf_callVD (As := [.int (nI b)]) (rest := []) 0 (c_X2_kindOf hE (by omega)) kV_X2_87 rfl (by decide) (by decide) (Nat.le_of_ble_eq_true rfl) rfl rfl rfl dX2_passHour_88 ?_
                    refine wf_aload_n 3 dX2_passHour_91 rfl ?_
                    refine wf_aload_n 3 dX2_passHour_92 rfl ?_
                    refine wf_getf (C := RX2) (T := TX2) (N := 14) (v := .ref (a 5)) 0 6 in_X2 rfl rfl (by decide) fl_X2_24 rfl dX2_passHour_93 ?_
                    refine wf_iload_n 2 dX2_passHour_96 rfl ?_
                    refine wf_iald_n (nI ((eEats (eBirds g b) b i) 4 b)) 5 rfl (by omega) (by decide) rfl dX2_passHour_97 ?_
                    refine wf_dchoice (k := ((eEats (eBirds g b) b i) 3 b)) (t := (eEats (eBirds g b) b i) 4 b) (by rw [d3]; exact g3) hE (by rw [d4]; omega) (by decide) (by decide) (Nat.le_of_ble_eq_true rfl) dX2_passHour_98 ?_
                    refine wf_istore [(6, .int (eO (eCho (eEats (eBirds g b) b i) ((eEats (eBirds g b) b i) 3 b) ((eEats (eBirds g b) b i) 4 b)))), (5, .int (nI i)), (4, .int (nI M)), (2, .int (nI b)), (0, .ref (a 0)), (1, .int (nI (eLeftN g)))] dX2_passHour_101 (by decide) rfl ?_
                    rcases hco : eCho (eEats (eBirds g b) b i) ((eEats (eBirds g b) b i) 3 b) ((eEats (eBirds g b) b i) 4 b) with _ | w
                    · refine wf_iload 0 dX2_passHour_103 rfl ?_
                      refine wf_bipush (-9) dX2_passHour_105 (by decide) ?_
                      refine wf_icmp_eq 123 dX2_passHour_107 (by decide) (fun c107 => ?_) (fun c107 => ?_)
                      · refine wf_iinc (nI (i + 1)) 1 [(5, .int (nI (i + 1))), (6, .int (eO none)), (4, .int (nI M)), (2, .int (nI b)), (0, .ref (a 0)), (1, .int (nI (eLeftN g)))] dX2_passHour_123 rfl (nI_1 i) (by decide) rfl ?_
                        refine wf_goto 79 dX2_passHour_126 (by decide) ?_
                        refine wf_sub (lv' := [(5, .int (nI (i + 1))), (4, .int (nI M)), (2, .int (nI b)), (0, .ref (a 0)), (1, .int (nI (eLeftN g)))]) [0, 2, 3, 4, 5] rfl ?_
                        refine wf_world (wg E (kk 6) a (eEats (eBirds g b) b (i + 1)) ++ (wk E kk ++ r)) (by rw [show eEats (eBirds g b) b (i + 1) = eGo (eEats (eBirds g b) b i) (eCho (eEats (eBirds g b) b i) ((eEats (eBirds g b) b i) 3 b) ((eEats (eBirds g b) b i) 4 b)) from rfl, hco]; rfl) ?_
                        exact ih79 (i + 1) (by omega) (by omega)
                      · exact absurd rfl c107
                    · have hw := eCh_lt _ _ _ _ w hco
                      have sh : 1 <<< w < 1024 := by rw [Nat.shiftLeft_eq, Nat.one_mul]; exact Nat.lt_of_lt_of_le (Nat.pow_lt_pow_right (by decide) (show w < 10 by omega)) (by decide)
                      refine wf_iload 0 dX2_passHour_103 rfl ?_
                      refine wf_bipush (-9) dX2_passHour_105 (by decide) ?_
                      refine wf_icmp_eq 123 dX2_passHour_107 (by decide) (fun c107 => ?_) (fun c107 => ?_)
                      · exact absurd c107 (ne9 (by omega))
                      · refine wf_aload_n 4 dX2_passHour_110 rfl ?_
                        refine wf_dup dX2_passHour_111 rfl ?_
                        refine wf_getf (C := RX2) (T := TX2) (N := 14) (v := .int (nI ((eEats (eBirds g b) b i) 9 2))) 0 12 in_X2 rfl rfl (by decide) fl_X2_56 rfl dX2_passHour_112 ?_
                        refine wf_iconst (nI 1) dX2_passHour_115 (by decide) ?_
                        refine wf_iload 0 dX2_passHour_116 rfl ?_
                        refine wf_ishl (nI (1 <<< w)) dX2_passHour_118 (nI_shl (by omega) (by omega)) ?_
                        refine wf_ior (nI (((eEats (eBirds g b) b i) 9 2) ||| (1 <<< w))) dX2_passHour_119 (nI_lor (by omega) (by omega)) ?_
                        refine wf_putf (C := RX2) (T := TX2) (N := 14) (ty := .int) 0 12 (wg E (kk 6) a (gs (eEats (eBirds g b) b i) 9 2 (((eEats (eBirds g b) b i) 9 2) ||| (1 <<< w))) ++ (wk E kk ++ r)) tyX2 in_X2 tyX2_ok nmX2 rfl rfl (by decide) fl_X2_56 rfl (by decide +kernel) (by rfl) rfl (Nat.le_of_ble_eq_true rfl) (sf 0 (Nat.le_of_ble_eq_true rfl) (wg_put2 (((eEats (eBirds g b) b i) 9 2) ||| (1 <<< w)))) dX2_passHour_120 ?_
                        refine wf_iinc (nI (i + 1)) 1 [(5, .int (nI (i + 1))), (6, .int (nI w)), (4, .int (nI M)), (2, .int (nI b)), (0, .ref (a 0)), (1, .int (nI (eLeftN g)))] dX2_passHour_123 rfl (nI_1 i) (by decide) rfl ?_
                        refine wf_goto 79 dX2_passHour_126 (by decide) ?_
                        refine wf_sub (lv' := [(5, .int (nI (i + 1))), (4, .int (nI M)), (2, .int (nI b)), (0, .ref (a 0)), (1, .int (nI (eLeftN g)))]) [0, 2, 3, 4, 5] rfl ?_
                        refine wf_world (wg E (kk 6) a (eEats (eBirds g b) b (i + 1)) ++ (wk E kk ++ r)) (by rw [show eEats (eBirds g b) b (i + 1) = eGo (eEats (eBirds g b) b i) (eCho (eEats (eBirds g b) b i) ((eEats (eBirds g b) b i) 3 b) ((eEats (eBirds g b) b i) 4 b)) from rfl, hco]; rfl) ?_
                        exact ih79 (i + 1) (by omega) (by omega)
              refine wf_sub (lv' := [(5, .int (nI 0)), (4, .int (nI M)), (2, .int (nI b)), (0, .ref (a 0)), (1, .int (nI (eLeftN g)))]) [0, 1, 3, 4, 5] rfl ?_
              exact L79 _ 0 (Nat.lt_succ_self _) (Nat.zero_le _)
            · exact absurd rfl c59
          · refine wf_aload_n 1 dX2_passHour_39 rfl ?_
            refine wf_getf (C := RX2) (T := TX2) (N := 14) (v := .int (nI ((eBirds g b) 9 3))) 0 13 in_X2 rfl rfl (by decide) fl_X2_59 rfl dX2_passHour_40 ?_
            refine wf_aload_n 1 dX2_passHour_43 rfl ?_
            refine wf_getf (C := RX2) (T := TX2) (N := 14) (v := .ref (a 7)) 0 8 in_X2 rfl rfl (by decide) fl_X2_30 rfl dX2_passHour_44 ?_
            refine wf_iload_n 0 dX2_passHour_47 rfl ?_
            refine wf_iald_n (nI ((eBirds g b) 6 b)) 7 rfl (by omega) (by decide) rfl dX2_passHour_48 ?_
            refine wf_icmp_gt_n 56 dX2_passHour_49 (by decide) (by omega) (by omega) (fun c49 => ?_) (fun c49 => ?_)
            · refine wf_iconst (nI 0) dX2_passHour_56 (by decide) ?_
              refine wf_istore_n [(3, .int (nI 0)), (2, .int (nI b)), (0, .ref (a 0)), (1, .int (nI (eLeftN g)))] dX2_passHour_57 rfl (by decide) rfl ?_
              refine wf_iload_n 0 dX2_passHour_58 rfl ?_
              refine wf_if_eq_n 73 dX2_passHour_59 (by decide) (by decide) (fun c59 => ?_) (fun c59 => ?_)
              · refine wf_iconst (nI 0) dX2_passHour_73 (by decide) ?_
                refine wf_istore [(4, .int (nI 0)), (3, .int (nI 0)), (2, .int (nI b)), (0, .ref (a 0)), (1, .int (nI (eLeftN g)))] dX2_passHour_74 (by decide) rfl ?_
                obtain ⟨M, hM, hM2⟩ : ∃ M, eMeals g b = M ∧ M = 0 := ⟨0, (by unfold eMeals; rw [if_neg (by omega)]), rfl⟩
                refine wf_lvc [(4, .int (nI M)), (3, .int (nI 0)), (2, .int (nI b)), (0, .ref (a 0)), (1, .int (nI (eLeftN g)))] (by rw [hM2]) ?_
                have hM3 : M ≤ 2 := by rw [hM2]; omega
                refine wf_iconst (nI 0) dX2_passHour_76 (by decide) ?_
                refine wf_istore [(5, .int (nI 0)), (4, .int (nI M)), (3, .int (nI 0)), (2, .int (nI b)), (0, .ref (a 0)), (1, .int (nI (eLeftN g)))] dX2_passHour_77 (by decide) rfl ?_
                have L79 : ∀ (fu79 : Nat) (i : Nat), M - i < fu79 → (i ≤ M) → WF l E RX2 cX2_passHour 7 (some .int) rmX2_passHour false (fun _ => True) (QM E (wg E (kk 6) a g ++ (wk E kk ++ r)) (IS (some (.int (nI (eLeftN g) - nI (eLeftN (eHr g))))) (wg E (kk 6) a (eHr g) ++ (wk E kk ++ r))) rmX2_passHour) (wg E (kk 6) a g ++ (wk E kk ++ r)) 0 0 79 [(5, .int (nI i)), (4, .int (nI M)), (2, .int (nI b)), (0, .ref (a 0)), (1, .int (nI (eLeftN g)))] [] (wg E (kk 6) a (eEats (eBirds g b) b i) ++ (wk E kk ++ r)) := by
                  intro fu79
                  induction fu79 with
                  | zero => intro i hn; exact absurd hn (Nat.not_lt_zero _)
                  | succ fu79 ih79 =>
                    intro i hn hi
                    have hE := hB.oEats b i
                    have hef : ∀ f j, ¬ (f = 9 ∧ j = 2) → eEats (eBirds g b) b i f j = g f j := fun f j h => (eEats_f h).trans (hbf f j h)
                    have d93 := hef 9 3 (by decide)
                    have d3 := hef 3 b (by omega)
                    have d4 := hef 4 b (by omega)
                    have d2 := hE.gone
                    have d0 := hef 9 0 (by decide)
                    refine wf_iload 0 dX2_passHour_79 rfl ?_
                    refine wf_iload 1 dX2_passHour_81 rfl ?_
                    refine wf_icmp_ge_n 129 dX2_passHour_83 (by decide) (by omega) (by omega) (fun c83 => ?_) (fun c83 => ?_)
                    · refine wf_iinc (nI (b + 1)) 2 [(2, .int (nI (b + 1))), (5, .int (nI i)), (4, .int (nI M)), (0, .ref (a 0)), (1, .int (nI (eLeftN g)))] dX2_passHour_129 rfl (nI_1 b) (by decide) rfl ?_
                      refine wf_goto 18 dX2_passHour_132 (by decide) ?_
                      refine wf_sub (lv' := [(2, .int (nI (b + 1))), (0, .ref (a 0)), (1, .int (nI (eLeftN g)))]) [0, 3, 4] rfl ?_
                      refine wf_world (wg E (kk 6) a (eBirds g (b + 1)) ++ (wk E kk ++ r)) (by rw [show eBirds g (b + 1) = eEats (eBirds g b) b (eMeals g b) from rfl, hM, show i = M by omega]) ?_
                      exact ih18 (b + 1) (by omega) (by omega)
                    · refine wf_aload_n 3 dX2_passHour_86 rfl ?_
                      refine wf_iload_n 2 dX2_passHour_87 rfl ?_
                      refine wf_callVD (As := [.int (nI b)]) (rest := []) 0 (c_X2_kindOf hE (by omega)) kV_X2_87 rfl (by decide) (by decide) (Nat.le_of_ble_eq_true rfl) rfl rfl rfl dX2_passHour_88 ?_
                      refine wf_aload_n 3 dX2_passHour_91 rfl ?_
                      refine wf_aload_n 3 dX2_passHour_92 rfl ?_
                      refine wf_getf (C := RX2) (T := TX2) (N := 14) (v := .ref (a 5)) 0 6 in_X2 rfl rfl (by decide) fl_X2_24 rfl dX2_passHour_93 ?_
                      refine wf_iload_n 2 dX2_passHour_96 rfl ?_
                      refine wf_iald_n (nI ((eEats (eBirds g b) b i) 4 b)) 5 rfl (by omega) (by decide) rfl dX2_passHour_97 ?_
                      refine wf_dchoice (k := ((eEats (eBirds g b) b i) 3 b)) (t := (eEats (eBirds g b) b i) 4 b) (by rw [d3]; exact g3) hE (by rw [d4]; omega) (by decide) (by decide) (Nat.le_of_ble_eq_true rfl) dX2_passHour_98 ?_
                      refine wf_istore [(6, .int (eO (eCho (eEats (eBirds g b) b i) ((eEats (eBirds g b) b i) 3 b) ((eEats (eBirds g b) b i) 4 b)))), (5, .int (nI i)), (4, .int (nI M)), (2, .int (nI b)), (0, .ref (a 0)), (1, .int (nI (eLeftN g)))] dX2_passHour_101 (by decide) rfl ?_
                      rcases hco : eCho (eEats (eBirds g b) b i) ((eEats (eBirds g b) b i) 3 b) ((eEats (eBirds g b) b i) 4 b) with _ | w
                      · refine wf_iload 0 dX2_passHour_103 rfl ?_
                        refine wf_bipush (-9) dX2_passHour_105 (by decide) ?_
                        refine wf_icmp_eq 123 dX2_passHour_107 (by decide) (fun c107 => ?_) (fun c107 => ?_)
                        · refine wf_iinc (nI (i + 1)) 1 [(5, .int (nI (i + 1))), (6, .int (eO none)), (4, .int (nI M)), (2, .int (nI b)), (0, .ref (a 0)), (1, .int (nI (eLeftN g)))] dX2_passHour_123 rfl (nI_1 i) (by decide) rfl ?_
                          refine wf_goto 79 dX2_passHour_126 (by decide) ?_
                          refine wf_sub (lv' := [(5, .int (nI (i + 1))), (4, .int (nI M)), (2, .int (nI b)), (0, .ref (a 0)), (1, .int (nI (eLeftN g)))]) [0, 2, 3, 4, 5] rfl ?_
                          refine wf_world (wg E (kk 6) a (eEats (eBirds g b) b (i + 1)) ++ (wk E kk ++ r)) (by rw [show eEats (eBirds g b) b (i + 1) = eGo (eEats (eBirds g b) b i) (eCho (eEats (eBirds g b) b i) ((eEats (eBirds g b) b i) 3 b) ((eEats (eBirds g b) b i) 4 b)) from rfl, hco]; rfl) ?_
                          exact ih79 (i + 1) (by omega) (by omega)
                        · exact absurd rfl c107
                      · have hw := eCh_lt _ _ _ _ w hco
                        have sh : 1 <<< w < 1024 := by rw [Nat.shiftLeft_eq, Nat.one_mul]; exact Nat.lt_of_lt_of_le (Nat.pow_lt_pow_right (by decide) (show w < 10 by omega)) (by decide)
                        refine wf_iload 0 dX2_passHour_103 rfl ?_
                        refine wf_bipush (-9) dX2_passHour_105 (by decide) ?_
                        refine wf_icmp_eq 123 dX2_passHour_107 (by decide) (fun c107 => ?_) (fun c107 => ?_)
                        · exact absurd c107 (ne9 (by omega))
                        · refine wf_aload_n 4 dX2_passHour_110 rfl ?_
                          refine wf_dup dX2_passHour_111 rfl ?_
                          refine wf_getf (C := RX2) (T := TX2) (N := 14) (v := .int (nI ((eEats (eBirds g b) b i) 9 2))) 0 12 in_X2 rfl rfl (by decide) fl_X2_56 rfl dX2_passHour_112 ?_
                          refine wf_iconst (nI 1) dX2_passHour_115 (by decide) ?_
                          refine wf_iload 0 dX2_passHour_116 rfl ?_
                          refine wf_ishl (nI (1 <<< w)) dX2_passHour_118 (nI_shl (by omega) (by omega)) ?_
                          refine wf_ior (nI (((eEats (eBirds g b) b i) 9 2) ||| (1 <<< w))) dX2_passHour_119 (nI_lor (by omega) (by omega)) ?_
                          refine wf_putf (C := RX2) (T := TX2) (N := 14) (ty := .int) 0 12 (wg E (kk 6) a (gs (eEats (eBirds g b) b i) 9 2 (((eEats (eBirds g b) b i) 9 2) ||| (1 <<< w))) ++ (wk E kk ++ r)) tyX2 in_X2 tyX2_ok nmX2 rfl rfl (by decide) fl_X2_56 rfl (by decide +kernel) (by rfl) rfl (Nat.le_of_ble_eq_true rfl) (sf 0 (Nat.le_of_ble_eq_true rfl) (wg_put2 (((eEats (eBirds g b) b i) 9 2) ||| (1 <<< w)))) dX2_passHour_120 ?_
                          refine wf_iinc (nI (i + 1)) 1 [(5, .int (nI (i + 1))), (6, .int (nI w)), (4, .int (nI M)), (2, .int (nI b)), (0, .ref (a 0)), (1, .int (nI (eLeftN g)))] dX2_passHour_123 rfl (nI_1 i) (by decide) rfl ?_
                          refine wf_goto 79 dX2_passHour_126 (by decide) ?_
                          refine wf_sub (lv' := [(5, .int (nI (i + 1))), (4, .int (nI M)), (2, .int (nI b)), (0, .ref (a 0)), (1, .int (nI (eLeftN g)))]) [0, 2, 3, 4, 5] rfl ?_
                          refine wf_world (wg E (kk 6) a (eEats (eBirds g b) b (i + 1)) ++ (wk E kk ++ r)) (by rw [show eEats (eBirds g b) b (i + 1) = eGo (eEats (eBirds g b) b i) (eCho (eEats (eBirds g b) b i) ((eEats (eBirds g b) b i) 3 b) ((eEats (eBirds g b) b i) 4 b)) from rfl, hco]; rfl) ?_
                          exact ih79 (i + 1) (by omega) (by omega)
                refine wf_sub (lv' := [(5, .int (nI 0)), (4, .int (nI M)), (2, .int (nI b)), (0, .ref (a 0)), (1, .int (nI (eLeftN g)))]) [0, 1, 3, 4, 5] rfl ?_
                exact L79 _ 0 (Nat.lt_succ_self _) (Nat.zero_le _)
              · exact absurd rfl c59
            · refine wf_iconst (nI 1) dX2_passHour_52 (by decide) ?_
              refine wf_goto 57 dX2_passHour_53 (by decide) ?_
              refine wf_istore_n [(3, .int (nI 1)), (2, .int (nI b)), (0, .ref (a 0)), (1, .int (nI (eLeftN g)))] dX2_passHour_57 rfl (by decide) rfl ?_
              refine wf_iload_n 0 dX2_passHour_58 rfl ?_
              refine wf_if_eq_n 73 dX2_passHour_59 (by decide) (by decide) (fun c59 => ?_) (fun c59 => ?_)
              · exact absurd c59 (by decide)
              · refine wf_aload_n 2 dX2_passHour_62 rfl ?_
                refine wf_iload_n 1 dX2_passHour_63 rfl ?_
                refine wf_callVD (As := [.int (nI b)]) (rest := []) 0 (c_X2_kindOf hB (by omega)) kV_X2_87 rfl (by decide) (by decide) (Nat.le_of_ble_eq_true rfl) rfl rfl rfl dX2_passHour_64 ?_
                refine wf_dmeals (k := ((eBirds g b) 3 b)) (by have := hI.kind b; rw [eK]; omega) (by decide) (by decide) (Nat.le_of_ble_eq_true rfl) dX2_passHour_67 ?_
                rw [eK]
                refine wf_goto 74 dX2_passHour_70 (by decide) ?_
                refine wf_istore [(4, .int (nI (if g 3 b = 4 then 2 else 1))), (3, .int (nI 1)), (2, .int (nI b)), (0, .ref (a 0)), (1, .int (nI (eLeftN g)))] dX2_passHour_74 (by decide) rfl ?_
                obtain ⟨M, hM, hM2⟩ : ∃ M, eMeals g b = M ∧ M = (if g 3 b = 4 then 2 else 1) := ⟨(if g 3 b = 4 then 2 else 1), (by unfold eMeals; rw [if_pos (by omega)]), rfl⟩
                refine wf_lvc [(4, .int (nI M)), (3, .int (nI 1)), (2, .int (nI b)), (0, .ref (a 0)), (1, .int (nI (eLeftN g)))] (by rw [hM2]) ?_
                have hM3 : M ≤ 2 := by rw [hM2]; split <;> omega
                refine wf_iconst (nI 0) dX2_passHour_76 (by decide) ?_
                refine wf_istore [(5, .int (nI 0)), (4, .int (nI M)), (3, .int (nI 1)), (2, .int (nI b)), (0, .ref (a 0)), (1, .int (nI (eLeftN g)))] dX2_passHour_77 (by decide) rfl ?_
                have L79 : ∀ (fu79 : Nat) (i : Nat), M - i < fu79 → (i ≤ M) → WF l E RX2 cX2_passHour 7 (some .int) rmX2_passHour false (fun _ => True) (QM E (wg E (kk 6) a g ++ (wk E kk ++ r)) (IS (some (.int (nI (eLeftN g) - nI (eLeftN (eHr g))))) (wg E (kk 6) a (eHr g) ++ (wk E kk ++ r))) rmX2_passHour) (wg E (kk 6) a g ++ (wk E kk ++ r)) 0 0 79 [(5, .int (nI i)), (4, .int (nI M)), (2, .int (nI b)), (0, .ref (a 0)), (1, .int (nI (eLeftN g)))] [] (wg E (kk 6) a (eEats (eBirds g b) b i) ++ (wk E kk ++ r)) := by
                  intro fu79
                  induction fu79 with
                  | zero => intro i hn; exact absurd hn (Nat.not_lt_zero _)
                  | succ fu79 ih79 =>
                    intro i hn hi
                    have hE := hB.oEats b i
                    have hef : ∀ f j, ¬ (f = 9 ∧ j = 2) → eEats (eBirds g b) b i f j = g f j := fun f j h => (eEats_f h).trans (hbf f j h)
                    have d93 := hef 9 3 (by decide)
                    have d3 := hef 3 b (by omega)
                    have d4 := hef 4 b (by omega)
                    have d2 := hE.gone
                    have d0 := hef 9 0 (by decide)
                    refine wf_iload 0 dX2_passHour_79 rfl ?_
                    refine wf_iload 1 dX2_passHour_81 rfl ?_
                    refine wf_icmp_ge_n 129 dX2_passHour_83 (by decide) (by omega) (by omega) (fun c83 => ?_) (fun c83 => ?_)
                    · refine wf_iinc (nI (b + 1)) 2 [(2, .int (nI (b + 1))), (5, .int (nI i)), (4, .int (nI M)), (0, .ref (a 0)), (1, .int (nI (eLeftN g)))] dX2_passHour_129 rfl (nI_1 b) (by decide) rfl ?_
                      refine wf_goto 18 dX2_passHour_132 (by decide) ?_
                      refine wf_sub (lv' := [(2, .int (nI (b + 1))), (0, .ref (a 0)), (1, .int (nI (eLeftN g)))]) [0, 3, 4] rfl ?_
                      refine wf_world (wg E (kk 6) a (eBirds g (b + 1)) ++ (wk E kk ++ r)) (by rw [show eBirds g (b + 1) = eEats (eBirds g b) b (eMeals g b) from rfl, hM, show i = M by omega]) ?_
                      exact ih18 (b + 1) (by omega) (by omega)
                    · refine wf_aload_n 3 dX2_passHour_86 rfl ?_
                      refine wf_iload_n 2 dX2_passHour_87 rfl ?_
                      refine wf_callVD (As := [.int (nI b)]) (rest := []) 0 (c_X2_kindOf hE (by omega)) kV_X2_87 rfl (by decide) (by decide) (Nat.le_of_ble_eq_true rfl) rfl rfl rfl dX2_passHour_88 ?_
                      refine wf_aload_n 3 dX2_passHour_91 rfl ?_
                      refine wf_aload_n 3 dX2_passHour_92 rfl ?_
                      refine wf_getf (C := RX2) (T := TX2) (N := 14) (v := .ref (a 5)) 0 6 in_X2 rfl rfl (by decide) fl_X2_24 rfl dX2_passHour_93 ?_
                      refine wf_iload_n 2 dX2_passHour_96 rfl ?_
                      refine wf_iald_n (nI ((eEats (eBirds g b) b i) 4 b)) 5 rfl (by omega) (by decide) rfl dX2_passHour_97 ?_
                      refine wf_dchoice (k := ((eEats (eBirds g b) b i) 3 b)) (t := (eEats (eBirds g b) b i) 4 b) (by rw [d3]; exact g3) hE (by rw [d4]; omega) (by decide) (by decide) (Nat.le_of_ble_eq_true rfl) dX2_passHour_98 ?_
                      refine wf_istore [(6, .int (eO (eCho (eEats (eBirds g b) b i) ((eEats (eBirds g b) b i) 3 b) ((eEats (eBirds g b) b i) 4 b)))), (5, .int (nI i)), (4, .int (nI M)), (2, .int (nI b)), (0, .ref (a 0)), (1, .int (nI (eLeftN g)))] dX2_passHour_101 (by decide) rfl ?_
                      rcases hco : eCho (eEats (eBirds g b) b i) ((eEats (eBirds g b) b i) 3 b) ((eEats (eBirds g b) b i) 4 b) with _ | w
                      · refine wf_iload 0 dX2_passHour_103 rfl ?_
                        refine wf_bipush (-9) dX2_passHour_105 (by decide) ?_
                        refine wf_icmp_eq 123 dX2_passHour_107 (by decide) (fun c107 => ?_) (fun c107 => ?_)
                        · refine wf_iinc (nI (i + 1)) 1 [(5, .int (nI (i + 1))), (6, .int (eO none)), (4, .int (nI M)), (2, .int (nI b)), (0, .ref (a 0)), (1, .int (nI (eLeftN g)))] dX2_passHour_123 rfl (nI_1 i) (by decide) rfl ?_
                          refine wf_goto 79 dX2_passHour_126 (by decide) ?_
                          refine wf_sub (lv' := [(5, .int (nI (i + 1))), (4, .int (nI M)), (2, .int (nI b)), (0, .ref (a 0)), (1, .int (nI (eLeftN g)))]) [0, 2, 3, 4, 5] rfl ?_
                          refine wf_world (wg E (kk 6) a (eEats (eBirds g b) b (i + 1)) ++ (wk E kk ++ r)) (by rw [show eEats (eBirds g b) b (i + 1) = eGo (eEats (eBirds g b) b i) (eCho (eEats (eBirds g b) b i) ((eEats (eBirds g b) b i) 3 b) ((eEats (eBirds g b) b i) 4 b)) from rfl, hco]; rfl) ?_
                          exact ih79 (i + 1) (by omega) (by omega)
                        · exact absurd rfl c107
                      · have hw := eCh_lt _ _ _ _ w hco
                        have sh : 1 <<< w < 1024 := by rw [Nat.shiftLeft_eq, Nat.one_mul]; exact Nat.lt_of_lt_of_le (Nat.pow_lt_pow_right (by decide) (show w < 10 by omega)) (by decide)
                        refine wf_iload 0 dX2_passHour_103 rfl ?_
                        refine wf_bipush (-9) dX2_passHour_105 (by decide) ?_
                        refine wf_icmp_eq 123 dX2_passHour_107 (by decide) (fun c107 => ?_) (fun c107 => ?_)
                        · exact absurd c107 (ne9 (by omega))
                        · refine wf_aload_n 4 dX2_passHour_110 rfl ?_
                          refine wf_dup dX2_passHour_111 rfl ?_
                          refine wf_getf (C := RX2) (T := TX2) (N := 14) (v := .int (nI ((eEats (eBirds g b) b i) 9 2))) 0 12 in_X2 rfl rfl (by decide) fl_X2_56 rfl dX2_passHour_112 ?_
                          refine wf_iconst (nI 1) dX2_passHour_115 (by decide) ?_
                          refine wf_iload 0 dX2_passHour_116 rfl ?_
                          refine wf_ishl (nI (1 <<< w)) dX2_passHour_118 (nI_shl (by omega) (by omega)) ?_
                          refine wf_ior (nI (((eEats (eBirds g b) b i) 9 2) ||| (1 <<< w))) dX2_passHour_119 (nI_lor (by omega) (by omega)) ?_
                          refine wf_putf (C := RX2) (T := TX2) (N := 14) (ty := .int) 0 12 (wg E (kk 6) a (gs (eEats (eBirds g b) b i) 9 2 (((eEats (eBirds g b) b i) 9 2) ||| (1 <<< w))) ++ (wk E kk ++ r)) tyX2 in_X2 tyX2_ok nmX2 rfl rfl (by decide) fl_X2_56 rfl (by decide +kernel) (by rfl) rfl (Nat.le_of_ble_eq_true rfl) (sf 0 (Nat.le_of_ble_eq_true rfl) (wg_put2 (((eEats (eBirds g b) b i) 9 2) ||| (1 <<< w)))) dX2_passHour_120 ?_
                          refine wf_iinc (nI (i + 1)) 1 [(5, .int (nI (i + 1))), (6, .int (nI w)), (4, .int (nI M)), (2, .int (nI b)), (0, .ref (a 0)), (1, .int (nI (eLeftN g)))] dX2_passHour_123 rfl (nI_1 i) (by decide) rfl ?_
                          refine wf_goto 79 dX2_passHour_126 (by decide) ?_
                          refine wf_sub (lv' := [(5, .int (nI (i + 1))), (4, .int (nI M)), (2, .int (nI b)), (0, .ref (a 0)), (1, .int (nI (eLeftN g)))]) [0, 2, 3, 4, 5] rfl ?_
                          refine wf_world (wg E (kk 6) a (eEats (eBirds g b) b (i + 1)) ++ (wk E kk ++ r)) (by rw [show eEats (eBirds g b) b (i + 1) = eGo (eEats (eBirds g b) b i) (eCho (eEats (eBirds g b) b i) ((eEats (eBirds g b) b i) 3 b) ((eEats (eBirds g b) b i) 4 b)) from rfl, hco]; rfl) ?_
                          exact ih79 (i + 1) (by omega) (by omega)
                refine wf_sub (lv' := [(5, .int (nI 0)), (4, .int (nI M)), (2, .int (nI b)), (0, .ref (a 0)), (1, .int (nI (eLeftN g)))]) [0, 1, 3, 4, 5] rfl ?_
                exact L79 _ 0 (Nat.lt_succ_self _) (Nat.zero_le _)
    refine wf_sub (lv' := [(2, .int (nI 0)), (0, .ref (a 0)), (1, .int (nI (eLeftN g)))]) [0, 2, 1] rfl ?_
    exact L18 _ 0 (Nat.lt_succ_self _) (Nat.zero_le _)
  · refine wf_iconst (nI 0) dX2_passHour_9 (by decide) ?_
    exact wf_iret .int rfl (vp_nar_int _) ⟨rfl, rfl⟩ ⟨congrArg (fun z => some (Value.int z)) (by rw [eHr_dusk (by omega)]; exact (Int32.sub_self _).symm), (by rw [eHr_dusk (by omega)])⟩ dX2_passHour_10
