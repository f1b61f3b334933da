abbrev rmX4_isFit : Room := { frames := 2, cells := 0, slots := 0, locals := 42 }
set_option maxHeartbeats 4000000 in
set_option maxRecDepth 100000 in
theorem c_X4_isFit {l : Launch} {E : Ev} {p w b : Nat} {g y : Gd} {a kk al : Nat → Nat} {r : va_W} (hy : YI y) (hp : p < 100) (hS : WS y p) (hw : w < 1000) (hb : b < 1000) : CT l E yX4_isFit cX4_isFit 4 (some .boolean) rmX4_isFit [.ref (al 0), .int (nI p), .int (nI w), .int (nI b)] (wg E (kk 6) a g ++ (wk E kk ++ (wl E al y ++ r))) (IS (some (.int (bI (eFit y p w b)))) (wg E (kk 6) a g ++ (wk E kk ++ (wl E al y ++ r)))) := by
  refine CT.of (lv := [(0, .ref (al 0)), (1, .int (nI p)), (2, .int (nI w)), (3, .int (nI b))]) false (by decide +kernel) (by decide) (Nat.le_of_ble_eq_true rfl) rfl ?_
  obtain ⟨y00, y01, y02, y1, y2⟩ := id hy
  have q2 := eLet_le y1 p
  refine wf_aload_n 0 dX4_isFit_0 rfl ?_
  refine wf_iload_n 1 dX4_isFit_1 rfl ?_
  refine wf_callVD (As := [.int (nI p)]) (rest := []) 17 (c_X4_letterAt hy (by omega)) kV_X4_39 rfl (by decide) (by decide) (Nat.le_of_ble_eq_true rfl) rfl rfl rfl dX4_isFit_2 ?_
  by_cases s5_98 : eLet y p = 98
  · refine wf_lookup (off := 60) 65 dX4_isFit_5 (by decide) (by rw [s5_98]; decide) (by decide) ?_
    have hd := ws_b hS s5_98
    have d3 := dg_le hd.2.2.1
    have d4 := dg_le hd.2.2.2
    refine wf_iload_n 3 dX4_isFit_65 rfl ?_
    refine wf_iconst (nI 4) dX4_isFit_66 (by decide) ?_
    refine wf_icmp_ge_n 94 dX4_isFit_67 (by decide) (by omega) (by omega) (fun c67 => ?_) (fun c67 => ?_)
    · refine wf_iconst (nI 0) dX4_isFit_94 (by decide) ?_
      exact wf_iret .boolean rfl (by decide) ⟨rfl, rfl⟩ ⟨congrArg (fun z => some (Value.int z)) (b1_zero (by unfold eFit; rw [if_neg (by omega), if_pos s5_98, decide_eq_false (by omega)]; rfl)), rfl⟩ dX4_isFit_95
    · refine wf_aload_n 0 dX4_isFit_70 rfl ?_
      refine wf_iload_n 1 dX4_isFit_71 rfl ?_
      refine wf_iconst (nI 3) dX4_isFit_72 (by decide) ?_
      refine wf_iadd (nI (p + 3)) dX4_isFit_73 (nI_add p 3) ?_
      refine wf_callVD (As := [.int (nI (p + 3))]) (rest := []) 17 (c_X4_digitAt hy (by omega)) kV_X4_66 rfl (by decide) (by decide) (Nat.le_of_ble_eq_true rfl) rfl rfl rfl dX4_isFit_74 ?_
      refine wf_top (y := .int (nI (eDg y (p + 3)))) (by rw [dg_i hd.2.2.1]) ?_
      refine wf_aload_n 0 dX4_isFit_77 rfl ?_
      refine wf_iload_n 1 dX4_isFit_78 rfl ?_
      refine wf_iconst (nI 4) dX4_isFit_79 (by decide) ?_
      refine wf_iadd (nI (p + 4)) dX4_isFit_80 (nI_add p 4) ?_
      refine wf_callVD (As := [.int (nI (p + 4))]) (rest := [.int (nI (eDg y (p + 3)))]) 17 (c_X4_digitAt hy (by omega)) kV_X4_66 rfl (by decide) (by decide) (Nat.le_of_ble_eq_true rfl) rfl rfl rfl dX4_isFit_81 ?_
      refine wf_top (y := .int (nI (eDg y (p + 4)))) (by rw [dg_i hd.2.2.2]) ?_
      refine wf_callSD (As := [.int (nI (eDg y (p + 3))), .int (nI (eDg y (p + 4)))]) (rest := []) (c_X4_areHours (by omega) (by omega)) kS_X4_73 rfl (by decide) (by decide) (Nat.le_of_ble_eq_true rfl) rfl dX4_isFit_84 ?_
      refine wf_if_eq_b 94 dX4_isFit_87 (by decide) (fun c87 => ?_) (fun c87 => ?_)
      · refine wf_iconst (nI 0) dX4_isFit_94 (by decide) ?_
        exact wf_iret .boolean rfl (by decide) ⟨rfl, rfl⟩ ⟨congrArg (fun z => some (Value.int z)) (b1_zero (by unfold eFit; rw [if_neg (by omega), if_pos s5_98, c87, Bool.and_false])), rfl⟩ dX4_isFit_95
      · refine wf_iconst (nI 1) dX4_isFit_90 (by decide) ?_
        refine wf_goto 95 dX4_isFit_91 (by decide) ?_
        exact wf_iret .boolean rfl (by decide) ⟨rfl, rfl⟩ ⟨congrArg (fun z => some (Value.int z)) (b1_one (by unfold eFit; rw [if_neg (by omega), if_pos s5_98, decide_eq_true c67, c87]; rfl)), rfl⟩ dX4_isFit_95
  by_cases s5_105 : eLet y p = 105
  · refine wf_lookup (off := 91) 96 dX4_isFit_5 (by decide) (by rw [s5_105]; decide) (by decide) ?_
    have hd := ws_i hS s5_105
    have d1 := dg_le hd.1
    refine wf_aload_n 0 dX4_isFit_96 rfl ?_
    refine wf_iload_n 1 dX4_isFit_97 rfl ?_
    refine wf_iconst (nI 1) dX4_isFit_98 (by decide) ?_
    refine wf_iadd (nI (p + 1)) dX4_isFit_99 (nI_add p 1) ?_
    refine wf_callVD (As := [.int (nI (p + 1))]) (rest := []) 17 (c_X4_digitAt hy (by omega)) kV_X4_66 rfl (by decide) (by decide) (Nat.le_of_ble_eq_true rfl) rfl rfl rfl dX4_isFit_100 ?_
    refine wf_top (y := .int (nI (eDg y (p + 1)))) (by rw [dg_i hd.1]) ?_
    refine wf_callNSD (As := [.int (nI (eDg y (p + 1)))]) (rest := []) (c_X8_isInk) kNS_X4_70 rfl (by decide) (by decide) (Nat.le_of_ble_eq_true rfl) rfl dX4_isFit_103 ?_
    exact wf_iret .boolean rfl (bI_nar _) ⟨rfl, rfl⟩ ⟨congrArg (fun z => some (Value.int z)) (by unfold eFit; rw [if_neg (by omega), if_neg (by omega), if_pos s5_105, eHas_n (by omega) (by decide)]), rfl⟩ dX4_isFit_106
  by_cases s5_119 : eLet y p = 119
  · refine wf_lookup (off := 35) 40 dX4_isFit_5 (by decide) (by rw [s5_119]; decide) (by decide) ?_
    have hd := ws_w hS (Or.inl s5_119)
    have d2 := dg_le hd.2.1
    refine wf_iload_n 2 dX4_isFit_40 rfl ?_
    refine wf_bipush (nI 10) dX4_isFit_41 (by decide) ?_
    refine wf_icmp_ge_n 63 dX4_isFit_43 (by decide) (by omega) (by omega) (fun c43 => ?_) (fun c43 => ?_)
    · refine wf_iconst (nI 0) dX4_isFit_63 (by decide) ?_
      exact wf_iret .boolean rfl (by decide) ⟨rfl, rfl⟩ ⟨congrArg (fun z => some (Value.int z)) (b1_zero (by unfold eFit; rw [if_pos s5_119, decide_eq_false (by omega)]; rfl)), rfl⟩ dX4_isFit_64
    · refine wf_aload_n 0 dX4_isFit_46 rfl ?_
      refine wf_iload_n 1 dX4_isFit_47 rfl ?_
      refine wf_iconst (nI 2) dX4_isFit_48 (by decide) ?_
      refine wf_iadd (nI (p + 2)) dX4_isFit_49 (nI_add p 2) ?_
      refine wf_callVD (As := [.int (nI (p + 2))]) (rest := []) 17 (c_X4_digitAt hy (by omega)) kV_X4_66 rfl (by decide) (by decide) (Nat.le_of_ble_eq_true rfl) rfl rfl rfl dX4_isFit_50 ?_
      refine wf_top (y := .int (nI (eDg y (p + 2)))) (by rw [dg_i hd.2.1]) ?_
      refine wf_callNSD (As := [.int (nI (eDg y (p + 2)))]) (rest := []) (c_X8_isInk) kNS_X4_70 rfl (by decide) (by decide) (Nat.le_of_ble_eq_true rfl) rfl dX4_isFit_53 ?_
      refine wf_if_eq_b 63 dX4_isFit_56 (by decide) (fun c56 => ?_) (fun c56 => ?_)
      · refine wf_iconst (nI 0) dX4_isFit_63 (by decide) ?_
        exact wf_iret .boolean rfl (by decide) ⟨rfl, rfl⟩ ⟨congrArg (fun z => some (Value.int z)) (b1_zero (by unfold eFit; rw [if_pos s5_119]; rw [eHas_n (by omega) (by decide)] at c56; rw [c56, Bool.and_false])), rfl⟩ dX4_isFit_64
      · refine wf_iconst (nI 1) dX4_isFit_59 (by decide) ?_
        refine wf_goto 64 dX4_isFit_60 (by decide) ?_
        exact wf_iret .boolean rfl (by decide) ⟨rfl, rfl⟩ ⟨congrArg (fun z => some (Value.int z)) (b1_one (by unfold eFit; rw [if_pos s5_119, decide_eq_true c43]; rw [eHas_n (by omega) (by decide)] at c56; rw [c56]; rfl)), rfl⟩ dX4_isFit_64
  refine wf_lookup (off := 102) 107 dX4_isFit_5 (by decide) (lk_out (by omega) (by intro q hq; simp at hq; rcases hq with rfl | rfl | rfl <;> (dsimp only; omega))) (by decide) ?_
  have hd := ws_w hS (Or.inr (ws_r hS s5_98 s5_105 s5_119))
  have d1 := dg_le hd.1
  have d2 := dg_le hd.2.1
  have d3 := dg_le hd.2.2
  refine wf_aload_n 0 dX4_isFit_107 rfl ?_
  refine wf_iload_n 1 dX4_isFit_108 rfl ?_
  refine wf_iconst (nI 1) dX4_isFit_109 (by decide) ?_
  refine wf_iadd (nI (p + 1)) dX4_isFit_110 (nI_add p 1) ?_
  refine wf_callVD (As := [.int (nI (p + 1))]) (rest := []) 17 (c_X4_digitAt hy (by omega)) kV_X4_66 rfl (by decide) (by decide) (Nat.le_of_ble_eq_true rfl) rfl rfl rfl dX4_isFit_111 ?_
  refine wf_top (y := .int (nI (eDg y (p + 1)))) (by rw [dg_i hd.1]) ?_
  refine wf_iload_n 2 dX4_isFit_114 rfl ?_
  refine wf_icmp_ge_n 142 dX4_isFit_115 (by decide) (by omega) (by omega) (fun c115 => ?_) (fun c115 => ?_)
  · refine wf_iconst (nI 0) dX4_isFit_142 (by decide) ?_
    exact wf_iret .boolean rfl (by decide) ⟨rfl, rfl⟩ ⟨congrArg (fun z => some (Value.int z)) (b1_zero (by unfold eFit; rw [if_neg s5_119, if_neg s5_98, if_neg s5_105, decide_eq_false (by omega)]; rfl)), rfl⟩ dX4_isFit_143
  · refine wf_aload_n 0 dX4_isFit_118 rfl ?_
    refine wf_iload_n 1 dX4_isFit_119 rfl ?_
    refine wf_iconst (nI 2) dX4_isFit_120 (by decide) ?_
    refine wf_iadd (nI (p + 2)) dX4_isFit_121 (nI_add p 2) ?_
    refine wf_callVD (As := [.int (nI (p + 2))]) (rest := []) 17 (c_X4_digitAt hy (by omega)) kV_X4_66 rfl (by decide) (by decide) (Nat.le_of_ble_eq_true rfl) rfl rfl rfl dX4_isFit_122 ?_
    refine wf_top (y := .int (nI (eDg y (p + 2)))) (by rw [dg_i hd.2.1]) ?_
    refine wf_aload_n 0 dX4_isFit_125 rfl ?_
    refine wf_iload_n 1 dX4_isFit_126 rfl ?_
    refine wf_iconst (nI 3) dX4_isFit_127 (by decide) ?_
    refine wf_iadd (nI (p + 3)) dX4_isFit_128 (nI_add p 3) ?_
    refine wf_callVD (As := [.int (nI (p + 3))]) (rest := [.int (nI (eDg y (p + 2)))]) 17 (c_X4_digitAt hy (by omega)) kV_X4_66 rfl (by decide) (by decide) (Nat.le_of_ble_eq_true rfl) rfl rfl rfl dX4_isFit_129 ?_
    refine wf_top (y := .int (nI (eDg y (p + 3)))) (by rw [dg_i hd.2.2]) ?_
    refine wf_callSD (As := [.int (nI (eDg y (p + 2))), .int (nI (eDg y (p + 3)))]) (rest := []) (c_X4_areHours (by omega) (by omega)) kS_X4_73 rfl (by decide) (by decide) (Nat.le_of_ble_eq_true rfl) rfl dX4_isFit_132 ?_
    refine wf_if_eq_b 142 dX4_isFit_135 (by decide) (fun c135 => ?_) (fun c135 => ?_)
    · refine wf_iconst (nI 0) dX4_isFit_142 (by decide) ?_
      exact wf_iret .boolean rfl (by decide) ⟨rfl, rfl⟩ ⟨congrArg (fun z => some (Value.int z)) (b1_zero (by unfold eFit; rw [if_neg s5_119, if_neg s5_98, if_neg s5_105, c135, Bool.and_false])), rfl⟩ dX4_isFit_143
    · refine wf_iconst (nI 1) dX4_isFit_138 (by decide) ?_
      refine wf_goto 143 dX4_isFit_139 (by decide) ?_
      exact wf_iret .boolean rfl (by decide) ⟨rfl, rfl⟩ ⟨congrArg (fun z => some (Value.int z)) (b1_one (by unfold eFit; rw [if_neg s5_119, if_neg s5_98, if_neg s5_105, decide_eq_true c115, c135]; rfl)), rfl⟩ dX4_isFit_143
abbrev rmX4_unfitPlace : Room := { frames := 3, cells := 0, slots := 0, locals := 65 }
set_option maxHeartbeats 4000000 in
set_option maxRecDepth 100000 in
theorem c_X4_unfitPlace {l : Launch} {E : Ev} {w0 b0 : Nat} {g y : Gd} {a kk al : Nat → Nat} {r : va_W} (hy : YI y) (hT : ∀ p, p < y 0 1 → eBeg y p = true → WS y p) (hw0 : w0 ≤ 10) (hb0 : b0 ≤ 4) : CT l E yX4_unfitPlace cX4_unfitPlace 6 (some .int) rmX4_unfitPlace [.ref (al 0), .int (nI w0), .int (nI b0)] (wg E (kk 6) a g ++ (wk E kk ++ (wl E al y ++ r))) (IS (some (.int (eO (eUnf y (y 0 1) 0 w0 b0)))) (wg E (kk 6) a g ++ (wk E kk ++ (wl E al y ++ r)))) := by
  refine CT.of (lv := [(0, .ref (al 0)), (1, .int (nI w0)), (2, .int (nI b0))]) false (by decide +kernel) (by decide) (Nat.le_of_ble_eq_true rfl) rfl ?_
  obtain ⟨y00, y01, y02, y1, y2⟩ := id hy
  refine wf_iload_n 1 dX4_unfitPlace_0 rfl ?_
  refine wf_istore_n [(3, .int (nI w0)), (0, .ref (al 0)), (1, .int (nI w0)), (2, .int (nI b0))] dX4_unfitPlace_1 rfl (by decide) rfl ?_
  refine wf_iload_n 3 dX4_unfitPlace_2 rfl ?_
  refine wf_istore [(4, .int (nI b0)), (3, .int (nI w0)), (0, .ref (al 0)), (1, .int (nI w0)), (2, .int (nI b0))] dX4_unfitPlace_3 (by decide) rfl ?_
  refine wf_iconst (nI 0) dX4_unfitPlace_5 (by decide) ?_
  refine wf_istore [(5, .int (nI 0)), (4, .int (nI b0)), (3, .int (nI w0)), (0, .ref (al 0)), (1, .int (nI w0)), (2, .int (nI b0))] dX4_unfitPlace_6 (by decide) rfl ?_
  have L8 : ∀ (fu8 : Nat) (q : Nat) (w : Nat) (b : Nat), y 0 1 - q < fu8 → (q ≤ y 0 1) → (w ≤ 10) → (b ≤ 4) → (eUnf y (y 0 1 - q) q w b = eUnf y (y 0 1) 0 w0 b0) → WF l E RX4 cX4_unfitPlace 6 (some .int) rmX4_unfitPlace false (fun _ => True) (QM E (wg E (kk 6) a g ++ (wk E kk ++ (wl E al y ++ r))) (IS (some (.int (eO (eUnf y (y 0 1) 0 w0 b0)))) (wg E (kk 6) a g ++ (wk E kk ++ (wl E al y ++ r)))) rmX4_unfitPlace) (wg E (kk 6) a g ++ (wk E kk ++ (wl E al y ++ r))) 0 0 8 [(5, .int (nI q)), (4, .int (nI b)), (3, .int (nI w)), (0, .ref (al 0))] [] (wg E (kk 6) a g ++ (wk E kk ++ (wl E al y ++ r))) := by
    intro fu8
    induction fu8 with
    | zero => intro q w b hn; exact absurd hn (Nat.not_lt_zero _)
    | succ fu8 ih8 =>
      intro q w b hn hq0 hw hb hu
      refine wf_iload 0 dX4_unfitPlace_8 rfl ?_
      refine wf_aload_n 3 dX4_unfitPlace_10 rfl ?_
      refine wf_getf (C := RX4) (T := TX4) (N := 2) (v := .int (nI (y 0 1))) 17 1 in_X4 rfl rfl (by decide) fl_X4_15 rfl dX4_unfitPlace_11 ?_
      refine wf_icmp_ge_n 78 dX4_unfitPlace_14 (by decide) (by omega) (by omega) (fun c14 => ?_) (fun c14 => ?_)
      · refine wf_bipush (-9) dX4_unfitPlace_78 (by decide) ?_
        exact wf_iret .int rfl (vp_nar_int _) ⟨rfl, rfl⟩ ⟨congrArg (fun z => some (Value.int z)) (by rw [← hu, show y 0 1 - q = 0 by omega]; rfl), rfl⟩ dX4_unfitPlace_80
      · refine wf_aload_n 3 dX4_unfitPlace_17 rfl ?_
        refine wf_iload 0 dX4_unfitPlace_18 rfl ?_
        refine wf_callVD (As := [.int (nI q)]) (rest := []) 17 (c_X4_beginsStatement hy (by omega)) kV_X4_31 rfl (by decide) (by decide) (Nat.le_of_ble_eq_true rfl) rfl rfl rfl dX4_unfitPlace_20 ?_
        refine wf_if_ne_b 29 dX4_unfitPlace_23 (by decide) (fun c23 => ?_) (fun c23 => ?_)
        · refine wf_aload_n 3 dX4_unfitPlace_29 rfl ?_
          refine wf_iload 0 dX4_unfitPlace_30 rfl ?_
          refine wf_iload_n 2 dX4_unfitPlace_32 rfl ?_
          refine wf_iload 1 dX4_unfitPlace_33 rfl ?_
          refine wf_callVD (As := [.int (nI q), .int (nI w), .int (nI b)]) (rest := []) 17 (c_X4_isFit hy (by omega) (hT q (by omega) c23) (by omega) (by omega)) kV_X4_62 rfl (by decide) (by decide) (Nat.le_of_ble_eq_true rfl) rfl rfl rfl dX4_unfitPlace_35 ?_
          refine wf_if_ne_b 44 dX4_unfitPlace_38 (by decide) (fun c38 => ?_) (fun c38 => ?_)
          · refine wf_aload_n 3 dX4_unfitPlace_44 rfl ?_
            refine wf_iload 0 dX4_unfitPlace_45 rfl ?_
            refine wf_callVD (As := [.int (nI q)]) (rest := []) 17 (c_X4_letterAt hy (by omega)) kV_X4_39 rfl (by decide) (by decide) (Nat.le_of_ble_eq_true rfl) rfl rfl rfl dX4_unfitPlace_47 ?_
            refine wf_bipush (nI 119) dX4_unfitPlace_50 (by decide) ?_
            refine wf_icmp_ne_n 58 dX4_unfitPlace_52 (by decide) (by have := eLet_le y1 q; omega) (by omega) (fun c52 => ?_) (fun c52 => ?_)
            · refine wf_aload_n 3 dX4_unfitPlace_58 rfl ?_
              refine wf_iload 0 dX4_unfitPlace_59 rfl ?_
              refine wf_callVD (As := [.int (nI q)]) (rest := []) 17 (c_X4_letterAt hy (by omega)) kV_X4_39 rfl (by decide) (by decide) (Nat.le_of_ble_eq_true rfl) rfl rfl rfl dX4_unfitPlace_61 ?_
              refine wf_bipush (nI 98) dX4_unfitPlace_64 (by decide) ?_
              refine wf_icmp_ne_n 72 dX4_unfitPlace_66 (by decide) (by have := eLet_le y1 q; omega) (by omega) (fun c66 => ?_) (fun c66 => ?_)
              · refine wf_iinc (nI (q + 1)) 0 [(5, .int (nI (q + 1))), (4, .int (nI b)), (3, .int (nI w)), (0, .ref (al 0))] dX4_unfitPlace_72 rfl (nI_1 q) (by decide) rfl ?_
                refine wf_goto 8 dX4_unfitPlace_75 (by decide) ?_
                refine wf_sub (lv' := [(5, .int (nI (q + 1))), (4, .int (nI b)), (3, .int (nI w)), (0, .ref (al 0))]) [0, 1, 2, 3] rfl ?_
                exact ih8 (q + 1) w b (by omega) (by omega) hw hb (by rw [← hu, show y 0 1 - q = (y 0 1 - (q + 1)) + 1 by omega]; symm; show (if _ then (if _ then _ else _) else _) = _; rw [if_pos c23, if_pos c38, if_neg c52, if_neg c66])
              · refine wf_iinc (nI (b + 1)) 1 [(4, .int (nI (b + 1))), (5, .int (nI q)), (3, .int (nI w)), (0, .ref (al 0))] dX4_unfitPlace_69 rfl (nI_1 b) (by decide) rfl ?_
                refine wf_iinc (nI (q + 1)) 1 [(5, .int (nI (q + 1))), (4, .int (nI (b + 1))), (3, .int (nI w)), (0, .ref (al 0))] dX4_unfitPlace_72 rfl (nI_1 q) (by decide) rfl ?_
                refine wf_goto 8 dX4_unfitPlace_75 (by decide) ?_
                refine wf_sub (lv' := [(5, .int (nI (q + 1))), (4, .int (nI (b + 1))), (3, .int (nI w)), (0, .ref (al 0))]) [0, 1, 2, 3] rfl ?_
                exact ih8 (q + 1) w (b + 1) (by omega) (by omega) hw (by have := fit_b c38 c66; omega) (by rw [← hu, show y 0 1 - q = (y 0 1 - (q + 1)) + 1 by omega]; symm; show (if _ then (if _ then _ else _) else _) = _; rw [if_pos c23, if_pos c38, if_neg c52, if_pos c66])
            · refine wf_iinc (nI (w + 1)) 2 [(3, .int (nI (w + 1))), (5, .int (nI q)), (4, .int (nI b)), (0, .ref (al 0))] dX4_unfitPlace_55 rfl (nI_1 w) (by decide) rfl ?_
              refine wf_aload_n 3 dX4_unfitPlace_58 rfl ?_
              refine wf_iload 1 dX4_unfitPlace_59 rfl ?_
              refine wf_callVD (As := [.int (nI q)]) (rest := []) 17 (c_X4_letterAt hy (by omega)) kV_X4_39 rfl (by decide) (by decide) (Nat.le_of_ble_eq_true rfl) rfl rfl rfl dX4_unfitPlace_61 ?_
              refine wf_bipush (nI 98) dX4_unfitPlace_64 (by decide) ?_
              refine wf_icmp_ne_n 72 dX4_unfitPlace_66 (by decide) (by have := eLet_le y1 q; omega) (by omega) (fun c66 => ?_) (fun c66 => ?_)
              · refine wf_iinc (nI (q + 1)) 1 [(5, .int (nI (q + 1))), (3, .int (nI (w + 1))), (4, .int (nI b)), (0, .ref (al 0))] dX4_unfitPlace_72 rfl (nI_1 q) (by decide) rfl ?_
                refine wf_goto 8 dX4_unfitPlace_75 (by decide) ?_
                refine wf_sub (lv' := [(5, .int (nI (q + 1))), (4, .int (nI b)), (3, .int (nI (w + 1))), (0, .ref (al 0))]) [0, 2, 1, 3] rfl ?_
                exact ih8 (q + 1) (w + 1) b (by omega) (by omega) (by have := fit_w c38 c52; omega) hb (by rw [← hu, show y 0 1 - q = (y 0 1 - (q + 1)) + 1 by omega]; symm; show (if _ then (if _ then _ else _) else _) = _; rw [if_pos c23, if_pos c38, if_pos c52, if_neg c66])
              · refine wf_iinc (nI (b + 1)) 2 [(4, .int (nI (b + 1))), (3, .int (nI (w + 1))), (5, .int (nI q)), (0, .ref (al 0))] dX4_unfitPlace_69 rfl (nI_1 b) (by decide) rfl ?_
                refine wf_iinc (nI (q + 1)) 2 [(5, .int (nI (q + 1))), (4, .int (nI (b + 1))), (3, .int (nI (w + 1))), (0, .ref (al 0))] dX4_unfitPlace_72 rfl (nI_1 q) (by decide) rfl ?_
                refine wf_goto 8 dX4_unfitPlace_75 (by decide) ?_
                refine wf_sub (lv' := [(5, .int (nI (q + 1))), (4, .int (nI (b + 1))), (3, .int (nI (w + 1))), (0, .ref (al 0))]) [0, 1, 2, 3] rfl ?_
                exact ih8 (q + 1) (w + 1) (b + 1) (by omega) (by omega) (by have := fit_w c38 c52; omega) (by have := fit_b c38 c66; omega) (by rw [← hu, show y 0 1 - q = (y 0 1 - (q + 1)) + 1 by omega]; symm; show (if _ then (if _ then _ else _) else _) = _; rw [if_pos c23, if_pos c38, if_pos c52, if_pos c66])
          · refine wf_iload 0 dX4_unfitPlace_41 rfl ?_
            exact wf_iret .int rfl (vp_nar_int _) ⟨rfl, rfl⟩ ⟨congrArg (fun z => some (Value.int z)) (by rw [← hu, show y 0 1 - q = (y 0 1 - (q + 1)) + 1 by omega]; show _ = eO (if _ then (if _ then _ else _) else _); rw [if_pos c23, if_neg (by rw [c38]; decide)]; rfl), rfl⟩ dX4_unfitPlace_43
        · refine wf_goto 72 dX4_unfitPlace_26 (by decide) ?_
          refine wf_iinc (nI (q + 1)) 0 [(5, .int (nI (q + 1))), (4, .int (nI b)), (3, .int (nI w)), (0, .ref (al 0))] dX4_unfitPlace_72 rfl (nI_1 q) (by decide) rfl ?_
          refine wf_goto 8 dX4_unfitPlace_75 (by decide) ?_
          refine wf_sub (lv' := [(5, .int (nI (q + 1))), (4, .int (nI b)), (3, .int (nI w)), (0, .ref (al 0))]) [0, 1, 2, 3] rfl ?_
          exact ih8 (q + 1) w b (by omega) (by omega) hw hb (by rw [← hu, show y 0 1 - q = (y 0 1 - (q + 1)) + 1 by omega]; symm; show (if _ then (if _ then _ else _) else _) = _; rw [if_neg (by rw [c23]; decide)])
  refine wf_sub (lv' := [(5, .int (nI 0)), (4, .int (nI b0)), (3, .int (nI w0)), (0, .ref (al 0))]) [0, 1, 2, 3] rfl ?_
  exact L8 _ 0 w0 b0 (Nat.lt_succ_self _) (Nat.zero_le _) hw0 hb0 rfl
abbrev rmX4_fault : Room := { frames := 6, cells := 0, slots := 0, locals := 135 }
set_option maxHeartbeats 4000000 in
set_option maxRecDepth 100000 in
theorem c_X4_fault {l : Launch} {E : Ev} {w0 b0 : Nat} {g y : Gd} {a kk al : Nat → Nat} {r : va_W} (hy : YI y) (hw0 : w0 ≤ 10) (hb0 : b0 ≤ 4) : CT l E yX4_fault cX4_fault 5 (some .int) rmX4_fault [.ref (al 0), .int (nI w0), .int (nI b0)] (wg E (kk 6) a g ++ (wk E kk ++ (wl E al y ++ r))) (IS (some (.int (eFau y w0 b0))) (wg E (kk 6) a g ++ (wk E kk ++ (wl E al y ++ r)))) := by
  refine CT.of (lv := [(0, .ref (al 0)), (1, .int (nI w0)), (2, .int (nI b0))]) false (by decide +kernel) (by decide) (Nat.le_of_ble_eq_true rfl) rfl ?_
  obtain ⟨y00, y01, y02, y1, y2⟩ := id hy
  refine wf_aload_n 0 dX4_fault_0 rfl ?_
  refine wf_callVD (As := []) (rest := []) 17 (c_X4_misspeltPlace hy) kV_X4_23 rfl (by decide) (by decide) (Nat.le_of_ble_eq_true rfl) rfl rfl rfl dX4_fault_1 ?_
  rcases hm : eMi y 81 0 with _ | q
  · refine wf_istore_n [(3, .int (-9)), (0, .ref (al 0)), (1, .int (nI w0)), (2, .int (nI b0))] dX4_fault_4 rfl (by decide) rfl ?_
    refine wf_iload_n 0 dX4_fault_5 rfl ?_
    refine wf_bipush (-9) dX4_fault_6 (by decide) ?_
    refine wf_icmp_eq 17 dX4_fault_8 (by decide) (fun c8 => ?_) (fun c8 => absurd rfl c8)
    refine wf_aload_n 1 dX4_fault_17 rfl ?_
    refine wf_iload_n 2 dX4_fault_18 rfl ?_
    refine wf_iload_n 3 dX4_fault_19 rfl ?_
    refine wf_callVD (As := [.int (nI w0), .int (nI b0)]) (rest := []) 17 (c_X4_unfitPlace hy (mis_ok y01 hm) hw0 hb0) kV_X4_27 rfl (by decide) (by decide) (Nat.le_of_ble_eq_true rfl) rfl rfl rfl dX4_fault_20 ?_
    rcases hu : eUnf y (y 0 1) 0 w0 b0 with _ | u
    · refine wf_istore [(4, .int (-9)), (3, .int (-9)), (0, .ref (al 0)), (1, .int (nI w0)), (2, .int (nI b0))] dX4_fault_23 (by decide) rfl ?_
      refine wf_iload 0 dX4_fault_25 rfl ?_
      refine wf_bipush (-9) dX4_fault_27 (by decide) ?_
      refine wf_icmp_ne 36 dX4_fault_29 (by decide) (fun c29 => absurd rfl c29) (fun c29 => ?_)
      refine wf_iconst (nI 0) dX4_fault_32 (by decide) ?_
      refine wf_goto 42 dX4_fault_33 (by decide) ?_
      exact wf_iret .int rfl (vp_nar_int _) ⟨rfl, rfl⟩ ⟨congrArg (fun z => some (Value.int z)) (by unfold eFau; rw [hm, hu]; rfl), rfl⟩ dX4_fault_42
    · have hu2 := unf_lt _ _ _ _ u hu
      refine wf_istore [(4, .int (nI u)), (3, .int (-9)), (0, .ref (al 0)), (1, .int (nI w0)), (2, .int (nI b0))] dX4_fault_23 (by decide) rfl ?_
      refine wf_iload 0 dX4_fault_25 rfl ?_
      refine wf_bipush (-9) dX4_fault_27 (by decide) ?_
      refine wf_icmp_ne 36 dX4_fault_29 (by decide) (fun c29 => ?_) (fun c29 => absurd c29 (ne9 (by omega)))
      refine wf_sipush (-2000) dX4_fault_36 (by decide) ?_
      refine wf_iload 0 dX4_fault_39 rfl ?_
      refine wf_isub ((-2000) - (nI u)) dX4_fault_41 rfl ?_
      exact wf_iret .int rfl (vp_nar_int _) ⟨rfl, rfl⟩ ⟨congrArg (fun z => some (Value.int z)) (by unfold eFau; rw [hm, hu]), rfl⟩ dX4_fault_42
  · have hq := mis_lt y01 81 0 q (Nat.zero_le _) hm
    refine wf_istore_n [(3, .int (nI q)), (0, .ref (al 0)), (1, .int (nI w0)), (2, .int (nI b0))] dX4_fault_4 rfl (by decide) rfl ?_
    refine wf_iload_n 0 dX4_fault_5 rfl ?_
    refine wf_bipush (-9) dX4_fault_6 (by decide) ?_
    refine wf_icmp_eq 17 dX4_fault_8 (by decide) (fun c8 => absurd c8 (ne9 (by omega))) (fun c8 => ?_)
    refine wf_sipush (-1000) dX4_fault_11 (by decide) ?_
    refine wf_iload_n 0 dX4_fault_14 rfl ?_
    refine wf_isub ((-1000) - (nI q)) dX4_fault_15 rfl ?_
    exact wf_iret .int rfl (vp_nar_int _) ⟨rfl, rfl⟩ ⟨congrArg (fun z => some (Value.int z)) (by unfold eFau; rw [hm]), rfl⟩ dX4_fault_16
abbrev rmX4_tellStatement : Room := { frames := 4, cells := 0, slots := 0, locals := 91 }
set_option maxHeartbeats 4000000 in
set_option maxRecDepth 100000 in
theorem c_X4_tellStatement {l : Launch} {E : Ev} {p : Nat} {g y : Gd} {a kk al : Nat → Nat} {r : va_W} (hy : YI y) (hI : Inv g) (hp : p < 100) (hS : WS y p) (hF : eFit y p (g 9 0) (g 9 1) = true) : CT l E yX4_tellStatement cX4_tellStatement 7 none rmX4_tellStatement [.ref (al 0), .int (nI p), .ref (a 0)] (wg E (kk 6) a g ++ (wk E kk ++ (wl E al y ++ r))) (IS (none) (wg E (kk 6) a (eTell y p g) ++ (wk E kk ++ (wl E al y ++ r)))) := by
  refine CT.of (lv := [(0, .ref (al 0)), (1, .int (nI p)), (2, .ref (a 0))]) false (by decide +kernel) (by decide) (Nat.le_of_ble_eq_true rfl) rfl ?_
  obtain ⟨y00, y01, y02, y1, y2⟩ := id hy
  have f0 := hI.words
  have f1 := hI.birds
  have f2 := hI.gone
  have f3 := hI.hour
  have q2 := eLet_le y1 p
  refine wf_aload_n 0 dX4_tellStatement_0 rfl ?_
  refine wf_iload_n 1 dX4_tellStatement_1 rfl ?_
  refine wf_iconst (nI 1) dX4_tellStatement_2 (by decide) ?_
  refine wf_iadd (nI (p + 1)) dX4_tellStatement_3 (nI_add p 1) ?_
  refine wf_callVD (As := [.int (nI (p + 1))]) (rest := []) 17 (c_X4_digitAt hy (by omega)) kV_X4_66 rfl (by decide) (by decide) (Nat.le_of_ble_eq_true rfl) rfl rfl rfl dX4_tellStatement_4 ?_
  refine wf_istore_n [(3, .int (nI (eLet y (p + 1)) - nI 48)), (0, .ref (al 0)), (1, .int (nI p)), (2, .ref (a 0))] dX4_tellStatement_7 rfl (by decide) rfl ?_
  refine wf_aload_n 1 dX4_tellStatement_8 rfl ?_
  refine wf_iload_n 2 dX4_tellStatement_9 rfl ?_
  refine wf_iconst (nI 2) dX4_tellStatement_10 (by decide) ?_
  refine wf_iadd (nI (p + 2)) dX4_tellStatement_11 (nI_add p 2) ?_
  refine wf_callVD (As := [.int (nI (p + 2))]) (rest := []) 17 (c_X4_digitAt hy (by omega)) kV_X4_66 rfl (by decide) (by decide) (Nat.le_of_ble_eq_true rfl) rfl rfl rfl dX4_tellStatement_12 ?_
  refine wf_istore [(4, .int (nI (eLet y (p + 2)) - nI 48)), (3, .int (nI (eLet y (p + 1)) - nI 48)), (0, .ref (al 0)), (1, .int (nI p)), (2, .ref (a 0))] dX4_tellStatement_15 (by decide) rfl ?_
  refine wf_aload_n 2 dX4_tellStatement_17 rfl ?_
  refine wf_iload_n 3 dX4_tellStatement_18 rfl ?_
  refine wf_iconst (nI 3) dX4_tellStatement_19 (by decide) ?_
  refine wf_iadd (nI (p + 3)) dX4_tellStatement_20 (nI_add p 3) ?_
  refine wf_callVD (As := [.int (nI (p + 3))]) (rest := []) 17 (c_X4_digitAt hy (by omega)) kV_X4_66 rfl (by decide) (by decide) (Nat.le_of_ble_eq_true rfl) rfl rfl rfl dX4_tellStatement_21 ?_
  refine wf_istore [(5, .int (nI (eLet y (p + 3)) - nI 48)), (4, .int (nI (eLet y (p + 2)) - nI 48)), (3, .int (nI (eLet y (p + 1)) - nI 48)), (0, .ref (al 0)), (1, .int (nI p)), (2, .ref (a 0))] dX4_tellStatement_24 (by decide) rfl ?_
  refine wf_aload_n 3 dX4_tellStatement_26 rfl ?_
  refine wf_iload_n 4 dX4_tellStatement_27 rfl ?_
  refine wf_callVD (As := [.int (nI p)]) (rest := []) 17 (c_X4_letterAt hy (by omega)) kV_X4_39 rfl (by decide) (by decide) (Nat.le_of_ble_eq_true rfl) rfl rfl rfl dX4_tellStatement_28 ?_
  by_cases s31_98 : eLet y p = 98
  · refine wf_lookup (off := 45) 76 dX4_tellStatement_31 (by decide) (by rw [s31_98]; decide) (by decide) ?_
    have hd := ws_b hS s31_98
    have hf := fit_b hF s31_98
    have e2 := dg_le hd.2.1
    have e3 := dg_le hd.2.2.1
    have e4 := dg_le hd.2.2.2
    have e5 := kixO_getD (eLet y (p + 1))
    refine wf_lvc [(5, .int (nI (eDg y (p + 3)))), (4, .int (nI (eDg y (p + 2)))), (3, .int (nI (eLet y (p + 1)) - nI 48)), (0, .ref (al 0)), (1, .int (nI p)), (2, .ref (a 0))] (by rw [dg_i hd.2.2.1, dg_i hd.2.1]) ?_
    refine wf_aload_n 5 dX4_tellStatement_76 rfl ?_
    refine wf_ldcS (q := E.2.2.1 4) (fun s h => h.2.2.2.2.1) dX4_tellStatement_77 ?_
    refine wf_aload_n 3 dX4_tellStatement_79 rfl ?_
    refine wf_iload_n 4 dX4_tellStatement_80 rfl ?_
    refine wf_iconst (nI 1) dX4_tellStatement_81 (by decide) ?_
    refine wf_iadd (nI (p + 1)) dX4_tellStatement_82 (nI_add p 1) ?_
    refine wf_callVD (As := [.int (nI (p + 1))]) (rest := [.ref (E.2.2.1 4), .ref (a 0)]) 17 (c_X4_letterAt hy (by omega)) kV_X4_39 rfl (by decide) (by decide) (Nat.le_of_ble_eq_true rfl) rfl rfl rfl dX4_tellStatement_83 ?_
    refine wf_callStrD (As := [.int (nI (eLet y (p + 1)))]) (rest := [.ref (a 0)]) (by decide) (c_J0_indexOf_0f7a4 (by have := eLet_le y1 (p + 1); omega)) kV_X4_85 rfl (by decide) (by decide) (Nat.le_of_ble_eq_true rfl) rfl rfl dX4_tellStatement_86 ?_
    refine wf_top (y := .int (nI ((kixO (eLet y (p + 1))).getD 0))) (by rw [eM_some hd.1]) ?_
    refine wf_iload 1 dX4_tellStatement_89 rfl ?_
    refine wf_iload 0 dX4_tellStatement_91 rfl ?_
    refine wf_aload_n 3 dX4_tellStatement_93 rfl ?_
    refine wf_iload_n 4 dX4_tellStatement_94 rfl ?_
    refine wf_iconst (nI 4) dX4_tellStatement_95 (by decide) ?_
    refine wf_iadd (nI (p + 4)) dX4_tellStatement_96 (nI_add p 4) ?_
    refine wf_callVD (As := [.int (nI (p + 4))]) (rest := [.int (nI (eDg y (p + 3))), .int (nI (eDg y (p + 2))), .int (nI ((kixO (eLet y (p + 1))).getD 0)), .ref (a 0)]) 17 (c_X4_digitAt hy (by omega)) kV_X4_66 rfl (by decide) (by decide) (Nat.le_of_ble_eq_true rfl) rfl rfl rfl dX4_tellStatement_97 ?_
    refine wf_top (y := .int (nI (eDg y (p + 4)))) (by rw [dg_i hd.2.2.2]) ?_
    refine wf_callVv (As := [.int (nI ((kixO (eLet y (p + 1))).getD 0)), .int (nI (eDg y (p + 2))), .int (nI (eDg y (p + 3))), .int (nI (eDg y (p + 4)))]) (rest := []) 0 (c_X2_addBird (by omega) (by omega)) kV_X4_88 rfl (by decide) (by decide) (Nat.le_of_ble_eq_true rfl) rfl rfl rfl dX4_tellStatement_100 ?_
    refine wf_goto 141 dX4_tellStatement_103 (by decide) ?_
    exact wf_vret rfl ⟨rfl, rfl⟩ ⟨rfl, (by unfold eTell; rw [if_neg (by omega), if_pos s31_98]; rfl)⟩ dX4_tellStatement_141
  by_cases s31_105 : eLet y p = 105
  · refine wf_lookup (off := 75) 106 dX4_tellStatement_31 (by decide) (by rw [s31_105]; decide) (by decide) ?_
    have hd := ws_i hS s31_105
    have hf := fit_i hF s31_105
    have e1 := dg_le hd.1
    have e2 := dg_le hd.2
    refine wf_lvc [(5, .int (nI (eLet y (p + 3)) - nI 48)), (4, .int (nI (eDg y (p + 2)))), (3, .int (nI (eDg y (p + 1)))), (0, .ref (al 0)), (1, .int (nI p)), (2, .ref (a 0))] (by rw [dg_i hd.2, dg_i hd.1]) ?_
    refine wf_aload_n 5 dX4_tellStatement_106 rfl ?_
    refine wf_iload_n 2 dX4_tellStatement_107 rfl ?_
    refine wf_iload 1 dX4_tellStatement_108 rfl ?_
    refine wf_callVv (As := [.int (nI (eDg y (p + 1))), .int (nI (eDg y (p + 2)))]) (rest := []) 0 (c_X2_setBitter (by omega)) kV_X4_92 rfl (by decide) (by decide) (Nat.le_of_ble_eq_true rfl) rfl rfl rfl dX4_tellStatement_110 ?_
    refine wf_goto 141 dX4_tellStatement_113 (by decide) ?_
    exact wf_vret rfl ⟨rfl, rfl⟩ ⟨rfl, (by unfold eTell; rw [if_neg (by omega), if_neg (by omega), if_pos s31_105])⟩ dX4_tellStatement_141
  by_cases s31_119 : eLet y p = 119
  · refine wf_lookup (off := 33) 64 dX4_tellStatement_31 (by decide) (by rw [s31_119]; decide) (by decide) ?_
    have hd := ws_w hS (Or.inl s31_119)
    have hf := fit_w hF s31_119
    have e1 := dg_le hd.1
    have e2 := dg_le hd.2.1
    have e3 := dg_le hd.2.2
    refine wf_lvc [(5, .int (nI (eDg y (p + 3)))), (4, .int (nI (eDg y (p + 2)))), (3, .int (nI (eDg y (p + 1)))), (0, .ref (al 0)), (1, .int (nI p)), (2, .ref (a 0))] (by rw [dg_i hd.2.2, dg_i hd.2.1, dg_i hd.1]) ?_
    refine wf_aload_n 5 dX4_tellStatement_64 rfl ?_
    refine wf_iload_n 2 dX4_tellStatement_65 rfl ?_
    refine wf_iload 1 dX4_tellStatement_66 rfl ?_
    refine wf_iload 0 dX4_tellStatement_68 rfl ?_
    refine wf_callVv (As := [.int (nI (eDg y (p + 1))), .int (nI (eDg y (p + 2))), .int (nI (eDg y (p + 3)))]) (rest := []) 0 (c_X2_addWord (by omega) (by omega)) kV_X4_77 rfl (by decide) (by decide) (Nat.le_of_ble_eq_true rfl) rfl rfl rfl dX4_tellStatement_70 ?_
    refine wf_goto 141 dX4_tellStatement_73 (by decide) ?_
    exact wf_vret rfl ⟨rfl, rfl⟩ ⟨rfl, (by unfold eTell; rw [if_pos s31_119]; rfl)⟩ dX4_tellStatement_141
  refine wf_lookup (off := 85) 116 dX4_tellStatement_31 (by decide) (lk_out (by omega) (by intro q hq; simp at hq; rcases hq with rfl | rfl | rfl <;> (dsimp only; omega))) (by decide) ?_
  have hr := ws_r hS s31_98 s31_105 s31_119
  have hd := ws_w hS (Or.inr hr)
  have hf := fit_r hF hr
  have e1 := dg_le hd.1
  have e2 := dg_le hd.2.1
  have e3 := dg_le hd.2.2
  refine wf_lvc [(5, .int (nI (eDg y (p + 3)))), (4, .int (nI (eDg y (p + 2)))), (3, .int (nI (eDg y (p + 1)))), (0, .ref (al 0)), (1, .int (nI p)), (2, .ref (a 0))] (by rw [dg_i hd.2.2, dg_i hd.2.1, dg_i hd.1]) ?_
  refine wf_iload 1 dX4_tellStatement_116 rfl ?_
  refine wf_istore [(6, .int (nI (eDg y (p + 2)))), (5, .int (nI (eDg y (p + 3)))), (4, .int (nI (eDg y (p + 2)))), (3, .int (nI (eDg y (p + 1)))), (0, .ref (al 0)), (1, .int (nI p)), (2, .ref (a 0))] dX4_tellStatement_118 (by decide) rfl ?_
  have L120 : ∀ (fu120 : Nat) (k : Nat), eDg y (p + 3) + 1 - eDg y (p + 2) - k < fu120 → (k ≤ eDg y (p + 3) + 1 - eDg y (p + 2)) → WF l E RX4 cX4_tellStatement 7 none rmX4_tellStatement false (fun _ => True) (QM E (wg E (kk 6) a g ++ (wk E kk ++ (wl E al y ++ r))) (IS (none) (wg E (kk 6) a (eTell y p g) ++ (wk E kk ++ (wl E al y ++ r)))) rmX4_tellStatement) (wg E (kk 6) a g ++ (wk E kk ++ (wl E al y ++ r))) 0 0 120 [(6, .int (nI (eDg y (p + 2) + k))), (3, .int (nI (eDg y (p + 1)))), (4, .int (nI (eDg y (p + 2)))), (5, .int (nI (eDg y (p + 3)))), (0, .ref (al 0)), (1, .int (nI p)), (2, .ref (a 0))] [] (wg E (kk 6) a (eWr g (eDg y (p + 1)) (eDg y (p + 2)) k) ++ (wk E kk ++ (wl E al y ++ r))) := by
    intro fu120
    induction fu120 with
    | zero => intro k hn; exact absurd hn (Nat.not_lt_zero _)
    | succ fu120 ih120 =>
      intro k hn hk
      have hW := hI.oWr (f := eDg y (p + 2)) hf.1 k
      refine wf_iload 0 dX4_tellStatement_120 rfl ?_
      refine wf_iload 3 dX4_tellStatement_122 rfl ?_
      refine wf_icmp_gt_n 141 dX4_tellStatement_124 (by decide) (by omega) (by omega) (fun c124 => ?_) (fun c124 => ?_)
      · exact wf_vret rfl ⟨rfl, rfl⟩ ⟨rfl, (by unfold eTell; rw [if_neg s31_119, if_neg s31_98, if_neg s31_105, show eDg y (p + 3) + 1 - eDg y (p + 2) = k by omega])⟩ dX4_tellStatement_141
      · refine wf_aload_n 6 dX4_tellStatement_127 rfl ?_
        refine wf_iload_n 1 dX4_tellStatement_128 rfl ?_
        refine wf_iload 0 dX4_tellStatement_129 rfl ?_
        refine wf_iconst (nI 1) dX4_tellStatement_131 (by decide) ?_
        refine wf_callVv (As := [.int (nI (eDg y (p + 1))), .int (nI (eDg y (p + 2) + k)), .int (nI 1)]) (rest := []) 0 (c_X2_setWatched hW (by rw [eWr_f (by decide)]; omega) (by omega) (by omega)) kV_X4_96 rfl (by decide) (by decide) (Nat.le_of_ble_eq_true rfl) rfl rfl rfl dX4_tellStatement_132 ?_
        refine wf_iinc (nI (eDg y (p + 2) + k + 1)) 0 [(6, .int (nI (eDg y (p + 2) + k + 1))), (3, .int (nI (eDg y (p + 1)))), (4, .int (nI (eDg y (p + 2)))), (5, .int (nI (eDg y (p + 3)))), (0, .ref (al 0)), (1, .int (nI p)), (2, .ref (a 0))] dX4_tellStatement_135 rfl (nI_1 (eDg y (p + 2) + k)) (by decide) rfl ?_
        refine wf_goto 120 dX4_tellStatement_138 (by decide) ?_
        refine wf_sub (lv' := [(6, .int (nI (eDg y (p + 2) + k + 1))), (3, .int (nI (eDg y (p + 1)))), (4, .int (nI (eDg y (p + 2)))), (5, .int (nI (eDg y (p + 3)))), (0, .ref (al 0)), (1, .int (nI p)), (2, .ref (a 0))]) [0, 1, 2, 3, 4, 5, 6] rfl ?_
        exact ih120 (k + 1) (by omega) (by omega)
  refine wf_sub (lv' := [(6, .int (nI (eDg y (p + 2)))), (3, .int (nI (eDg y (p + 1)))), (4, .int (nI (eDg y (p + 2)))), (5, .int (nI (eDg y (p + 3)))), (0, .ref (al 0)), (1, .int (nI p)), (2, .ref (a 0))]) [0, 3, 2, 1, 4, 5, 6] rfl ?_
  exact L120 _ 0 (Nat.lt_succ_self _) (Nat.zero_le _)
abbrev rmX4_tellTo : Room := { frames := 5, cells := 0, slots := 0, locals := 117 }
set_option maxHeartbeats 4000000 in
set_option maxRecDepth 100000 in
theorem c_X4_tellTo {l : Launch} {E : Ev}  {g y : Gd} {a kk al : Nat → Nat} {r : va_W} (hy : YI y) (hI : Inv g) (hT : ∀ p, p < y 0 1 → eBeg y p = true → WS y p) (hF : ∀ p, p < y 0 1 → eBeg y p = true → eFit y p ((eTl y g p).1 9 0) ((eTl y g p).1 9 1) = true) : CT l E yX4_tellTo cX4_tellTo 4 (some .int) rmX4_tellTo [.ref (al 0), .ref (a 0)] (wg E (kk 6) a g ++ (wk E kk ++ (wl E al y ++ r))) (IS (some (.int (nI ((eTl y g (y 0 1)).2)))) (wg E (kk 6) a ((eTl y g (y 0 1)).1) ++ (wk E kk ++ (wl E al y ++ r)))) := by
  refine CT.of (lv := [(0, .ref (al 0)), (1, .ref (a 0))]) false (by decide +kernel) (by decide) (Nat.le_of_ble_eq_true rfl) rfl ?_
  obtain ⟨y00, y01, y02, y1, y2⟩ := id hy
  have f0 := hI.words
  have f1 := hI.birds
  have f2 := hI.gone
  have f3 := hI.hour
  refine wf_iconst (nI 0) dX4_tellTo_0 (by decide) ?_
  refine wf_istore_n [(2, .int (nI 0)), (0, .ref (al 0)), (1, .ref (a 0))] dX4_tellTo_1 rfl (by decide) rfl ?_
  refine wf_iconst (nI 0) dX4_tellTo_2 (by decide) ?_
  refine wf_istore_n [(3, .int (nI 0)), (2, .int (nI 0)), (0, .ref (al 0)), (1, .ref (a 0))] dX4_tellTo_3 rfl (by decide) rfl ?_
  have L4 : ∀ (fu4 : Nat) (q : Nat), y 0 1 - q < fu4 → (q ≤ y 0 1) → WF l E RX4 cX4_tellTo 4 (some .int) rmX4_tellTo false (fun _ => True) (QM E (wg E (kk 6) a g ++ (wk E kk ++ (wl E al y ++ r))) (IS (some (.int (nI ((eTl y g (y 0 1)).2)))) (wg E (kk 6) a ((eTl y g (y 0 1)).1) ++ (wk E kk ++ (wl E al y ++ r)))) rmX4_tellTo) (wg E (kk 6) a g ++ (wk E kk ++ (wl E al y ++ r))) 0 0 4 [(3, .int (nI q)), (2, .int (nI ((eTl y g q).2))), (0, .ref (al 0)), (1, .ref (a 0))] [] (wg E (kk 6) a ((eTl y g q).1) ++ (wk E kk ++ (wl E al y ++ r))) := by
    intro fu4
    induction fu4 with
    | zero => intro q hn; exact absurd hn (Nat.not_lt_zero _)
    | succ fu4 ih4 =>
      intro q hn hq0
      have hQ := hI.oTl hT hF q hq0
      have hc := eTl_le y g q
      refine wf_iload_n 0 dX4_tellTo_4 rfl ?_
      refine wf_aload_n 2 dX4_tellTo_5 rfl ?_
      refine wf_getf (C := RX4) (T := TX4) (N := 2) (v := .int (nI (y 0 1))) 17 1 in_X4 rfl rfl (by decide) fl_X4_15 rfl dX4_tellTo_6 ?_
      refine wf_icmp_ge_n 38 dX4_tellTo_9 (by decide) (by omega) (by omega) (fun c9 => ?_) (fun c9 => ?_)
      · refine wf_iload_n 1 dX4_tellTo_38 rfl ?_
        exact wf_iret .int rfl (vp_nar_int _) ⟨rfl, rfl⟩ ⟨congrArg (fun z => some (Value.int z)) (by rw [show q = y 0 1 by omega]), (by rw [show q = y 0 1 by omega])⟩ dX4_tellTo_39
      · refine wf_aload_n 2 dX4_tellTo_12 rfl ?_
        refine wf_iload_n 0 dX4_tellTo_13 rfl ?_
        refine wf_callVD (As := [.int (nI q)]) (rest := []) 17 (c_X4_beginsStatement hy (by omega)) kV_X4_31 rfl (by decide) (by decide) (Nat.le_of_ble_eq_true rfl) rfl rfl rfl dX4_tellTo_14 ?_
        refine wf_if_ne_b 23 dX4_tellTo_17 (by decide) (fun c17 => ?_) (fun c17 => ?_)
        · refine wf_aload_n 2 dX4_tellTo_23 rfl ?_
          refine wf_iload_n 0 dX4_tellTo_24 rfl ?_
          refine wf_aload_n 3 dX4_tellTo_25 rfl ?_
          refine wf_callVv (As := [.int (nI q), .ref (a 0)]) (rest := []) 17 (c_X4_tellStatement hy hQ (by omega) (hT q (by omega) c17) (hF q (by omega) c17)) kV_X4_35 rfl (by decide) (by decide) (Nat.le_of_ble_eq_true rfl) rfl rfl rfl dX4_tellTo_26 ?_
          refine wf_iinc (nI ((eTl y g q).2 + 1)) 1 [(2, .int (nI ((eTl y g q).2 + 1))), (3, .int (nI q)), (0, .ref (al 0)), (1, .ref (a 0))] dX4_tellTo_29 rfl (nI_1 ((eTl y g q).2)) (by decide) rfl ?_
          refine wf_iinc (nI (q + 1)) 1 [(3, .int (nI (q + 1))), (2, .int (nI ((eTl y g q).2 + 1))), (0, .ref (al 0)), (1, .ref (a 0))] dX4_tellTo_32 rfl (nI_1 q) (by decide) rfl ?_
          refine wf_goto 4 dX4_tellTo_35 (by decide) ?_
          refine wf_sub (lv' := [(3, .int (nI (q + 1))), (2, .int (nI ((eTl y g q).2 + 1))), (0, .ref (al 0)), (1, .ref (a 0))]) [0, 1, 2, 3] rfl ?_
          have hq : eTl y g (q + 1) = (eTell y q (eTl y g q).1, (eTl y g q).2 + 1) := by show (if _ then _ else _) = _; rw [if_pos c17]
          refine wf_lvc [(3, .int (nI (q + 1))), (2, .int (nI ((eTl y g (q + 1)).2))), (0, .ref (al 0)), (1, .ref (a 0))] (by rw [hq]) ?_
          refine wf_world (wg E (kk 6) a ((eTl y g (q + 1)).1) ++ (wk E kk ++ (wl E al y ++ r))) (by rw [hq]) ?_
          exact ih4 (q + 1) (by omega) (by omega)
        · refine wf_goto 32 dX4_tellTo_20 (by decide) ?_
          refine wf_iinc (nI (q + 1)) 0 [(3, .int (nI (q + 1))), (2, .int (nI ((eTl y g q).2))), (0, .ref (al 0)), (1, .ref (a 0))] dX4_tellTo_32 rfl (nI_1 q) (by decide) rfl ?_
          refine wf_goto 4 dX4_tellTo_35 (by decide) ?_
          refine wf_sub (lv' := [(3, .int (nI (q + 1))), (2, .int (nI ((eTl y g q).2))), (0, .ref (al 0)), (1, .ref (a 0))]) [0, 1, 2, 3] rfl ?_
          have hq : eTl y g (q + 1) = eTl y g q := by show (if _ then _ else _) = _; rw [if_neg (by rw [c17]; decide)]
          refine wf_lvc [(3, .int (nI (q + 1))), (2, .int (nI ((eTl y g (q + 1)).2))), (0, .ref (al 0)), (1, .ref (a 0))] (by rw [hq]) ?_
          refine wf_world (wg E (kk 6) a ((eTl y g (q + 1)).1) ++ (wk E kk ++ (wl E al y ++ r))) (by rw [hq]) ?_
          exact ih4 (q + 1) (by omega) (by omega)
  refine wf_sub (lv' := [(3, .int (nI 0)), (2, .int (nI 0)), (0, .ref (al 0)), (1, .ref (a 0))]) [0, 1, 2, 3] rfl ?_
  exact L4 _ 0 (Nat.lt_succ_self _) (Nat.zero_le _)
