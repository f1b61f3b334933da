abbrev rmX4_letterAt : Room := { frames := 0, cells := 0, slots := 0, locals := 0 }
set_option maxHeartbeats 4000000 in
set_option maxRecDepth 100000 in
theorem c_X4_letterAt {l : Launch} {E : Ev} {p : Nat} {g y : Gd} {a kk al : Nat → Nat} {r : va_W} (hy : YI y) (hp : p < 1000) : CT l E yX4_letterAt cX4_letterAt 2 (some .char) rmX4_letterAt [.ref (al 0), .int (nI p)] (wg E (kk 6) a g ++ (wk E kk ++ (wl E al y ++ r))) (IS (some (.int (nI (eLet y p)))) (wg E (kk 6) a g ++ (wk E kk ++ (wl E al y ++ r)))) := by
  refine CT.of (lv := [(0, .ref (al 0)), (1, .int (nI p))]) false (by decide +kernel) (by decide) (Nat.le_of_ble_eq_true rfl) rfl ?_
  obtain ⟨y00, y01, y02, y1, y2⟩ := id hy
  have q1 := y1 p
  have q2 := eLet_le y1 p
  refine wf_iload_n 1 dX4_letterAt_0 rfl ?_
  refine wf_if_lt 21 dX4_letterAt_1 (by decide) (fun c1 => ?_) (fun c1 => ?_)
  · exact absurd c1 (nI_pos (by omega))
  · refine wf_iload_n 1 dX4_letterAt_4 rfl ?_
    refine wf_aload_n 0 dX4_letterAt_5 rfl ?_
    refine wf_getf (C := RX4) (T := TX4) (N := 2) (v := .int (nI (y 0 1))) 17 1 in_X4 rfl rfl (by decide) fl_X4_15 rfl dX4_letterAt_6 ?_
    refine wf_icmp_ge_n 21 dX4_letterAt_9 (by decide) (by omega) (by omega) (fun c9 => ?_) (fun c9 => ?_)
    · refine wf_iconst (nI 0) dX4_letterAt_21 (by decide) ?_
      exact wf_iret .char rfl (pk_charN (by omega)).1 ⟨rfl, rfl⟩ ⟨congrArg (fun z => some (Value.int z)) (by unfold eLet; rw [if_neg (by omega)]), rfl⟩ dX4_letterAt_22
    · refine wf_aload_n 0 dX4_letterAt_12 rfl ?_
      refine wf_getf (C := RX4) (T := TX4) (N := 2) (v := .ref (al 1)) 17 0 in_X4 rfl rfl (by decide) fl_X4_9 rfl dX4_letterAt_13 ?_
      refine wf_iload_n 1 dX4_letterAt_16 rfl ?_
      refine wf_cald_n (nI (y 1 p)) 18 rfl (by omega) (by decide) rfl dX4_letterAt_17 ?_
      refine wf_goto 22 dX4_letterAt_18 (by decide) ?_
      exact wf_iret .char rfl (pk_charN (by omega)).1 ⟨rfl, rfl⟩ ⟨congrArg (fun z => some (Value.int z)) (by unfold eLet; rw [if_pos c9]), rfl⟩ dX4_letterAt_22
abbrev rmX4_digitAt : Room := { frames := 1, cells := 0, slots := 0, locals := 21 }
set_option maxHeartbeats 4000000 in
set_option maxRecDepth 100000 in
theorem c_X4_digitAt {l : Launch} {E : Ev} {p : Nat} {g y : Gd} {a kk al : Nat → Nat} {r : va_W} (hy : YI y) (hp : p < 1000) : CT l E yX4_digitAt cX4_digitAt 2 (some .int) rmX4_digitAt [.ref (al 0), .int (nI p)] (wg E (kk 6) a g ++ (wk E kk ++ (wl E al y ++ r))) (IS (some (.int (nI (eLet y p) - nI 48))) (wg E (kk 6) a g ++ (wk E kk ++ (wl E al y ++ r)))) := by
  refine CT.of (lv := [(0, .ref (al 0)), (1, .int (nI p))]) false (by decide +kernel) (by decide) (Nat.le_of_ble_eq_true rfl) rfl ?_
  obtain ⟨y00, y01, y02, y1, y2⟩ := id hy
  refine wf_aload_n 0 dX4_digitAt_0 rfl ?_
  refine wf_iload_n 1 dX4_digitAt_1 rfl ?_
  refine wf_callVD (As := [.int (nI p)]) (rest := []) 17 (c_X4_letterAt hy (by omega)) kV_X4_39 rfl (by decide) (by decide) (Nat.le_of_ble_eq_true rfl) rfl rfl rfl dX4_digitAt_2 ?_
  refine wf_bipush (nI 48) dX4_digitAt_5 (by decide) ?_
  refine wf_isub ((nI (eLet y p)) - (nI 48)) dX4_digitAt_7 rfl ?_
  exact wf_iret .int rfl (vp_nar_int _) ⟨rfl, rfl⟩ ⟨congrArg (fun z => some (Value.int z)) (rfl), rfl⟩ dX4_digitAt_8
abbrev rmX4_beginsStatement : Room := { frames := 1, cells := 0, slots := 0, locals := 21 }
set_option maxHeartbeats 4000000 in
set_option maxRecDepth 100000 in
theorem c_X4_beginsStatement {l : Launch} {E : Ev} {p : Nat} {g y : Gd} {a kk al : Nat → Nat} {r : va_W} (hy : YI y) (hp : p < 1000) : CT l E yX4_beginsStatement cX4_beginsStatement 2 (some .boolean) rmX4_beginsStatement [.ref (al 0), .int (nI p)] (wg E (kk 6) a g ++ (wk E kk ++ (wl E al y ++ r))) (IS (some (.int (bI (eBeg y p)))) (wg E (kk 6) a g ++ (wk E kk ++ (wl E al y ++ r)))) := by
  refine CT.of (lv := [(0, .ref (al 0)), (1, .int (nI p))]) false (by decide +kernel) (by decide) (Nat.le_of_ble_eq_true rfl) rfl ?_
  obtain ⟨y00, y01, y02, y1, y2⟩ := id hy
  have q2 := eLet_le y1 (p - 1)
  refine wf_iload_n 1 dX4_beginsStatement_0 rfl ?_
  refine wf_if_eq_n 16 dX4_beginsStatement_1 (by decide) (by omega) (fun c1 => ?_) (fun c1 => ?_)
  · refine wf_iconst (nI 1) dX4_beginsStatement_16 (by decide) ?_
    refine wf_goto 21 dX4_beginsStatement_17 (by decide) ?_
    exact wf_iret .boolean rfl (by decide) ⟨rfl, rfl⟩ ⟨congrArg (fun z => some (Value.int z)) (b1_one (by unfold eBeg; rw [decide_eq_true c1]; rfl)), rfl⟩ dX4_beginsStatement_21
  · refine wf_aload_n 0 dX4_beginsStatement_4 rfl ?_
    refine wf_iload_n 1 dX4_beginsStatement_5 rfl ?_
    refine wf_iconst (nI 1) dX4_beginsStatement_6 (by decide) ?_
    refine wf_isub (nI (p - 1)) dX4_beginsStatement_7 (pk_sub (by omega)) ?_
    refine wf_callVD (As := [.int (nI (p - 1))]) (rest := []) 17 (c_X4_letterAt hy (by omega)) kV_X4_39 rfl (by decide) (by decide) (Nat.le_of_ble_eq_true rfl) rfl rfl rfl dX4_beginsStatement_8 ?_
    refine wf_bipush (nI 59) dX4_beginsStatement_11 (by decide) ?_
    refine wf_icmp_ne_n 20 dX4_beginsStatement_13 (by decide) (by omega) (by omega) (fun c13 => ?_) (fun c13 => ?_)
    · refine wf_iconst (nI 0) dX4_beginsStatement_20 (by decide) ?_
      exact wf_iret .boolean rfl (by decide) ⟨rfl, rfl⟩ ⟨congrArg (fun z => some (Value.int z)) (b1_zero (by unfold eBeg; rw [decide_eq_false c1, decide_eq_false c13]; rfl)), rfl⟩ dX4_beginsStatement_21
    · refine wf_iconst (nI 1) dX4_beginsStatement_16 (by decide) ?_
      refine wf_goto 21 dX4_beginsStatement_17 (by decide) ?_
      exact wf_iret .boolean rfl (by decide) ⟨rfl, rfl⟩ ⟨congrArg (fun z => some (Value.int z)) (b1_one (by unfold eBeg; rw [decide_eq_true c13, Bool.or_true])), rfl⟩ dX4_beginsStatement_21
abbrev rmX4_areHours : Room := { frames := 0, cells := 0, slots := 0, locals := 0 }
set_option maxHeartbeats 4000000 in
set_option maxRecDepth 100000 in
theorem c_X4_areHours {l : Launch} {E : Ev} {r : va_W} {f t : Nat} (hf : f < 100) (ht : t < 100) : CT l E yX4_areHours cX4_areHours 2 (some .boolean) rmX4_areHours [.int (nI f), .int (nI t)] (r) (IS (some (.int (bI (decide (f ≤ t) && decide (t < 8))))) r) := by
  refine CT.of (lv := [(0, .int (nI f)), (1, .int (nI t))]) false (by decide +kernel) (by decide) (Nat.le_of_ble_eq_true rfl) rfl ?_
  refine wf_iload_n 0 dX4_areHours_0 rfl ?_
  refine wf_iload_n 1 dX4_areHours_1 rfl ?_
  refine wf_icmp_gt_n 15 dX4_areHours_2 (by decide) (by omega) (by omega) (fun c2 => ?_) (fun c2 => ?_)
  · refine wf_iconst (nI 0) dX4_areHours_15 (by decide) ?_
    exact wf_iret .boolean rfl (by decide) ⟨rfl, rfl⟩ ⟨congrArg (fun z => some (Value.int z)) (b1_zero (by rw [decide_eq_false (by omega : ¬ f ≤ t)]; rfl)), rfl⟩ dX4_areHours_16
  · refine wf_iload_n 1 dX4_areHours_5 rfl ?_
    refine wf_bipush (nI 8) dX4_areHours_6 (by decide) ?_
    refine wf_icmp_ge_n 15 dX4_areHours_8 (by decide) (by omega) (by omega) (fun c8 => ?_) (fun c8 => ?_)
    · refine wf_iconst (nI 0) dX4_areHours_15 (by decide) ?_
      exact wf_iret .boolean rfl (by decide) ⟨rfl, rfl⟩ ⟨congrArg (fun z => some (Value.int z)) (b1_zero (by rw [decide_eq_false (by omega : ¬ t < 8), Bool.and_false])), rfl⟩ dX4_areHours_16
    · refine wf_iconst (nI 1) dX4_areHours_11 (by decide) ?_
      refine wf_goto 16 dX4_areHours_12 (by decide) ?_
      exact wf_iret .boolean rfl (by decide) ⟨rfl, rfl⟩ ⟨congrArg (fun z => some (Value.int z)) (b1_one (by rw [decide_eq_true c2, decide_eq_true c8]; rfl)), rfl⟩ dX4_areHours_16
abbrev rmX4_formBehind : Room := { frames := 0, cells := 0, slots := 0, locals := 0 }
set_option maxHeartbeats 4000000 in
set_option maxRecDepth 100000 in
theorem c_X4_formBehind {l : Launch} {E : Ev} {r : va_W} {c : Nat} (hc : c < 256) : CT l E yX4_formBehind cX4_formBehind 1 (some (.object "java/lang/String")) rmX4_formBehind [.int (nI c)] (r) (IS (some (.ref (E.2.2.1 (fI c)))) r) := by
  refine CT.of (lv := [(0, .int (nI c))]) false (by decide +kernel) (by decide) (Nat.le_of_ble_eq_true rfl) rfl ?_
  refine wf_iload_n 0 dX4_formBehind_0 rfl ?_
  by_cases s1_98 : c = 98
  · refine wf_lookup (off := 46) 47 dX4_formBehind_1 (by decide) (by rw [s1_98]; decide) (by decide) ?_
    refine wf_ldcS (q := E.2.2.1 1) (fun s h => h.2.1) dX4_formBehind_47 ?_
    exact wf_aret "java/lang/String" rfl ⟨rfl, rfl⟩ ⟨congrArg (fun z => some (Value.ref z)) (by unfold fI; rw [if_pos s1_98]), rfl⟩ dX4_formBehind_49
  by_cases s1_105 : c = 105
  · refine wf_lookup (off := 49) 50 dX4_formBehind_1 (by decide) (by rw [s1_105]; decide) (by decide) ?_
    refine wf_ldcS (q := E.2.2.1 2) (fun s h => h.2.2.1) dX4_formBehind_50 ?_
    exact wf_aret "java/lang/String" rfl ⟨rfl, rfl⟩ ⟨congrArg (fun z => some (Value.ref z)) (by unfold fI; rw [if_neg s1_98, if_pos s1_105]), rfl⟩ dX4_formBehind_52
  by_cases s1_114 : c = 114
  · refine wf_lookup (off := 52) 53 dX4_formBehind_1 (by decide) (by rw [s1_114]; decide) (by decide) ?_
    refine wf_ldcS (q := E.2.2.1 0) (fun s h => h.1) dX4_formBehind_53 ?_
    exact wf_aret "java/lang/String" rfl ⟨rfl, rfl⟩ ⟨congrArg (fun z => some (Value.ref z)) (by unfold fI; rw [if_neg s1_98, if_neg s1_105, if_pos s1_114]), rfl⟩ dX4_formBehind_55
  by_cases s1_119 : c = 119
  · refine wf_lookup (off := 43) 44 dX4_formBehind_1 (by decide) (by rw [s1_119]; decide) (by decide) ?_
    refine wf_ldcS (q := E.2.2.1 0) (fun s h => h.1) dX4_formBehind_44 ?_
    exact wf_aret "java/lang/String" rfl ⟨rfl, rfl⟩ ⟨congrArg (fun z => some (Value.ref z)) (by unfold fI; rw [if_neg s1_98, if_neg s1_105, if_neg s1_114, if_pos s1_119]), rfl⟩ dX4_formBehind_46
  refine wf_lookup (off := 55) 56 dX4_formBehind_1 (by decide) (lk_out (by omega) (by intro q hq; simp at hq; rcases hq with rfl | rfl | rfl | rfl <;> (dsimp only; omega))) (by decide) ?_
  refine wf_ldcS (q := E.2.2.1 3) (fun s h => h.2.2.2.1) dX4_formBehind_56 ?_
  exact wf_aret "java/lang/String" rfl ⟨rfl, rfl⟩ ⟨congrArg (fun z => some (Value.ref z)) (by unfold fI; rw [if_neg s1_98, if_neg s1_105, if_neg s1_114, if_neg s1_119]), rfl⟩ dX4_formBehind_58
abbrev rmX4_isOfForm : Room := { frames := 4, cells := 0, slots := 0, locals := 91 }
set_option maxHeartbeats 4000000 in
set_option maxRecDepth 100000 in
theorem c_X4_isOfForm {l : Launch} {E : Ev} {r : va_W} {c f : Nat} (hc : c < 256) (hf : f < 256) : CT l E yX4_isOfForm cX4_isOfForm 2 (some .boolean) rmX4_isOfForm [.int (nI c), .int (nI f)] (r) (IS (some (.int (bI (okF c f)))) r) := by
  refine CT.of (lv := [(0, .int (nI c)), (1, .int (nI f))]) false (by decide +kernel) (by decide) (Nat.le_of_ble_eq_true rfl) rfl ?_
  refine wf_iload_n 1 dX4_isOfForm_0 rfl ?_
  by_cases s1_100 : f = 100
  · refine wf_lookup (off := 27) 28 dX4_isOfForm_1 (by decide) (by rw [s1_100]; decide) (by decide) ?_
    refine wf_iload_n 0 dX4_isOfForm_28 rfl ?_
    refine wf_bipush (nI 48) dX4_isOfForm_29 (by decide) ?_
    refine wf_icmp_lt_n 44 dX4_isOfForm_31 (by decide) (by omega) (by omega) (fun c31 => ?_) (fun c31 => ?_)
    · refine wf_iconst (nI 0) dX4_isOfForm_44 (by decide) ?_
      exact wf_iret .boolean rfl (by decide) ⟨rfl, rfl⟩ ⟨congrArg (fun z => some (Value.int z)) (b1_zero (by rw [s1_100]; show isDig c = false; unfold isDig; rw [decide_eq_false (by omega : ¬ 48 ≤ c)]; rfl)), rfl⟩ dX4_isOfForm_45
    · refine wf_iload_n 0 dX4_isOfForm_34 rfl ?_
      refine wf_bipush (nI 57) dX4_isOfForm_35 (by decide) ?_
      refine wf_icmp_gt_n 44 dX4_isOfForm_37 (by decide) (by omega) (by omega) (fun c37 => ?_) (fun c37 => ?_)
      · refine wf_iconst (nI 0) dX4_isOfForm_44 (by decide) ?_
        exact wf_iret .boolean rfl (by decide) ⟨rfl, rfl⟩ ⟨congrArg (fun z => some (Value.int z)) (b1_zero (by rw [s1_100]; show isDig c = false; unfold isDig; rw [decide_eq_false (by omega : ¬ c ≤ 57), Bool.and_false])), rfl⟩ dX4_isOfForm_45
      · refine wf_iconst (nI 1) dX4_isOfForm_40 (by decide) ?_
        refine wf_goto 45 dX4_isOfForm_41 (by decide) ?_
        exact wf_iret .boolean rfl (by decide) ⟨rfl, rfl⟩ ⟨congrArg (fun z => some (Value.int z)) (b1_one (by rw [s1_100]; show isDig c = true; unfold isDig; rw [decide_eq_true c31, decide_eq_true c37]; rfl)), rfl⟩ dX4_isOfForm_45
  by_cases s1_107 : f = 107
  · refine wf_lookup (off := 45) 46 dX4_isOfForm_1 (by decide) (by rw [s1_107]; decide) (by decide) ?_
    refine wf_ldcS (q := E.2.2.1 4) (fun s h => h.2.2.2.2.1) dX4_isOfForm_46 ?_
    refine wf_iload_n 0 dX4_isOfForm_48 rfl ?_
    refine wf_callStrD (As := [.int (nI c)]) (rest := []) (by decide) (c_J0_indexOf_0f7a4 hc) kV_X4_85 rfl (by decide) (by decide) (Nat.le_of_ble_eq_true rfl) rfl rfl dX4_isOfForm_49 ?_
    refine wf_if_lt 59 dX4_isOfForm_52 (by decide) (fun c52 => ?_) (fun c52 => ?_)
    · refine wf_iconst (nI 0) dX4_isOfForm_59 (by decide) ?_
      exact wf_iret .boolean rfl (by decide) ⟨rfl, rfl⟩ ⟨congrArg (fun z => some (Value.int z)) (b1_zero (by rw [s1_107]; exact eM_neg.mp c52)), rfl⟩ dX4_isOfForm_60
    · refine wf_iconst (nI 1) dX4_isOfForm_55 (by decide) ?_
      refine wf_goto 60 dX4_isOfForm_56 (by decide) ?_
      exact wf_iret .boolean rfl (by decide) ⟨rfl, rfl⟩ ⟨congrArg (fun z => some (Value.int z)) (b1_one (by rw [s1_107]; show (kixO c).isSome = true; rcases hq : (kixO c).isSome with _ | _; exact absurd (eM_neg.mpr hq) c52; rfl)), rfl⟩ dX4_isOfForm_60
  refine wf_lookup (off := 60) 61 dX4_isOfForm_1 (by decide) (lk_out (by omega) (by intro q hq; simp at hq; rcases hq with rfl | rfl <;> (dsimp only; omega))) (by decide) ?_
  refine wf_iload_n 0 dX4_isOfForm_61 rfl ?_
  refine wf_iload_n 1 dX4_isOfForm_62 rfl ?_
  refine wf_icmp_ne_n 70 dX4_isOfForm_63 (by decide) (by omega) (by omega) (fun c63 => ?_) (fun c63 => ?_)
  · refine wf_iconst (nI 0) dX4_isOfForm_70 (by decide) ?_
    exact wf_iret .boolean rfl (by decide) ⟨rfl, rfl⟩ ⟨congrArg (fun z => some (Value.int z)) (b1_zero (by unfold okF; rw [if_neg s1_100, if_neg s1_107]; exact decide_eq_false c63)), rfl⟩ dX4_isOfForm_71
  · refine wf_iconst (nI 1) dX4_isOfForm_66 (by decide) ?_
    refine wf_goto 71 dX4_isOfForm_67 (by decide) ?_
    exact wf_iret .boolean rfl (by decide) ⟨rfl, rfl⟩ ⟨congrArg (fun z => some (Value.int z)) (b1_one (by unfold okF; rw [if_neg s1_100, if_neg s1_107]; exact decide_eq_true c63)), rfl⟩ dX4_isOfForm_71
abbrev rmX4_misspeltPlace : Room := { frames := 5, cells := 0, slots := 0, locals := 112 }
set_option maxHeartbeats 4000000 in
set_option maxRecDepth 100000 in
theorem c_X4_misspeltPlace {l : Launch} {E : Ev}  {g y : Gd} {a kk al : Nat → Nat} {r : va_W} (hy : YI y) : CT l E yX4_misspeltPlace cX4_misspeltPlace 4 (some .int) rmX4_misspeltPlace [.ref (al 0)] (wg E (kk 6) a g ++ (wk E kk ++ (wl E al y ++ r))) (IS (some (.int (eO (eMi y 81 0)))) (wg E (kk 6) a g ++ (wk E kk ++ (wl E al y ++ r)))) := by
  refine CT.of (lv := [(0, .ref (al 0))]) false (by decide +kernel) (by decide) (Nat.le_of_ble_eq_true rfl) rfl ?_
  obtain ⟨y00, y01, y02, y1, y2⟩ := id hy
  refine wf_iconst (nI 0) dX4_misspeltPlace_0 (by decide) ?_
  refine wf_istore_n [(1, .int (nI 0)), (0, .ref (al 0))] dX4_misspeltPlace_1 rfl (by decide) rfl ?_
  have L2 : ∀ (fu2 : Nat) (f : Nat) (p : Nat), y 0 1 - p < fu2 → (p ≤ y 0 1) → (y 0 1 - p < f) → (eMi y f p = eMi y 81 0) → WF l E RX4 cX4_misspeltPlace 4 (some .int) rmX4_misspeltPlace false (fun _ => True) (QM E (wg E (kk 6) a g ++ (wk E kk ++ (wl E al y ++ r))) (IS (some (.int (eO (eMi y 81 0)))) (wg E (kk 6) a g ++ (wk E kk ++ (wl E al y ++ r)))) rmX4_misspeltPlace) (wg E (kk 6) a g ++ (wk E kk ++ (wl E al y ++ r))) 0 0 2 [(1, .int (nI p)), (0, .ref (al 0))] [] (wg E (kk 6) a g ++ (wk E kk ++ (wl E al y ++ r))) := by
    intro fu2
    induction fu2 with
    | zero => intro f p hn; exact absurd hn (Nat.not_lt_zero _)
    | succ fu2 ih2 =>
      intro f p hn hp0 hf hm
      rcases f with _ | f
      exact absurd hf (Nat.not_lt_zero _)
      refine wf_aload_n 1 dX4_misspeltPlace_2 rfl ?_
      refine wf_iload_n 0 dX4_misspeltPlace_3 rfl ?_
      refine wf_callVD (As := [.int (nI p)]) (rest := []) 17 (c_X4_letterAt hy (by omega)) kV_X4_39 rfl (by decide) (by decide) (Nat.le_of_ble_eq_true rfl) rfl rfl rfl dX4_misspeltPlace_4 ?_
      refine wf_callSD (As := [.int (nI (eLet y p))]) (rest := []) (c_X4_formBehind (by have := eLet_le y1 p; omega)) kS_X4_43 rfl (by decide) (by decide) (Nat.le_of_ble_eq_true rfl) rfl dX4_misspeltPlace_7 ?_
      obtain ⟨i0, hi0⟩ : ∃ i0, fI (eLet y p) = i0 := ⟨_, rfl⟩
      have hi : i0 < 5 := by rw [← hi0]; exact fI_lt _
      have hL := lenS_le i0 hi
      refine wf_top (y := .ref (E.2.2.1 i0)) (by rw [hi0]) ?_
      refine wf_astore_n [(2, .ref (E.2.2.1 i0)), (1, .int (nI p)), (0, .ref (al 0))] dX4_misspeltPlace_10 rfl (by decide) rfl ?_
      refine wf_aload_n 0 dX4_misspeltPlace_11 rfl ?_
      refine wf_callStrD (As := []) (rest := []) hi (c_J0_isEmpty_aae02 hi) kV_X4_47 rfl (by decide) (by decide) (Nat.le_of_ble_eq_true rfl) rfl rfl dX4_misspeltPlace_12 ?_
      refine wf_if_eq_b 20 dX4_misspeltPlace_15 (by decide) (fun c15 => ?_) (fun c15 => ?_)
      · have h15 := of_decide_eq_false c15
        refine wf_iconst (nI 0) dX4_misspeltPlace_20 (by decide) ?_
        refine wf_istore_n [(3, .int (nI 0)), (2, .ref (E.2.2.1 i0)), (1, .int (nI p)), (0, .ref (al 0))] dX4_misspeltPlace_21 rfl (by decide) rfl ?_
        have L22 : ∀ (fu22 : Nat) (i : Nat), lenS.getD i0 0 - i < fu22 → (i ≤ lenS.getD i0 0) → (eFB y i0 p (lenS.getD i0 0 - i) i = eFB y i0 p (lenS.getD i0 0) 0) → WF l E RX4 cX4_misspeltPlace 4 (some .int) rmX4_misspeltPlace false (fun _ => True) (QM E (wg E (kk 6) a g ++ (wk E kk ++ (wl E al y ++ r))) (IS (some (.int (eO (eMi y 81 0)))) (wg E (kk 6) a g ++ (wk E kk ++ (wl E al y ++ r)))) rmX4_misspeltPlace) (wg E (kk 6) a g ++ (wk E kk ++ (wl E al y ++ r))) 0 0 22 [(3, .int (nI i)), (2, .ref (E.2.2.1 i0)), (1, .int (nI (p + i))), (0, .ref (al 0))] [] (wg E (kk 6) a g ++ (wk E kk ++ (wl E al y ++ r))) := by
          intro fu22
          induction fu22 with
          | zero => intro i hn; exact absurd hn (Nat.not_lt_zero _)
          | succ fu22 ih22 =>
            intro i hn hi1 hfb
            refine wf_iload_n 0 dX4_misspeltPlace_22 rfl ?_
            refine wf_aload_n 1 dX4_misspeltPlace_23 rfl ?_
            refine wf_callStrD (As := []) (rest := [.int (nI i)]) hi (c_J0_length_8abf5 hi) kV_X4_52 rfl (by decide) (by decide) (Nat.le_of_ble_eq_true rfl) rfl rfl dX4_misspeltPlace_24 ?_
            refine wf_icmp_ge_n 57 dX4_misspeltPlace_27 (by decide) (by omega) (by omega) (fun c27 => ?_) (fun c27 => ?_)
            · have hie : i = lenS.getD i0 0 := by omega
              subst hie
              have hfb0 : eFB y i0 p (lenS.getD i0 0) 0 = none := by rw [← hfb, Nat.sub_self]; rfl
              refine wf_iinc (nI (p + lenS.getD i0 0 + 1)) 2 [(1, .int (nI (p + lenS.getD i0 0 + 1))), (3, .int (nI (lenS.getD i0 0))), (2, .ref (E.2.2.1 i0)), (0, .ref (al 0))] dX4_misspeltPlace_57 rfl (nI_1 (p + lenS.getD i0 0)) (by decide) rfl ?_
              refine wf_iload_n 0 dX4_misspeltPlace_60 rfl ?_
              refine wf_aload_n 3 dX4_misspeltPlace_61 rfl ?_
              refine wf_getf (C := RX4) (T := TX4) (N := 2) (v := .int (nI (y 0 1))) 17 1 in_X4 rfl rfl (by decide) fl_X4_15 rfl dX4_misspeltPlace_62 ?_
              refine wf_icmp_lt_n 2 dX4_misspeltPlace_65 (by decide) (by omega) (by omega) (fun c65 => ?_) (fun c65 => ?_)
              · refine wf_sub (lv' := [(1, .int (nI (p + lenS.getD i0 0 + 1))), (0, .ref (al 0))]) [0, 3] rfl ?_
                exact ih2 f (p + lenS.getD i0 0 + 1) (by omega) (by omega) (by omega) (by rw [← hm, eMi, hi0, if_neg h15, hfb0]; show _ = (if _ then _ else _); rw [if_pos c65])
              · refine wf_bipush (-9) dX4_misspeltPlace_68 (by decide) ?_
                exact wf_iret .int rfl (vp_nar_int _) ⟨rfl, rfl⟩ ⟨congrArg (fun z => some (Value.int z)) (by rw [← hm, eMi, hi0, if_neg h15, hfb0]; show _ = eO (if _ then _ else _); rw [if_neg (by omega)]; rfl), rfl⟩ dX4_misspeltPlace_70
            · refine wf_iinc (nI (p + i + 1)) 2 [(1, .int (nI (p + i + 1))), (3, .int (nI i)), (2, .ref (E.2.2.1 i0)), (0, .ref (al 0))] dX4_misspeltPlace_30 rfl (nI_1 (p + i)) (by decide) rfl ?_
              refine wf_aload_n 3 dX4_misspeltPlace_33 rfl ?_
              refine wf_iload_n 0 dX4_misspeltPlace_34 rfl ?_
              refine wf_callVD (As := [.int (nI (p + i + 1))]) (rest := []) 17 (c_X4_letterAt hy (by omega)) kV_X4_39 rfl (by decide) (by decide) (Nat.le_of_ble_eq_true rfl) rfl rfl rfl dX4_misspeltPlace_35 ?_
              refine wf_aload_n 2 dX4_misspeltPlace_38 rfl ?_
              refine wf_iload_n 1 dX4_misspeltPlace_39 rfl ?_
              refine wf_callStrD (As := [.int (nI i)]) (rest := [.int (nI (eLet y (p + i + 1)))]) hi (c_J0_charAt_5068e hi c27) kV_X4_55 rfl (by decide) (by decide) (Nat.le_of_ble_eq_true rfl) rfl rfl dX4_misspeltPlace_40 ?_
              refine wf_callSD (As := [.int (nI (eLet y (p + i + 1))), .int (nI (chS i0 i))]) (rest := []) (c_X4_isOfForm (by have := eLet_le y1 (p + i + 1); omega) (by have := chS_lt i0 hi i c27; omega)) kS_X4_58 rfl (by decide) (by decide) (Nat.le_of_ble_eq_true rfl) rfl dX4_misspeltPlace_43 ?_
              refine wf_if_ne_b 51 dX4_misspeltPlace_46 (by decide) (fun c46 => ?_) (fun c46 => ?_)
              · refine wf_iinc (nI (i + 1)) 1 [(3, .int (nI (i + 1))), (1, .int (nI (p + i + 1))), (2, .ref (E.2.2.1 i0)), (0, .ref (al 0))] dX4_misspeltPlace_51 rfl (nI_1 i) (by decide) rfl ?_
                refine wf_goto 22 dX4_misspeltPlace_54 (by decide) ?_
                refine wf_sub (lv' := [(3, .int (nI (i + 1))), (2, .ref (E.2.2.1 i0)), (1, .int (nI (p + i + 1))), (0, .ref (al 0))]) [0, 2, 1, 3] rfl ?_
                exact ih22 (i + 1) (by omega) (by omega) (by rw [← hfb, show lenS.getD i0 0 - i = (lenS.getD i0 0 - (i + 1)) + 1 by omega]; symm; show (if _ then _ else _) = _; rw [if_pos c46])
              · refine wf_iload_n 0 dX4_misspeltPlace_49 rfl ?_
                exact wf_iret .int rfl (vp_nar_int _) ⟨rfl, rfl⟩ ⟨congrArg (fun z => some (Value.int z)) (by rw [← hm, eMi, hi0, if_neg h15, ← hfb, show lenS.getD i0 0 - i = (lenS.getD i0 0 - (i + 1)) + 1 by omega]; rw [show eFB y i0 p (lenS.getD i0 0 - (i + 1) + 1) i = some (p + i + 1) from by show (if _ then _ else _) = _; rw [if_neg (by rw [c46]; decide)]]; rfl), rfl⟩ dX4_misspeltPlace_50
        refine wf_sub (lv' := [(3, .int (nI 0)), (2, .ref (E.2.2.1 i0)), (1, .int (nI p)), (0, .ref (al 0))]) [0, 1, 2, 3] rfl ?_
        exact L22 _ 0 (Nat.lt_succ_self _) (Nat.zero_le _) rfl
      · refine wf_iload_n 1 dX4_misspeltPlace_18 rfl ?_
        exact wf_iret .int rfl (vp_nar_int _) ⟨rfl, rfl⟩ ⟨congrArg (fun z => some (Value.int z)) (by rw [← hm, eMi, hi0, if_pos (of_decide_eq_true c15)]; rfl), rfl⟩ dX4_misspeltPlace_19
  refine wf_sub (lv' := [(1, .int (nI 0)), (0, .ref (al 0))]) [0, 1] rfl ?_
  exact L2 _ 81 0 (Nat.lt_succ_self _) (Nat.zero_le _) (by omega) rfl
