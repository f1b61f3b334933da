abbrev rmX9_passes : Room := { frames := 0, cells := 0, slots := 0, locals := 0 }
set_option maxHeartbeats 4000000 in
set_option maxRecDepth 100000 in
theorem c_X9_passes_k0 {l : Launch} {E : Ev} {c : Nat} {g y j : Gd} {td : Nat → Int32} {am : Nat → Nat} {r : va_W} (hI : Inv g) (hc : c + 61 ≤ 240) : CT l E yX9_passes cX9_passes 3 none rmX9_passes [.ref (am 0), .ref (am 2)] (wm E am g y (kq j c g 0) td ++ r) (IS (none) (wm E am g y (kq j c g 10) td ++ r)) := by
  refine CT.of (lv := [(0, .ref (am 0)), (1, .ref (am 2))]) false (by decide +kernel) (by decide) (Nat.le_of_ble_eq_true rfl) rfl ?_
  have fI := hI.sweet
  refine wf_iconst (nI 0) dX9_passes_0 (by decide) ?_
  refine wf_istore_n [(2, .int (nI 0)), (0, .ref (am 0)), (1, .ref (am 2))] dX9_passes_1 rfl (by decide) rfl ?_
  have L2 : ∀ (fu2 : Nat) (n : Nat), 10 - n < fu2 → (n ≤ 10) → WF l E RX9 cX9_passes 3 none rmX9_passes false (fun _ => True) (QM E (wm E am g y (kq j c g 0) td ++ r) (IS (none) (wm E am g y (kq j c g 10) td ++ r)) rmX9_passes) (wm E am g y (kq j c g 0) td ++ r) 0 0 2 [(2, .int (nI n)), (0, .ref (am 0)), (1, .ref (am 2))] [] (wm E am g y (kq j c g (0 + n)) td ++ r) := by
    intro fu2
    induction fu2 with
    | zero => intro n hn; exact absurd hn (Nat.not_lt_zero _)
    | succ fu2 ih2 =>
      intro n hn hn
      refine wf_iload_n 0 dX9_passes_2 rfl ?_
      refine wf_aload_n 2 dX9_passes_3 rfl ?_
      refine wf_alen (t0 := 0) (nI 10) 2 rfl rfl rfl dX9_passes_4 ?_
      refine wf_icmp_ge_n 58 dX9_passes_5 (by decide) (by omega) (by omega) (fun c5 => ?_) (fun c5 => ?_)
      · exact wf_vret rfl ⟨rfl, rfl⟩ ⟨rfl, (by rw [show n = 10 by omega])⟩ dX9_passes_58
      · refine wf_aload_n 1 dX9_passes_8 rfl ?_
        refine wf_getf (C := RX9) (T := TX9) (N := 27) (v := .int (nI ((kq j c g (0 + n)) 0 4))) 0 23 in_X9 rfl rfl (by decide) fl_X9_125 rfl dX9_passes_9 ?_
        refine wf_if_eq_n 30 dX9_passes_12 (by decide) (by rw [kq_04]; decide) (fun c12 => ?_) (fun c12 => ?_)
        · exact absurd c12 (by rw [kq_04]; decide)
        · refine wf_aload_n 1 dX9_passes_15 rfl ?_
          refine wf_getf (C := RX9) (T := TX9) (N := 27) (v := .ref (am 15)) 0 21 in_X9 rfl rfl (by decide) fl_X9_52 rfl dX9_passes_16 ?_
          refine wf_aload_n 1 dX9_passes_19 rfl ?_
          refine wf_getf (C := RX9) (T := TX9) (N := 27) (v := .int (nI ((kq j c g (0 + n)) 0 5))) 0 24 in_X9 rfl rfl (by decide) fl_X9_129 rfl dX9_passes_20 ?_
          refine wf_top (y := .int (nI (c + (0 + n)))) rfl ?_
          refine wf_aload_n 2 dX9_passes_23 rfl ?_
          refine wf_iload_n 0 dX9_passes_24 rfl ?_
          refine wf_iald_n (nI (g 0 n)) 2 rfl (by omega) (by decide) rfl dX9_passes_25 ?_
          refine wf_iast_n (wm E am g y (gs (kq j c g (0 + n)) 5 (c + (0 + n)) (g 0 n)) td ++ r) 15 rfl (by omega) (by decide) (sf 15 (Nat.le_of_ble_eq_true rfl) (wm_setj5 (c + (0 + n)) (g 0 n))) dX9_passes_26 ?_
          refine wf_goto 42 dX9_passes_27 (by decide) ?_
          refine wf_aload_n 1 dX9_passes_42 rfl ?_
          refine wf_dup dX9_passes_43 rfl ?_
          refine wf_getf (C := RX9) (T := TX9) (N := 27) (v := .int (nI ((kq j c g (0 + n)) 0 5))) 0 24 in_X9 rfl rfl (by decide) fl_X9_129 rfl dX9_passes_44 ?_
          refine wf_top (y := .int (nI (c + (0 + n)))) rfl ?_
          refine wf_iconst (nI 1) dX9_passes_47 (by decide) ?_
          refine wf_iadd (nI ((c + (0 + n)) + 1)) dX9_passes_48 (nI_add (c + (0 + n)) 1) ?_
          refine wf_putf (C := RX9) (T := TX9) (N := 27) (ty := .int) 0 24 (wm E am g y (gs (gs (kq j c g (0 + n)) 5 (c + (0 + n)) (g 0 n)) 0 5 ((c + (0 + n)) + 1)) td ++ r) tyX9 in_X9 tyX9_ok nmX9 rfl rfl (by decide) fl_X9_129 rfl (by decide +kernel) (by rfl) rfl (Nat.le_of_ble_eq_true rfl) (sf 0 (Nat.le_of_ble_eq_true rfl) (wm_put24 ((c + (0 + n)) + 1))) dX9_passes_49 ?_
          refine wf_iinc (nI (n + 1)) 0 [(2, .int (nI (n + 1))), (0, .ref (am 0)), (1, .ref (am 2))] dX9_passes_52 rfl (nI_1 n) (by decide) rfl ?_
          refine wf_goto 2 dX9_passes_55 (by decide) ?_
          refine wf_sub (lv' := [(2, .int (nI (n + 1))), (0, .ref (am 0)), (1, .ref (am 2))]) [0, 1, 2] rfl ?_
          refine wf_world (wm E am g y (kq j c g (0 + (n + 1))) td ++ r) (by rw [kq_s (enc_0 (by omega)).symm]; rfl) ?_
          exact ih2 (n + 1) (by omega) (by omega)
  refine wf_sub (lv' := [(2, .int (nI 0)), (0, .ref (am 0)), (1, .ref (am 2))]) [0, 1, 2] rfl ?_
  refine wf_world (wm E am g y (kq j c g (0 + 0)) td ++ r) rfl ?_
  exact L2 _ 0 (Nat.lt_succ_self _) (Nat.zero_le _)
set_option maxHeartbeats 4000000 in
set_option maxRecDepth 100000 in
theorem c_X9_passes_k1 {l : Launch} {E : Ev} {c : Nat} {g y j : Gd} {td : Nat → Int32} {am : Nat → Nat} {r : va_W} (hI : Inv g) (hc : c + 61 ≤ 240) : CT l E yX9_passes cX9_passes 3 none rmX9_passes [.ref (am 0), .ref (am 3)] (wm E am g y (kq j c g 10) td ++ r) (IS (none) (wm E am g y (kq j c g 20) td ++ r)) := by
  refine CT.of (lv := [(0, .ref (am 0)), (1, .ref (am 3))]) false (by decide +kernel) (by decide) (Nat.le_of_ble_eq_true rfl) rfl ?_
  have fI := hI.ink
  refine wf_iconst (nI 0) dX9_passes_0 (by decide) ?_
  refine wf_istore_n [(2, .int (nI 0)), (0, .ref (am 0)), (1, .ref (am 3))] dX9_passes_1 rfl (by decide) rfl ?_
  have L2 : ∀ (fu2 : Nat) (n : Nat), 10 - n < fu2 → (n ≤ 10) → WF l E RX9 cX9_passes 3 none rmX9_passes false (fun _ => True) (QM E (wm E am g y (kq j c g 10) td ++ r) (IS (none) (wm E am g y (kq j c g 20) td ++ r)) rmX9_passes) (wm E am g y (kq j c g 10) td ++ r) 0 0 2 [(2, .int (nI n)), (0, .ref (am 0)), (1, .ref (am 3))] [] (wm E am g y (kq j c g (10 + n)) td ++ r) := by
    intro fu2
    induction fu2 with
    | zero => intro n hn; exact absurd hn (Nat.not_lt_zero _)
    | succ fu2 ih2 =>
      intro n hn hn
      refine wf_iload_n 0 dX9_passes_2 rfl ?_
      refine wf_aload_n 2 dX9_passes_3 rfl ?_
      refine wf_alen (t0 := 0) (nI 10) 3 rfl rfl rfl dX9_passes_4 ?_
      refine wf_icmp_ge_n 58 dX9_passes_5 (by decide) (by omega) (by omega) (fun c5 => ?_) (fun c5 => ?_)
      · exact wf_vret rfl ⟨rfl, rfl⟩ ⟨rfl, (by rw [show n = 10 by omega])⟩ dX9_passes_58
      · refine wf_aload_n 1 dX9_passes_8 rfl ?_
        refine wf_getf (C := RX9) (T := TX9) (N := 27) (v := .int (nI ((kq j c g (10 + n)) 0 4))) 0 23 in_X9 rfl rfl (by decide) fl_X9_125 rfl dX9_passes_9 ?_
        refine wf_if_eq_n 30 dX9_passes_12 (by decide) (by rw [kq_04]; decide) (fun c12 => ?_) (fun c12 => ?_)
        · exact absurd c12 (by rw [kq_04]; decide)
        · refine wf_aload_n 1 dX9_passes_15 rfl ?_
          refine wf_getf (C := RX9) (T := TX9) (N := 27) (v := .ref (am 15)) 0 21 in_X9 rfl rfl (by decide) fl_X9_52 rfl dX9_passes_16 ?_
          refine wf_aload_n 1 dX9_passes_19 rfl ?_
          refine wf_getf (C := RX9) (T := TX9) (N := 27) (v := .int (nI ((kq j c g (10 + n)) 0 5))) 0 24 in_X9 rfl rfl (by decide) fl_X9_129 rfl dX9_passes_20 ?_
          refine wf_top (y := .int (nI (c + (10 + n)))) rfl ?_
          refine wf_aload_n 2 dX9_passes_23 rfl ?_
          refine wf_iload_n 0 dX9_passes_24 rfl ?_
          refine wf_iald_n (nI (g 1 n)) 3 rfl (by omega) (by decide) rfl dX9_passes_25 ?_
          refine wf_iast_n (wm E am g y (gs (kq j c g (10 + n)) 5 (c + (10 + n)) (g 1 n)) td ++ r) 15 rfl (by omega) (by decide) (sf 15 (Nat.le_of_ble_eq_true rfl) (wm_setj5 (c + (10 + n)) (g 1 n))) dX9_passes_26 ?_
          refine wf_goto 42 dX9_passes_27 (by decide) ?_
          refine wf_aload_n 1 dX9_passes_42 rfl ?_
          refine wf_dup dX9_passes_43 rfl ?_
          refine wf_getf (C := RX9) (T := TX9) (N := 27) (v := .int (nI ((kq j c g (10 + n)) 0 5))) 0 24 in_X9 rfl rfl (by decide) fl_X9_129 rfl dX9_passes_44 ?_
          refine wf_top (y := .int (nI (c + (10 + n)))) rfl ?_
          refine wf_iconst (nI 1) dX9_passes_47 (by decide) ?_
          refine wf_iadd (nI ((c + (10 + n)) + 1)) dX9_passes_48 (nI_add (c + (10 + n)) 1) ?_
          refine wf_putf (C := RX9) (T := TX9) (N := 27) (ty := .int) 0 24 (wm E am g y (gs (gs (kq j c g (10 + n)) 5 (c + (10 + n)) (g 1 n)) 0 5 ((c + (10 + n)) + 1)) td ++ r) tyX9 in_X9 tyX9_ok nmX9 rfl rfl (by decide) fl_X9_129 rfl (by decide +kernel) (by rfl) rfl (Nat.le_of_ble_eq_true rfl) (sf 0 (Nat.le_of_ble_eq_true rfl) (wm_put24 ((c + (10 + n)) + 1))) dX9_passes_49 ?_
          refine wf_iinc (nI (n + 1)) 0 [(2, .int (nI (n + 1))), (0, .ref (am 0)), (1, .ref (am 3))] dX9_passes_52 rfl (nI_1 n) (by decide) rfl ?_
          refine wf_goto 2 dX9_passes_55 (by decide) ?_
          refine wf_sub (lv' := [(2, .int (nI (n + 1))), (0, .ref (am 0)), (1, .ref (am 3))]) [0, 1, 2] rfl ?_
          refine wf_world (wm E am g y (kq j c g (10 + (n + 1))) td ++ r) (by rw [kq_s (enc_1 (by omega)).symm]; rfl) ?_
          exact ih2 (n + 1) (by omega) (by omega)
  refine wf_sub (lv' := [(2, .int (nI 0)), (0, .ref (am 0)), (1, .ref (am 3))]) [0, 1, 2] rfl ?_
  refine wf_world (wm E am g y (kq j c g (10 + 0)) td ++ r) rfl ?_
  exact L2 _ 0 (Nat.lt_succ_self _) (Nat.zero_le _)
set_option maxHeartbeats 4000000 in
set_option maxRecDepth 100000 in
theorem c_X9_passes_k2 {l : Launch} {E : Ev} {c : Nat} {g y j : Gd} {td : Nat → Int32} {am : Nat → Nat} {r : va_W} (hI : Inv g) (hc : c + 61 ≤ 240) : CT l E yX9_passes cX9_passes 3 none rmX9_passes [.ref (am 0), .ref (am 4)] (wm E am g y (kq j c g 20) td ++ r) (IS (none) (wm E am g y (kq j c g 30) td ++ r)) := by
  refine CT.of (lv := [(0, .ref (am 0)), (1, .ref (am 4))]) false (by decide +kernel) (by decide) (Nat.le_of_ble_eq_true rfl) rfl ?_
  have fI := hI.mean
  refine wf_iconst (nI 0) dX9_passes_0 (by decide) ?_
  refine wf_istore_n [(2, .int (nI 0)), (0, .ref (am 0)), (1, .ref (am 4))] dX9_passes_1 rfl (by decide) rfl ?_
  have L2 : ∀ (fu2 : Nat) (n : Nat), 10 - n < fu2 → (n ≤ 10) → WF l E RX9 cX9_passes 3 none rmX9_passes false (fun _ => True) (QM E (wm E am g y (kq j c g 20) td ++ r) (IS (none) (wm E am g y (kq j c g 30) td ++ r)) rmX9_passes) (wm E am g y (kq j c g 20) td ++ r) 0 0 2 [(2, .int (nI n)), (0, .ref (am 0)), (1, .ref (am 4))] [] (wm E am g y (kq j c g (20 + n)) td ++ r) := by
    intro fu2
    induction fu2 with
    | zero => intro n hn; exact absurd hn (Nat.not_lt_zero _)
    | succ fu2 ih2 =>
      intro n hn hn
      refine wf_iload_n 0 dX9_passes_2 rfl ?_
      refine wf_aload_n 2 dX9_passes_3 rfl ?_
      refine wf_alen (t0 := 0) (nI 10) 4 rfl rfl rfl dX9_passes_4 ?_
      refine wf_icmp_ge_n 58 dX9_passes_5 (by decide) (by omega) (by omega) (fun c5 => ?_) (fun c5 => ?_)
      · exact wf_vret rfl ⟨rfl, rfl⟩ ⟨rfl, (by rw [show n = 10 by omega])⟩ dX9_passes_58
      · refine wf_aload_n 1 dX9_passes_8 rfl ?_
        refine wf_getf (C := RX9) (T := TX9) (N := 27) (v := .int (nI ((kq j c g (20 + n)) 0 4))) 0 23 in_X9 rfl rfl (by decide) fl_X9_125 rfl dX9_passes_9 ?_
        refine wf_if_eq_n 30 dX9_passes_12 (by decide) (by rw [kq_04]; decide) (fun c12 => ?_) (fun c12 => ?_)
        · exact absurd c12 (by rw [kq_04]; decide)
        · refine wf_aload_n 1 dX9_passes_15 rfl ?_
          refine wf_getf (C := RX9) (T := TX9) (N := 27) (v := .ref (am 15)) 0 21 in_X9 rfl rfl (by decide) fl_X9_52 rfl dX9_passes_16 ?_
          refine wf_aload_n 1 dX9_passes_19 rfl ?_
          refine wf_getf (C := RX9) (T := TX9) (N := 27) (v := .int (nI ((kq j c g (20 + n)) 0 5))) 0 24 in_X9 rfl rfl (by decide) fl_X9_129 rfl dX9_passes_20 ?_
          refine wf_top (y := .int (nI (c + (20 + n)))) rfl ?_
          refine wf_aload_n 2 dX9_passes_23 rfl ?_
          refine wf_iload_n 0 dX9_passes_24 rfl ?_
          refine wf_iald_n (nI (g 2 n)) 4 rfl (by omega) (by decide) rfl dX9_passes_25 ?_
          refine wf_iast_n (wm E am g y (gs (kq j c g (20 + n)) 5 (c + (20 + n)) (g 2 n)) td ++ r) 15 rfl (by omega) (by decide) (sf 15 (Nat.le_of_ble_eq_true rfl) (wm_setj5 (c + (20 + n)) (g 2 n))) dX9_passes_26 ?_
          refine wf_goto 42 dX9_passes_27 (by decide) ?_
          refine wf_aload_n 1 dX9_passes_42 rfl ?_
          refine wf_dup dX9_passes_43 rfl ?_
          refine wf_getf (C := RX9) (T := TX9) (N := 27) (v := .int (nI ((kq j c g (20 + n)) 0 5))) 0 24 in_X9 rfl rfl (by decide) fl_X9_129 rfl dX9_passes_44 ?_
          refine wf_top (y := .int (nI (c + (20 + n)))) rfl ?_
          refine wf_iconst (nI 1) dX9_passes_47 (by decide) ?_
          refine wf_iadd (nI ((c + (20 + n)) + 1)) dX9_passes_48 (nI_add (c + (20 + n)) 1) ?_
          refine wf_putf (C := RX9) (T := TX9) (N := 27) (ty := .int) 0 24 (wm E am g y (gs (gs (kq j c g (20 + n)) 5 (c + (20 + n)) (g 2 n)) 0 5 ((c + (20 + n)) + 1)) td ++ r) tyX9 in_X9 tyX9_ok nmX9 rfl rfl (by decide) fl_X9_129 rfl (by decide +kernel) (by rfl) rfl (Nat.le_of_ble_eq_true rfl) (sf 0 (Nat.le_of_ble_eq_true rfl) (wm_put24 ((c + (20 + n)) + 1))) dX9_passes_49 ?_
          refine wf_iinc (nI (n + 1)) 0 [(2, .int (nI (n + 1))), (0, .ref (am 0)), (1, .ref (am 4))] dX9_passes_52 rfl (nI_1 n) (by decide) rfl ?_
          refine wf_goto 2 dX9_passes_55 (by decide) ?_
          refine wf_sub (lv' := [(2, .int (nI (n + 1))), (0, .ref (am 0)), (1, .ref (am 4))]) [0, 1, 2] rfl ?_
          refine wf_world (wm E am g y (kq j c g (20 + (n + 1))) td ++ r) (by rw [kq_s (enc_2 (by omega)).symm]; rfl) ?_
          exact ih2 (n + 1) (by omega) (by omega)
  refine wf_sub (lv' := [(2, .int (nI 0)), (0, .ref (am 0)), (1, .ref (am 4))]) [0, 1, 2] rfl ?_
  refine wf_world (wm E am g y (kq j c g (20 + 0)) td ++ r) rfl ?_
  exact L2 _ 0 (Nat.lt_succ_self _) (Nat.zero_le _)
set_option maxHeartbeats 4000000 in
set_option maxRecDepth 100000 in
theorem c_X9_passes_k3 {l : Launch} {E : Ev} {c : Nat} {g y j : Gd} {td : Nat → Int32} {am : Nat → Nat} {r : va_W} (hI : Inv g) (hc : c + 61 ≤ 240) : CT l E yX9_passes cX9_passes 3 none rmX9_passes [.ref (am 0), .ref (am 5)] (wm E am g y (kq j c g 30) td ++ r) (IS (none) (wm E am g y (kq j c g 34) td ++ r)) := by
  refine CT.of (lv := [(0, .ref (am 0)), (1, .ref (am 5))]) false (by decide +kernel) (by decide) (Nat.le_of_ble_eq_true rfl) rfl ?_
  have fI := hI.kind
  refine wf_iconst (nI 0) dX9_passes_0 (by decide) ?_
  refine wf_istore_n [(2, .int (nI 0)), (0, .ref (am 0)), (1, .ref (am 5))] dX9_passes_1 rfl (by decide) rfl ?_
  have L2 : ∀ (fu2 : Nat) (n : Nat), 4 - n < fu2 → (n ≤ 4) → WF l E RX9 cX9_passes 3 none rmX9_passes false (fun _ => True) (QM E (wm E am g y (kq j c g 30) td ++ r) (IS (none) (wm E am g y (kq j c g 34) td ++ r)) rmX9_passes) (wm E am g y (kq j c g 30) td ++ r) 0 0 2 [(2, .int (nI n)), (0, .ref (am 0)), (1, .ref (am 5))] [] (wm E am g y (kq j c g (30 + n)) td ++ r) := by
    intro fu2
    induction fu2 with
    | zero => intro n hn; exact absurd hn (Nat.not_lt_zero _)
    | succ fu2 ih2 =>
      intro n hn hn
      refine wf_iload_n 0 dX9_passes_2 rfl ?_
      refine wf_aload_n 2 dX9_passes_3 rfl ?_
      refine wf_alen (t0 := 0) (nI 4) 5 rfl rfl rfl dX9_passes_4 ?_
      refine wf_icmp_ge_n 58 dX9_passes_5 (by decide) (by omega) (by omega) (fun c5 => ?_) (fun c5 => ?_)
      · exact wf_vret rfl ⟨rfl, rfl⟩ ⟨rfl, (by rw [show n = 4 by omega])⟩ dX9_passes_58
      · refine wf_aload_n 1 dX9_passes_8 rfl ?_
        refine wf_getf (C := RX9) (T := TX9) (N := 27) (v := .int (nI ((kq j c g (30 + n)) 0 4))) 0 23 in_X9 rfl rfl (by decide) fl_X9_125 rfl dX9_passes_9 ?_
        refine wf_if_eq_n 30 dX9_passes_12 (by decide) (by rw [kq_04]; decide) (fun c12 => ?_) (fun c12 => ?_)
        · exact absurd c12 (by rw [kq_04]; decide)
        · refine wf_aload_n 1 dX9_passes_15 rfl ?_
          refine wf_getf (C := RX9) (T := TX9) (N := 27) (v := .ref (am 15)) 0 21 in_X9 rfl rfl (by decide) fl_X9_52 rfl dX9_passes_16 ?_
          refine wf_aload_n 1 dX9_passes_19 rfl ?_
          refine wf_getf (C := RX9) (T := TX9) (N := 27) (v := .int (nI ((kq j c g (30 + n)) 0 5))) 0 24 in_X9 rfl rfl (by decide) fl_X9_129 rfl dX9_passes_20 ?_
          refine wf_top (y := .int (nI (c + (30 + n)))) rfl ?_
          refine wf_aload_n 2 dX9_passes_23 rfl ?_
          refine wf_iload_n 0 dX9_passes_24 rfl ?_
          refine wf_iald_n (nI (g 3 n)) 5 rfl (by omega) (by decide) rfl dX9_passes_25 ?_
          refine wf_iast_n (wm E am g y (gs (kq j c g (30 + n)) 5 (c + (30 + n)) (g 3 n)) td ++ r) 15 rfl (by omega) (by decide) (sf 15 (Nat.le_of_ble_eq_true rfl) (wm_setj5 (c + (30 + n)) (g 3 n))) dX9_passes_26 ?_
          refine wf_goto 42 dX9_passes_27 (by decide) ?_
          refine wf_aload_n 1 dX9_passes_42 rfl ?_
          refine wf_dup dX9_passes_43 rfl ?_
          refine wf_getf (C := RX9) (T := TX9) (N := 27) (v := .int (nI ((kq j c g (30 + n)) 0 5))) 0 24 in_X9 rfl rfl (by decide) fl_X9_129 rfl dX9_passes_44 ?_
          refine wf_top (y := .int (nI (c + (30 + n)))) rfl ?_
          refine wf_iconst (nI 1) dX9_passes_47 (by decide) ?_
          refine wf_iadd (nI ((c + (30 + n)) + 1)) dX9_passes_48 (nI_add (c + (30 + n)) 1) ?_
          refine wf_putf (C := RX9) (T := TX9) (N := 27) (ty := .int) 0 24 (wm E am g y (gs (gs (kq j c g (30 + n)) 5 (c + (30 + n)) (g 3 n)) 0 5 ((c + (30 + n)) + 1)) td ++ r) tyX9 in_X9 tyX9_ok nmX9 rfl rfl (by decide) fl_X9_129 rfl (by decide +kernel) (by rfl) rfl (Nat.le_of_ble_eq_true rfl) (sf 0 (Nat.le_of_ble_eq_true rfl) (wm_put24 ((c + (30 + n)) + 1))) dX9_passes_49 ?_
          refine wf_iinc (nI (n + 1)) 0 [(2, .int (nI (n + 1))), (0, .ref (am 0)), (1, .ref (am 5))] dX9_passes_52 rfl (nI_1 n) (by decide) rfl ?_
          refine wf_goto 2 dX9_passes_55 (by decide) ?_
          refine wf_sub (lv' := [(2, .int (nI (n + 1))), (0, .ref (am 0)), (1, .ref (am 5))]) [0, 1, 2] rfl ?_
          refine wf_world (wm E am g y (kq j c g (30 + (n + 1))) td ++ r) (by rw [kq_s (enc_3 (by omega)).symm]; rfl) ?_
          exact ih2 (n + 1) (by omega) (by omega)
  refine wf_sub (lv' := [(2, .int (nI 0)), (0, .ref (am 0)), (1, .ref (am 5))]) [0, 1, 2] rfl ?_
  refine wf_world (wm E am g y (kq j c g (30 + 0)) td ++ r) rfl ?_
  exact L2 _ 0 (Nat.lt_succ_self _) (Nat.zero_le _)
set_option maxHeartbeats 4000000 in
set_option maxRecDepth 100000 in
theorem c_X9_passes_k4 {l : Launch} {E : Ev} {c : Nat} {g y j : Gd} {td : Nat → Int32} {am : Nat → Nat} {r : va_W} (hI : Inv g) (hc : c + 61 ≤ 240) : CT l E yX9_passes cX9_passes 3 none rmX9_passes [.ref (am 0), .ref (am 6)] (wm E am g y (kq j c g 34) td ++ r) (IS (none) (wm E am g y (kq j c g 38) td ++ r)) := by
  refine CT.of (lv := [(0, .ref (am 0)), (1, .ref (am 6))]) false (by decide +kernel) (by decide) (Nat.le_of_ble_eq_true rfl) rfl ?_
  have fI := hI.taste
  refine wf_iconst (nI 0) dX9_passes_0 (by decide) ?_
  refine wf_istore_n [(2, .int (nI 0)), (0, .ref (am 0)), (1, .ref (am 6))] dX9_passes_1 rfl (by decide) rfl ?_
  have L2 : ∀ (fu2 : Nat) (n : Nat), 4 - n < fu2 → (n ≤ 4) → WF l E RX9 cX9_passes 3 none rmX9_passes false (fun _ => True) (QM E (wm E am g y (kq j c g 34) td ++ r) (IS (none) (wm E am g y (kq j c g 38) td ++ r)) rmX9_passes) (wm E am g y (kq j c g 34) td ++ r) 0 0 2 [(2, .int (nI n)), (0, .ref (am 0)), (1, .ref (am 6))] [] (wm E am g y (kq j c g (34 + n)) td ++ r) := by
    intro fu2
    induction fu2 with
    | zero => intro n hn; exact absurd hn (Nat.not_lt_zero _)
    | succ fu2 ih2 =>
      intro n hn hn
      refine wf_iload_n 0 dX9_passes_2 rfl ?_
      refine wf_aload_n 2 dX9_passes_3 rfl ?_
      refine wf_alen (t0 := 0) (nI 4) 6 rfl rfl rfl dX9_passes_4 ?_
      refine wf_icmp_ge_n 58 dX9_passes_5 (by decide) (by omega) (by omega) (fun c5 => ?_) (fun c5 => ?_)
      · exact wf_vret rfl ⟨rfl, rfl⟩ ⟨rfl, (by rw [show n = 4 by omega])⟩ dX9_passes_58
      · refine wf_aload_n 1 dX9_passes_8 rfl ?_
        refine wf_getf (C := RX9) (T := TX9) (N := 27) (v := .int (nI ((kq j c g (34 + n)) 0 4))) 0 23 in_X9 rfl rfl (by decide) fl_X9_125 rfl dX9_passes_9 ?_
        refine wf_if_eq_n 30 dX9_passes_12 (by decide) (by rw [kq_04]; decide) (fun c12 => ?_) (fun c12 => ?_)
        · exact absurd c12 (by rw [kq_04]; decide)
        · refine wf_aload_n 1 dX9_passes_15 rfl ?_
          refine wf_getf (C := RX9) (T := TX9) (N := 27) (v := .ref (am 15)) 0 21 in_X9 rfl rfl (by decide) fl_X9_52 rfl dX9_passes_16 ?_
          refine wf_aload_n 1 dX9_passes_19 rfl ?_
          refine wf_getf (C := RX9) (T := TX9) (N := 27) (v := .int (nI ((kq j c g (34 + n)) 0 5))) 0 24 in_X9 rfl rfl (by decide) fl_X9_129 rfl dX9_passes_20 ?_
          refine wf_top (y := .int (nI (c + (34 + n)))) rfl ?_
          refine wf_aload_n 2 dX9_passes_23 rfl ?_
          refine wf_iload_n 0 dX9_passes_24 rfl ?_
          refine wf_iald_n (nI (g 4 n)) 6 rfl (by omega) (by decide) rfl dX9_passes_25 ?_
          refine wf_iast_n (wm E am g y (gs (kq j c g (34 + n)) 5 (c + (34 + n)) (g 4 n)) td ++ r) 15 rfl (by omega) (by decide) (sf 15 (Nat.le_of_ble_eq_true rfl) (wm_setj5 (c + (34 + n)) (g 4 n))) dX9_passes_26 ?_
          refine wf_goto 42 dX9_passes_27 (by decide) ?_
          refine wf_aload_n 1 dX9_passes_42 rfl ?_
          refine wf_dup dX9_passes_43 rfl ?_
          refine wf_getf (C := RX9) (T := TX9) (N := 27) (v := .int (nI ((kq j c g (34 + n)) 0 5))) 0 24 in_X9 rfl rfl (by decide) fl_X9_129 rfl dX9_passes_44 ?_
          refine wf_top (y := .int (nI (c + (34 + n)))) rfl ?_
          refine wf_iconst (nI 1) dX9_passes_47 (by decide) ?_
          refine wf_iadd (nI ((c + (34 + n)) + 1)) dX9_passes_48 (nI_add (c + (34 + n)) 1) ?_
          refine wf_putf (C := RX9) (T := TX9) (N := 27) (ty := .int) 0 24 (wm E am g y (gs (gs (kq j c g (34 + n)) 5 (c + (34 + n)) (g 4 n)) 0 5 ((c + (34 + n)) + 1)) td ++ r) tyX9 in_X9 tyX9_ok nmX9 rfl rfl (by decide) fl_X9_129 rfl (by decide +kernel) (by rfl) rfl (Nat.le_of_ble_eq_true rfl) (sf 0 (Nat.le_of_ble_eq_true rfl) (wm_put24 ((c + (34 + n)) + 1))) dX9_passes_49 ?_
          refine wf_iinc (nI (n + 1)) 0 [(2, .int (nI (n + 1))), (0, .ref (am 0)), (1, .ref (am 6))] dX9_passes_52 rfl (nI_1 n) (by decide) rfl ?_
          refine wf_goto 2 dX9_passes_55 (by decide) ?_
          refine wf_sub (lv' := [(2, .int (nI (n + 1))), (0, .ref (am 0)), (1, .ref (am 6))]) [0, 1, 2] rfl ?_
          refine wf_world (wm E am g y (kq j c g (34 + (n + 1))) td ++ r) (by rw [kq_s (enc_4 (by omega)).symm]; rfl) ?_
          exact ih2 (n + 1) (by omega) (by omega)
  refine wf_sub (lv' := [(2, .int (nI 0)), (0, .ref (am 0)), (1, .ref (am 6))]) [0, 1, 2] rfl ?_
  refine wf_world (wm E am g y (kq j c g (34 + 0)) td ++ r) rfl ?_
  exact L2 _ 0 (Nat.lt_succ_self _) (Nat.zero_le _)
set_option maxHeartbeats 4000000 in
set_option maxRecDepth 100000 in
theorem c_X9_passes_k5 {l : Launch} {E : Ev} {c : Nat} {g y j : Gd} {td : Nat → Int32} {am : Nat → Nat} {r : va_W} (hI : Inv g) (hc : c + 61 ≤ 240) : CT l E yX9_passes cX9_passes 3 none rmX9_passes [.ref (am 0), .ref (am 7)] (wm E am g y (kq j c g 38) td ++ r) (IS (none) (wm E am g y (kq j c g 42) td ++ r)) := by
  refine CT.of (lv := [(0, .ref (am 0)), (1, .ref (am 7))]) false (by decide +kernel) (by decide) (Nat.le_of_ble_eq_true rfl) rfl ?_
  have fI := hI.fro
  refine wf_iconst (nI 0) dX9_passes_0 (by decide) ?_
  refine wf_istore_n [(2, .int (nI 0)), (0, .ref (am 0)), (1, .ref (am 7))] dX9_passes_1 rfl (by decide) rfl ?_
  have L2 : ∀ (fu2 : Nat) (n : Nat), 4 - n < fu2 → (n ≤ 4) → WF l E RX9 cX9_passes 3 none rmX9_passes false (fun _ => True) (QM E (wm E am g y (kq j c g 38) td ++ r) (IS (none) (wm E am g y (kq j c g 42) td ++ r)) rmX9_passes) (wm E am g y (kq j c g 38) td ++ r) 0 0 2 [(2, .int (nI n)), (0, .ref (am 0)), (1, .ref (am 7))] [] (wm E am g y (kq j c g (38 + n)) td ++ r) := by
    intro fu2
    induction fu2 with
    | zero => intro n hn; exact absurd hn (Nat.not_lt_zero _)
    | succ fu2 ih2 =>
      intro n hn hn
      refine wf_iload_n 0 dX9_passes_2 rfl ?_
      refine wf_aload_n 2 dX9_passes_3 rfl ?_
      refine wf_alen (t0 := 0) (nI 4) 7 rfl rfl rfl dX9_passes_4 ?_
      refine wf_icmp_ge_n 58 dX9_passes_5 (by decide) (by omega) (by omega) (fun c5 => ?_) (fun c5 => ?_)
      · exact wf_vret rfl ⟨rfl, rfl⟩ ⟨rfl, (by rw [show n = 4 by omega])⟩ dX9_passes_58
      · refine wf_aload_n 1 dX9_passes_8 rfl ?_
        refine wf_getf (C := RX9) (T := TX9) (N := 27) (v := .int (nI ((kq j c g (38 + n)) 0 4))) 0 23 in_X9 rfl rfl (by decide) fl_X9_125 rfl dX9_passes_9 ?_
        refine wf_if_eq_n 30 dX9_passes_12 (by decide) (by rw [kq_04]; decide) (fun c12 => ?_) (fun c12 => ?_)
        · exact absurd c12 (by rw [kq_04]; decide)
        · refine wf_aload_n 1 dX9_passes_15 rfl ?_
          refine wf_getf (C := RX9) (T := TX9) (N := 27) (v := .ref (am 15)) 0 21 in_X9 rfl rfl (by decide) fl_X9_52 rfl dX9_passes_16 ?_
          refine wf_aload_n 1 dX9_passes_19 rfl ?_
          refine wf_getf (C := RX9) (T := TX9) (N := 27) (v := .int (nI ((kq j c g (38 + n)) 0 5))) 0 24 in_X9 rfl rfl (by decide) fl_X9_129 rfl dX9_passes_20 ?_
          refine wf_top (y := .int (nI (c + (38 + n)))) rfl ?_
          refine wf_aload_n 2 dX9_passes_23 rfl ?_
          refine wf_iload_n 0 dX9_passes_24 rfl ?_
          refine wf_iald_n (nI (g 5 n)) 7 rfl (by omega) (by decide) rfl dX9_passes_25 ?_
          refine wf_iast_n (wm E am g y (gs (kq j c g (38 + n)) 5 (c + (38 + n)) (g 5 n)) td ++ r) 15 rfl (by omega) (by decide) (sf 15 (Nat.le_of_ble_eq_true rfl) (wm_setj5 (c + (38 + n)) (g 5 n))) dX9_passes_26 ?_
          refine wf_goto 42 dX9_passes_27 (by decide) ?_
          refine wf_aload_n 1 dX9_passes_42 rfl ?_
          refine wf_dup dX9_passes_43 rfl ?_
          refine wf_getf (C := RX9) (T := TX9) (N := 27) (v := .int (nI ((kq j c g (38 + n)) 0 5))) 0 24 in_X9 rfl rfl (by decide) fl_X9_129 rfl dX9_passes_44 ?_
          refine wf_top (y := .int (nI (c + (38 + n)))) rfl ?_
          refine wf_iconst (nI 1) dX9_passes_47 (by decide) ?_
          refine wf_iadd (nI ((c + (38 + n)) + 1)) dX9_passes_48 (nI_add (c + (38 + n)) 1) ?_
          refine wf_putf (C := RX9) (T := TX9) (N := 27) (ty := .int) 0 24 (wm E am g y (gs (gs (kq j c g (38 + n)) 5 (c + (38 + n)) (g 5 n)) 0 5 ((c + (38 + n)) + 1)) td ++ r) tyX9 in_X9 tyX9_ok nmX9 rfl rfl (by decide) fl_X9_129 rfl (by decide +kernel) (by rfl) rfl (Nat.le_of_ble_eq_true rfl) (sf 0 (Nat.le_of_ble_eq_true rfl) (wm_put24 ((c + (38 + n)) + 1))) dX9_passes_49 ?_
          refine wf_iinc (nI (n + 1)) 0 [(2, .int (nI (n + 1))), (0, .ref (am 0)), (1, .ref (am 7))] dX9_passes_52 rfl (nI_1 n) (by decide) rfl ?_
          refine wf_goto 2 dX9_passes_55 (by decide) ?_
          refine wf_sub (lv' := [(2, .int (nI (n + 1))), (0, .ref (am 0)), (1, .ref (am 7))]) [0, 1, 2] rfl ?_
          refine wf_world (wm E am g y (kq j c g (38 + (n + 1))) td ++ r) (by rw [kq_s (enc_5 (by omega)).symm]; rfl) ?_
          exact ih2 (n + 1) (by omega) (by omega)
  refine wf_sub (lv' := [(2, .int (nI 0)), (0, .ref (am 0)), (1, .ref (am 7))]) [0, 1, 2] rfl ?_
  refine wf_world (wm E am g y (kq j c g (38 + 0)) td ++ r) rfl ?_
  exact L2 _ 0 (Nat.lt_succ_self _) (Nat.zero_le _)
set_option maxHeartbeats 4000000 in
set_option maxRecDepth 100000 in
theorem c_X9_passes_k6 {l : Launch} {E : Ev} {c : Nat} {g y j : Gd} {td : Nat → Int32} {am : Nat → Nat} {r : va_W} (hI : Inv g) (hc : c + 61 ≤ 240) : CT l E yX9_passes cX9_passes 3 none rmX9_passes [.ref (am 0), .ref (am 8)] (wm E am g y (kq j c g 42) td ++ r) (IS (none) (wm E am g y (kq j c g 46) td ++ r)) := by
  refine CT.of (lv := [(0, .ref (am 0)), (1, .ref (am 8))]) false (by decide +kernel) (by decide) (Nat.le_of_ble_eq_true rfl) rfl ?_
  have fI := hI.til
  refine wf_iconst (nI 0) dX9_passes_0 (by decide) ?_
  refine wf_istore_n [(2, .int (nI 0)), (0, .ref (am 0)), (1, .ref (am 8))] dX9_passes_1 rfl (by decide) rfl ?_
  have L2 : ∀ (fu2 : Nat) (n : Nat), 4 - n < fu2 → (n ≤ 4) → WF l E RX9 cX9_passes 3 none rmX9_passes false (fun _ => True) (QM E (wm E am g y (kq j c g 42) td ++ r) (IS (none) (wm E am g y (kq j c g 46) td ++ r)) rmX9_passes) (wm E am g y (kq j c g 42) td ++ r) 0 0 2 [(2, .int (nI n)), (0, .ref (am 0)), (1, .ref (am 8))] [] (wm E am g y (kq j c g (42 + n)) td ++ r) := by
    intro fu2
    induction fu2 with
    | zero => intro n hn; exact absurd hn (Nat.not_lt_zero _)
    | succ fu2 ih2 =>
      intro n hn hn
      refine wf_iload_n 0 dX9_passes_2 rfl ?_
      refine wf_aload_n 2 dX9_passes_3 rfl ?_
      refine wf_alen (t0 := 0) (nI 4) 8 rfl rfl rfl dX9_passes_4 ?_
      refine wf_icmp_ge_n 58 dX9_passes_5 (by decide) (by omega) (by omega) (fun c5 => ?_) (fun c5 => ?_)
      · exact wf_vret rfl ⟨rfl, rfl⟩ ⟨rfl, (by rw [show n = 4 by omega])⟩ dX9_passes_58
      · refine wf_aload_n 1 dX9_passes_8 rfl ?_
        refine wf_getf (C := RX9) (T := TX9) (N := 27) (v := .int (nI ((kq j c g (42 + n)) 0 4))) 0 23 in_X9 rfl rfl (by decide) fl_X9_125 rfl dX9_passes_9 ?_
        refine wf_if_eq_n 30 dX9_passes_12 (by decide) (by rw [kq_04]; decide) (fun c12 => ?_) (fun c12 => ?_)
        · exact absurd c12 (by rw [kq_04]; decide)
        · refine wf_aload_n 1 dX9_passes_15 rfl ?_
          refine wf_getf (C := RX9) (T := TX9) (N := 27) (v := .ref (am 15)) 0 21 in_X9 rfl rfl (by decide) fl_X9_52 rfl dX9_passes_16 ?_
          refine wf_aload_n 1 dX9_passes_19 rfl ?_
          refine wf_getf (C := RX9) (T := TX9) (N := 27) (v := .int (nI ((kq j c g (42 + n)) 0 5))) 0 24 in_X9 rfl rfl (by decide) fl_X9_129 rfl dX9_passes_20 ?_
          refine wf_top (y := .int (nI (c + (42 + n)))) rfl ?_
          refine wf_aload_n 2 dX9_passes_23 rfl ?_
          refine wf_iload_n 0 dX9_passes_24 rfl ?_
          refine wf_iald_n (nI (g 6 n)) 8 rfl (by omega) (by decide) rfl dX9_passes_25 ?_
          refine wf_iast_n (wm E am g y (gs (kq j c g (42 + n)) 5 (c + (42 + n)) (g 6 n)) td ++ r) 15 rfl (by omega) (by decide) (sf 15 (Nat.le_of_ble_eq_true rfl) (wm_setj5 (c + (42 + n)) (g 6 n))) dX9_passes_26 ?_
          refine wf_goto 42 dX9_passes_27 (by decide) ?_
          refine wf_aload_n 1 dX9_passes_42 rfl ?_
          refine wf_dup dX9_passes_43 rfl ?_
          refine wf_getf (C := RX9) (T := TX9) (N := 27) (v := .int (nI ((kq j c g (42 + n)) 0 5))) 0 24 in_X9 rfl rfl (by decide) fl_X9_129 rfl dX9_passes_44 ?_
          refine wf_top (y := .int (nI (c + (42 + n)))) rfl ?_
          refine wf_iconst (nI 1) dX9_passes_47 (by decide) ?_
          refine wf_iadd (nI ((c + (42 + n)) + 1)) dX9_passes_48 (nI_add (c + (42 + n)) 1) ?_
          refine wf_putf (C := RX9) (T := TX9) (N := 27) (ty := .int) 0 24 (wm E am g y (gs (gs (kq j c g (42 + n)) 5 (c + (42 + n)) (g 6 n)) 0 5 ((c + (42 + n)) + 1)) td ++ r) tyX9 in_X9 tyX9_ok nmX9 rfl rfl (by decide) fl_X9_129 rfl (by decide +kernel) (by rfl) rfl (Nat.le_of_ble_eq_true rfl) (sf 0 (Nat.le_of_ble_eq_true rfl) (wm_put24 ((c + (42 + n)) + 1))) dX9_passes_49 ?_
          refine wf_iinc (nI (n + 1)) 0 [(2, .int (nI (n + 1))), (0, .ref (am 0)), (1, .ref (am 8))] dX9_passes_52 rfl (nI_1 n) (by decide) rfl ?_
          refine wf_goto 2 dX9_passes_55 (by decide) ?_
          refine wf_sub (lv' := [(2, .int (nI (n + 1))), (0, .ref (am 0)), (1, .ref (am 8))]) [0, 1, 2] rfl ?_
          refine wf_world (wm E am g y (kq j c g (42 + (n + 1))) td ++ r) (by rw [kq_s (enc_6 (by omega)).symm]; rfl) ?_
          exact ih2 (n + 1) (by omega) (by omega)
  refine wf_sub (lv' := [(2, .int (nI 0)), (0, .ref (am 0)), (1, .ref (am 8))]) [0, 1, 2] rfl ?_
  refine wf_world (wm E am g y (kq j c g (42 + 0)) td ++ r) rfl ?_
  exact L2 _ 0 (Nat.lt_succ_self _) (Nat.zero_le _)
set_option maxHeartbeats 4000000 in
set_option maxRecDepth 100000 in
theorem c_X9_passes_k7 {l : Launch} {E : Ev} {c : Nat} {g y j : Gd} {td : Nat → Int32} {am : Nat → Nat} {r : va_W} (hI : Inv g) (hc : c + 61 ≤ 240) : CT l E yX9_passes cX9_passes 3 none rmX9_passes [.ref (am 0), .ref (am 9)] (wm E am g y (kq j c g 46) td ++ r) (IS (none) (wm E am g y (kq j c g 49) td ++ r)) := by
  refine CT.of (lv := [(0, .ref (am 0)), (1, .ref (am 9))]) false (by decide +kernel) (by decide) (Nat.le_of_ble_eq_true rfl) rfl ?_
  have fI := hI.bitter
  refine wf_iconst (nI 0) dX9_passes_0 (by decide) ?_
  refine wf_istore_n [(2, .int (nI 0)), (0, .ref (am 0)), (1, .ref (am 9))] dX9_passes_1 rfl (by decide) rfl ?_
  have L2 : ∀ (fu2 : Nat) (n : Nat), 3 - n < fu2 → (n ≤ 3) → WF l E RX9 cX9_passes 3 none rmX9_passes false (fun _ => True) (QM E (wm E am g y (kq j c g 46) td ++ r) (IS (none) (wm E am g y (kq j c g 49) td ++ r)) rmX9_passes) (wm E am g y (kq j c g 46) td ++ r) 0 0 2 [(2, .int (nI n)), (0, .ref (am 0)), (1, .ref (am 9))] [] (wm E am g y (kq j c g (46 + n)) td ++ r) := by
    intro fu2
    induction fu2 with
    | zero => intro n hn; exact absurd hn (Nat.not_lt_zero _)
    | succ fu2 ih2 =>
      intro n hn hn
      refine wf_iload_n 0 dX9_passes_2 rfl ?_
      refine wf_aload_n 2 dX9_passes_3 rfl ?_
      refine wf_alen (t0 := 0) (nI 3) 9 rfl rfl rfl dX9_passes_4 ?_
      refine wf_icmp_ge_n 58 dX9_passes_5 (by decide) (by omega) (by omega) (fun c5 => ?_) (fun c5 => ?_)
      · exact wf_vret rfl ⟨rfl, rfl⟩ ⟨rfl, (by rw [show n = 3 by omega])⟩ dX9_passes_58
      · refine wf_aload_n 1 dX9_passes_8 rfl ?_
        refine wf_getf (C := RX9) (T := TX9) (N := 27) (v := .int (nI ((kq j c g (46 + n)) 0 4))) 0 23 in_X9 rfl rfl (by decide) fl_X9_125 rfl dX9_passes_9 ?_
        refine wf_if_eq_n 30 dX9_passes_12 (by decide) (by rw [kq_04]; decide) (fun c12 => ?_) (fun c12 => ?_)
        · exact absurd c12 (by rw [kq_04]; decide)
        · refine wf_aload_n 1 dX9_passes_15 rfl ?_
          refine wf_getf (C := RX9) (T := TX9) (N := 27) (v := .ref (am 15)) 0 21 in_X9 rfl rfl (by decide) fl_X9_52 rfl dX9_passes_16 ?_
          refine wf_aload_n 1 dX9_passes_19 rfl ?_
          refine wf_getf (C := RX9) (T := TX9) (N := 27) (v := .int (nI ((kq j c g (46 + n)) 0 5))) 0 24 in_X9 rfl rfl (by decide) fl_X9_129 rfl dX9_passes_20 ?_
          refine wf_top (y := .int (nI (c + (46 + n)))) rfl ?_
          refine wf_aload_n 2 dX9_passes_23 rfl ?_
          refine wf_iload_n 0 dX9_passes_24 rfl ?_
          refine wf_iald_n (nI (g 7 n)) 9 rfl (by omega) (by decide) rfl dX9_passes_25 ?_
          refine wf_iast_n (wm E am g y (gs (kq j c g (46 + n)) 5 (c + (46 + n)) (g 7 n)) td ++ r) 15 rfl (by omega) (by decide) (sf 15 (Nat.le_of_ble_eq_true rfl) (wm_setj5 (c + (46 + n)) (g 7 n))) dX9_passes_26 ?_
          refine wf_goto 42 dX9_passes_27 (by decide) ?_
          refine wf_aload_n 1 dX9_passes_42 rfl ?_
          refine wf_dup dX9_passes_43 rfl ?_
          refine wf_getf (C := RX9) (T := TX9) (N := 27) (v := .int (nI ((kq j c g (46 + n)) 0 5))) 0 24 in_X9 rfl rfl (by decide) fl_X9_129 rfl dX9_passes_44 ?_
          refine wf_top (y := .int (nI (c + (46 + n)))) rfl ?_
          refine wf_iconst (nI 1) dX9_passes_47 (by decide) ?_
          refine wf_iadd (nI ((c + (46 + n)) + 1)) dX9_passes_48 (nI_add (c + (46 + n)) 1) ?_
          refine wf_putf (C := RX9) (T := TX9) (N := 27) (ty := .int) 0 24 (wm E am g y (gs (gs (kq j c g (46 + n)) 5 (c + (46 + n)) (g 7 n)) 0 5 ((c + (46 + n)) + 1)) td ++ r) tyX9 in_X9 tyX9_ok nmX9 rfl rfl (by decide) fl_X9_129 rfl (by decide +kernel) (by rfl) rfl (Nat.le_of_ble_eq_true rfl) (sf 0 (Nat.le_of_ble_eq_true rfl) (wm_put24 ((c + (46 + n)) + 1))) dX9_passes_49 ?_
          refine wf_iinc (nI (n + 1)) 0 [(2, .int (nI (n + 1))), (0, .ref (am 0)), (1, .ref (am 9))] dX9_passes_52 rfl (nI_1 n) (by decide) rfl ?_
          refine wf_goto 2 dX9_passes_55 (by decide) ?_
          refine wf_sub (lv' := [(2, .int (nI (n + 1))), (0, .ref (am 0)), (1, .ref (am 9))]) [0, 1, 2] rfl ?_
          refine wf_world (wm E am g y (kq j c g (46 + (n + 1))) td ++ r) (by rw [kq_s (enc_7 (by omega)).symm]; rfl) ?_
          exact ih2 (n + 1) (by omega) (by omega)
  refine wf_sub (lv' := [(2, .int (nI 0)), (0, .ref (am 0)), (1, .ref (am 9))]) [0, 1, 2] rfl ?_
  refine wf_world (wm E am g y (kq j c g (46 + 0)) td ++ r) rfl ?_
  exact L2 _ 0 (Nat.lt_succ_self _) (Nat.zero_le _)
set_option maxHeartbeats 4000000 in
set_option maxRecDepth 100000 in
theorem c_X9_passes_k8 {l : Launch} {E : Ev} {c : Nat} {g y j : Gd} {td : Nat → Int32} {am : Nat → Nat} {r : va_W} (hI : Inv g) (hc : c + 61 ≤ 240) : CT l E yX9_passes cX9_passes 3 none rmX9_passes [.ref (am 0), .ref (am 10)] (wm E am g y (kq j c g 49) td ++ r) (IS (none) (wm E am g y (kq j c g 57) td ++ r)) := by
  refine CT.of (lv := [(0, .ref (am 0)), (1, .ref (am 10))]) false (by decide +kernel) (by decide) (Nat.le_of_ble_eq_true rfl) rfl ?_
  have fI := hI.wat
  refine wf_iconst (nI 0) dX9_passes_0 (by decide) ?_
  refine wf_istore_n [(2, .int (nI 0)), (0, .ref (am 0)), (1, .ref (am 10))] dX9_passes_1 rfl (by decide) rfl ?_
  have L2 : ∀ (fu2 : Nat) (n : Nat), 8 - n < fu2 → (n ≤ 8) → WF l E RX9 cX9_passes 3 none rmX9_passes false (fun _ => True) (QM E (wm E am g y (kq j c g 49) td ++ r) (IS (none) (wm E am g y (kq j c g 57) td ++ r)) rmX9_passes) (wm E am g y (kq j c g 49) td ++ r) 0 0 2 [(2, .int (nI n)), (0, .ref (am 0)), (1, .ref (am 10))] [] (wm E am g y (kq j c g (49 + n)) td ++ r) := by
    intro fu2
    induction fu2 with
    | zero => intro n hn; exact absurd hn (Nat.not_lt_zero _)
    | succ fu2 ih2 =>
      intro n hn hn
      refine wf_iload_n 0 dX9_passes_2 rfl ?_
      refine wf_aload_n 2 dX9_passes_3 rfl ?_
      refine wf_alen (t0 := 0) (nI 8) 10 rfl rfl rfl dX9_passes_4 ?_
      refine wf_icmp_ge_n 58 dX9_passes_5 (by decide) (by omega) (by omega) (fun c5 => ?_) (fun c5 => ?_)
      · exact wf_vret rfl ⟨rfl, rfl⟩ ⟨rfl, (by rw [show n = 8 by omega])⟩ dX9_passes_58
      · refine wf_aload_n 1 dX9_passes_8 rfl ?_
        refine wf_getf (C := RX9) (T := TX9) (N := 27) (v := .int (nI ((kq j c g (49 + n)) 0 4))) 0 23 in_X9 rfl rfl (by decide) fl_X9_125 rfl dX9_passes_9 ?_
        refine wf_if_eq_n 30 dX9_passes_12 (by decide) (by rw [kq_04]; decide) (fun c12 => ?_) (fun c12 => ?_)
        · exact absurd c12 (by rw [kq_04]; decide)
        · refine wf_aload_n 1 dX9_passes_15 rfl ?_
          refine wf_getf (C := RX9) (T := TX9) (N := 27) (v := .ref (am 15)) 0 21 in_X9 rfl rfl (by decide) fl_X9_52 rfl dX9_passes_16 ?_
          refine wf_aload_n 1 dX9_passes_19 rfl ?_
          refine wf_getf (C := RX9) (T := TX9) (N := 27) (v := .int (nI ((kq j c g (49 + n)) 0 5))) 0 24 in_X9 rfl rfl (by decide) fl_X9_129 rfl dX9_passes_20 ?_
          refine wf_top (y := .int (nI (c + (49 + n)))) rfl ?_
          refine wf_aload_n 2 dX9_passes_23 rfl ?_
          refine wf_iload_n 0 dX9_passes_24 rfl ?_
          refine wf_iald_n (nI (g 8 n)) 10 rfl (by omega) (by decide) rfl dX9_passes_25 ?_
          refine wf_iast_n (wm E am g y (gs (kq j c g (49 + n)) 5 (c + (49 + n)) (g 8 n)) td ++ r) 15 rfl (by omega) (by decide) (sf 15 (Nat.le_of_ble_eq_true rfl) (wm_setj5 (c + (49 + n)) (g 8 n))) dX9_passes_26 ?_
          refine wf_goto 42 dX9_passes_27 (by decide) ?_
          refine wf_aload_n 1 dX9_passes_42 rfl ?_
          refine wf_dup dX9_passes_43 rfl ?_
          refine wf_getf (C := RX9) (T := TX9) (N := 27) (v := .int (nI ((kq j c g (49 + n)) 0 5))) 0 24 in_X9 rfl rfl (by decide) fl_X9_129 rfl dX9_passes_44 ?_
          refine wf_top (y := .int (nI (c + (49 + n)))) rfl ?_
          refine wf_iconst (nI 1) dX9_passes_47 (by decide) ?_
          refine wf_iadd (nI ((c + (49 + n)) + 1)) dX9_passes_48 (nI_add (c + (49 + n)) 1) ?_
          refine wf_putf (C := RX9) (T := TX9) (N := 27) (ty := .int) 0 24 (wm E am g y (gs (gs (kq j c g (49 + n)) 5 (c + (49 + n)) (g 8 n)) 0 5 ((c + (49 + n)) + 1)) td ++ r) tyX9 in_X9 tyX9_ok nmX9 rfl rfl (by decide) fl_X9_129 rfl (by decide +kernel) (by rfl) rfl (Nat.le_of_ble_eq_true rfl) (sf 0 (Nat.le_of_ble_eq_true rfl) (wm_put24 ((c + (49 + n)) + 1))) dX9_passes_49 ?_
          refine wf_iinc (nI (n + 1)) 0 [(2, .int (nI (n + 1))), (0, .ref (am 0)), (1, .ref (am 10))] dX9_passes_52 rfl (nI_1 n) (by decide) rfl ?_
          refine wf_goto 2 dX9_passes_55 (by decide) ?_
          refine wf_sub (lv' := [(2, .int (nI (n + 1))), (0, .ref (am 0)), (1, .ref (am 10))]) [0, 1, 2] rfl ?_
          refine wf_world (wm E am g y (kq j c g (49 + (n + 1))) td ++ r) (by rw [kq_s (enc_8 (by omega)).symm]; rfl) ?_
          exact ih2 (n + 1) (by omega) (by omega)
  refine wf_sub (lv' := [(2, .int (nI 0)), (0, .ref (am 0)), (1, .ref (am 10))]) [0, 1, 2] rfl ?_
  refine wf_world (wm E am g y (kq j c g (49 + 0)) td ++ r) rfl ?_
  exact L2 _ 0 (Nat.lt_succ_self _) (Nat.zero_le _)
set_option maxHeartbeats 4000000 in
set_option maxRecDepth 100000 in
theorem c_X9_passes_r0 {l : Launch} {E : Ev} {c : Nat} {g0 : Gd} {g y j : Gd} {td : Nat → Int32} {am : Nat → Nat} {r : va_W} (hk : ∀ k, k < 61 → j 5 (c + k) = enc g0 k) (hc : c + 61 ≤ 240) : CT l E yX9_passes cX9_passes 3 none rmX9_passes [.ref (am 0), .ref (am 2)] (wm E am (rq g0 g 0) y (jr j c 0) td ++ r) (IS (none) (wm E am (rq g0 g 10) y (jr j c 10) td ++ r)) := by
  refine CT.of (lv := [(0, .ref (am 0)), (1, .ref (am 2))]) false (by decide +kernel) (by decide) (Nat.le_of_ble_eq_true rfl) rfl ?_
  refine wf_iconst (nI 0) dX9_passes_0 (by decide) ?_
  refine wf_istore_n [(2, .int (nI 0)), (0, .ref (am 0)), (1, .ref (am 2))] dX9_passes_1 rfl (by decide) rfl ?_
  have L2 : ∀ (fu2 : Nat) (n : Nat), 10 - n < fu2 → (n ≤ 10) → WF l E RX9 cX9_passes 3 none rmX9_passes false (fun _ => True) (QM E (wm E am (rq g0 g 0) y (jr j c 0) td ++ r) (IS (none) (wm E am (rq g0 g 10) y (jr j c 10) td ++ r)) rmX9_passes) (wm E am (rq g0 g 0) y (jr j c 0) td ++ r) 0 0 2 [(2, .int (nI n)), (0, .ref (am 0)), (1, .ref (am 2))] [] (wm E am (rq g0 g (0 + n)) y (jr j c (0 + n)) td ++ r) := by
    intro fu2
    induction fu2 with
    | zero => intro n hn; exact absurd hn (Nat.not_lt_zero _)
    | succ fu2 ih2 =>
      intro n hn hn
      refine wf_iload_n 0 dX9_passes_2 rfl ?_
      refine wf_aload_n 2 dX9_passes_3 rfl ?_
      refine wf_alen (t0 := 0) (nI 10) 2 rfl rfl rfl dX9_passes_4 ?_
      refine wf_icmp_ge_n 58 dX9_passes_5 (by decide) (by omega) (by omega) (fun c5 => ?_) (fun c5 => ?_)
      · exact wf_vret rfl ⟨rfl, rfl⟩ ⟨rfl, (by rw [show n = 10 by omega])⟩ dX9_passes_58
      · refine wf_aload_n 1 dX9_passes_8 rfl ?_
        refine wf_getf (C := RX9) (T := TX9) (N := 27) (v := .int (nI ((jr j c (0 + n)) 0 4))) 0 23 in_X9 rfl rfl (by decide) fl_X9_125 rfl dX9_passes_9 ?_
        refine wf_if_eq_n 30 dX9_passes_12 (by decide) (by rw [jr_04]; decide) (fun c12 => ?_) (fun c12 => ?_)
        · refine wf_aload_n 2 dX9_passes_30 rfl ?_
          refine wf_iload_n 0 dX9_passes_31 rfl ?_
          refine wf_aload_n 1 dX9_passes_32 rfl ?_
          refine wf_getf (C := RX9) (T := TX9) (N := 27) (v := .ref (am 15)) 0 21 in_X9 rfl rfl (by decide) fl_X9_52 rfl dX9_passes_33 ?_
          refine wf_aload_n 1 dX9_passes_36 rfl ?_
          refine wf_getf (C := RX9) (T := TX9) (N := 27) (v := .int (nI ((jr j c (0 + n)) 0 5))) 0 24 in_X9 rfl rfl (by decide) fl_X9_129 rfl dX9_passes_37 ?_
          refine wf_top (y := .int (nI (c + (0 + n)))) rfl ?_
          refine wf_iald_n (nI ((jr j c (0 + n)) 5 (c + (0 + n)))) 15 rfl (by omega) (by decide) rfl dX9_passes_40 ?_
          refine wf_top (y := .int (nI (g0 0 n))) (by rw [jr_5, hk _ (by omega), enc_0 (by omega)]) ?_
          refine wf_iast_n (wm E am (gs (rq g0 g (0 + n)) 0 n (g0 0 n)) y (jr j c (0 + n)) td ++ r) 2 rfl (by omega) (by decide) (sf 2 (Nat.le_of_ble_eq_true rfl) (wm_set0 n (g0 0 n))) dX9_passes_41 ?_
          refine wf_aload_n 1 dX9_passes_42 rfl ?_
          refine wf_dup dX9_passes_43 rfl ?_
          refine wf_getf (C := RX9) (T := TX9) (N := 27) (v := .int (nI ((jr j c (0 + n)) 0 5))) 0 24 in_X9 rfl rfl (by decide) fl_X9_129 rfl dX9_passes_44 ?_
          refine wf_top (y := .int (nI (c + (0 + n)))) rfl ?_
          refine wf_iconst (nI 1) dX9_passes_47 (by decide) ?_
          refine wf_iadd (nI ((c + (0 + n)) + 1)) dX9_passes_48 (nI_add (c + (0 + n)) 1) ?_
          refine wf_putf (C := RX9) (T := TX9) (N := 27) (ty := .int) 0 24 (wm E am (gs (rq g0 g (0 + n)) 0 n (g0 0 n)) y (gs (jr j c (0 + n)) 0 5 ((c + (0 + n)) + 1)) td ++ r) tyX9 in_X9 tyX9_ok nmX9 rfl rfl (by decide) fl_X9_129 rfl (by decide +kernel) (by rfl) rfl (Nat.le_of_ble_eq_true rfl) (sf 0 (Nat.le_of_ble_eq_true rfl) (wm_put24 ((c + (0 + n)) + 1))) dX9_passes_49 ?_
          refine wf_iinc (nI (n + 1)) 0 [(2, .int (nI (n + 1))), (0, .ref (am 0)), (1, .ref (am 2))] dX9_passes_52 rfl (nI_1 n) (by decide) rfl ?_
          refine wf_goto 2 dX9_passes_55 (by decide) ?_
          refine wf_sub (lv' := [(2, .int (nI (n + 1))), (0, .ref (am 0)), (1, .ref (am 2))]) [0, 1, 2] rfl ?_
          refine wf_world (wm E am (rq g0 g (0 + (n + 1))) y (jr j c (0 + (n + 1))) td ++ r) (by rw [jr_s, rq_s (pos_0 (by omega)) (by omega) rfl]; rfl) ?_
          exact ih2 (n + 1) (by omega) (by omega)
        · exact absurd (jr_04 _ _ _) c12
  refine wf_sub (lv' := [(2, .int (nI 0)), (0, .ref (am 0)), (1, .ref (am 2))]) [0, 1, 2] rfl ?_
  refine wf_world (wm E am (rq g0 g (0 + 0)) y (jr j c (0 + 0)) td ++ r) rfl ?_
  exact L2 _ 0 (Nat.lt_succ_self _) (Nat.zero_le _)
set_option maxHeartbeats 4000000 in
set_option maxRecDepth 100000 in
theorem c_X9_passes_r1 {l : Launch} {E : Ev} {c : Nat} {g0 : Gd} {g y j : Gd} {td : Nat → Int32} {am : Nat → Nat} {r : va_W} (hk : ∀ k, k < 61 → j 5 (c + k) = enc g0 k) (hc : c + 61 ≤ 240) : CT l E yX9_passes cX9_passes 3 none rmX9_passes [.ref (am 0), .ref (am 3)] (wm E am (rq g0 g 10) y (jr j c 10) td ++ r) (IS (none) (wm E am (rq g0 g 20) y (jr j c 20) td ++ r)) := by
  refine CT.of (lv := [(0, .ref (am 0)), (1, .ref (am 3))]) false (by decide +kernel) (by decide) (Nat.le_of_ble_eq_true rfl) rfl ?_
  refine wf_iconst (nI 0) dX9_passes_0 (by decide) ?_
  refine wf_istore_n [(2, .int (nI 0)), (0, .ref (am 0)), (1, .ref (am 3))] dX9_passes_1 rfl (by decide) rfl ?_
  have L2 : ∀ (fu2 : Nat) (n : Nat), 10 - n < fu2 → (n ≤ 10) → WF l E RX9 cX9_passes 3 none rmX9_passes false (fun _ => True) (QM E (wm E am (rq g0 g 10) y (jr j c 10) td ++ r) (IS (none) (wm E am (rq g0 g 20) y (jr j c 20) td ++ r)) rmX9_passes) (wm E am (rq g0 g 10) y (jr j c 10) td ++ r) 0 0 2 [(2, .int (nI n)), (0, .ref (am 0)), (1, .ref (am 3))] [] (wm E am (rq g0 g (10 + n)) y (jr j c (10 + n)) td ++ r) := by
    intro fu2
    induction fu2 with
    | zero => intro n hn; exact absurd hn (Nat.not_lt_zero _)
    | succ fu2 ih2 =>
      intro n hn hn
      refine wf_iload_n 0 dX9_passes_2 rfl ?_
      refine wf_aload_n 2 dX9_passes_3 rfl ?_
      refine wf_alen (t0 := 0) (nI 10) 3 rfl rfl rfl dX9_passes_4 ?_
      refine wf_icmp_ge_n 58 dX9_passes_5 (by decide) (by omega) (by omega) (fun c5 => ?_) (fun c5 => ?_)
      · exact wf_vret rfl ⟨rfl, rfl⟩ ⟨rfl, (by rw [show n = 10 by omega])⟩ dX9_passes_58
      · refine wf_aload_n 1 dX9_passes_8 rfl ?_
        refine wf_getf (C := RX9) (T := TX9) (N := 27) (v := .int (nI ((jr j c (10 + n)) 0 4))) 0 23 in_X9 rfl rfl (by decide) fl_X9_125 rfl dX9_passes_9 ?_
        refine wf_if_eq_n 30 dX9_passes_12 (by decide) (by rw [jr_04]; decide) (fun c12 => ?_) (fun c12 => ?_)
        · refine wf_aload_n 2 dX9_passes_30 rfl ?_
          refine wf_iload_n 0 dX9_passes_31 rfl ?_
          refine wf_aload_n 1 dX9_passes_32 rfl ?_
          refine wf_getf (C := RX9) (T := TX9) (N := 27) (v := .ref (am 15)) 0 21 in_X9 rfl rfl (by decide) fl_X9_52 rfl dX9_passes_33 ?_
          refine wf_aload_n 1 dX9_passes_36 rfl ?_
          refine wf_getf (C := RX9) (T := TX9) (N := 27) (v := .int (nI ((jr j c (10 + n)) 0 5))) 0 24 in_X9 rfl rfl (by decide) fl_X9_129 rfl dX9_passes_37 ?_
          refine wf_top (y := .int (nI (c + (10 + n)))) rfl ?_
          refine wf_iald_n (nI ((jr j c (10 + n)) 5 (c + (10 + n)))) 15 rfl (by omega) (by decide) rfl dX9_passes_40 ?_
          refine wf_top (y := .int (nI (g0 1 n))) (by rw [jr_5, hk _ (by omega), enc_1 (by omega)]) ?_
          refine wf_iast_n (wm E am (gs (rq g0 g (10 + n)) 1 n (g0 1 n)) y (jr j c (10 + n)) td ++ r) 3 rfl (by omega) (by decide) (sf 3 (Nat.le_of_ble_eq_true rfl) (wm_set1 n (g0 1 n))) dX9_passes_41 ?_
          refine wf_aload_n 1 dX9_passes_42 rfl ?_
          refine wf_dup dX9_passes_43 rfl ?_
          refine wf_getf (C := RX9) (T := TX9) (N := 27) (v := .int (nI ((jr j c (10 + n)) 0 5))) 0 24 in_X9 rfl rfl (by decide) fl_X9_129 rfl dX9_passes_44 ?_
          refine wf_top (y := .int (nI (c + (10 + n)))) rfl ?_
          refine wf_iconst (nI 1) dX9_passes_47 (by decide) ?_
          refine wf_iadd (nI ((c + (10 + n)) + 1)) dX9_passes_48 (nI_add (c + (10 + n)) 1) ?_
          refine wf_putf (C := RX9) (T := TX9) (N := 27) (ty := .int) 0 24 (wm E am (gs (rq g0 g (10 + n)) 1 n (g0 1 n)) y (gs (jr j c (10 + n)) 0 5 ((c + (10 + n)) + 1)) td ++ r) tyX9 in_X9 tyX9_ok nmX9 rfl rfl (by decide) fl_X9_129 rfl (by decide +kernel) (by rfl) rfl (Nat.le_of_ble_eq_true rfl) (sf 0 (Nat.le_of_ble_eq_true rfl) (wm_put24 ((c + (10 + n)) + 1))) dX9_passes_49 ?_
          refine wf_iinc (nI (n + 1)) 0 [(2, .int (nI (n + 1))), (0, .ref (am 0)), (1, .ref (am 3))] dX9_passes_52 rfl (nI_1 n) (by decide) rfl ?_
          refine wf_goto 2 dX9_passes_55 (by decide) ?_
          refine wf_sub (lv' := [(2, .int (nI (n + 1))), (0, .ref (am 0)), (1, .ref (am 3))]) [0, 1, 2] rfl ?_
          refine wf_world (wm E am (rq g0 g (10 + (n + 1))) y (jr j c (10 + (n + 1))) td ++ r) (by rw [jr_s, rq_s (pos_1 (by omega)) (by omega) rfl]; rfl) ?_
          exact ih2 (n + 1) (by omega) (by omega)
        · exact absurd (jr_04 _ _ _) c12
  refine wf_sub (lv' := [(2, .int (nI 0)), (0, .ref (am 0)), (1, .ref (am 3))]) [0, 1, 2] rfl ?_
  refine wf_world (wm E am (rq g0 g (10 + 0)) y (jr j c (10 + 0)) td ++ r) rfl ?_
  exact L2 _ 0 (Nat.lt_succ_self _) (Nat.zero_le _)
set_option maxHeartbeats 4000000 in
set_option maxRecDepth 100000 in
theorem c_X9_passes_r2 {l : Launch} {E : Ev} {c : Nat} {g0 : Gd} {g y j : Gd} {td : Nat → Int32} {am : Nat → Nat} {r : va_W} (hk : ∀ k, k < 61 → j 5 (c + k) = enc g0 k) (hc : c + 61 ≤ 240) : CT l E yX9_passes cX9_passes 3 none rmX9_passes [.ref (am 0), .ref (am 4)] (wm E am (rq g0 g 20) y (jr j c 20) td ++ r) (IS (none) (wm E am (rq g0 g 30) y (jr j c 30) td ++ r)) := by
  refine CT.of (lv := [(0, .ref (am 0)), (1, .ref (am 4))]) false (by decide +kernel) (by decide) (Nat.le_of_ble_eq_true rfl) rfl ?_
  refine wf_iconst (nI 0) dX9_passes_0 (by decide) ?_
  refine wf_istore_n [(2, .int (nI 0)), (0, .ref (am 0)), (1, .ref (am 4))] dX9_passes_1 rfl (by decide) rfl ?_
  have L2 : ∀ (fu2 : Nat) (n : Nat), 10 - n < fu2 → (n ≤ 10) → WF l E RX9 cX9_passes 3 none rmX9_passes false (fun _ => True) (QM E (wm E am (rq g0 g 20) y (jr j c 20) td ++ r) (IS (none) (wm E am (rq g0 g 30) y (jr j c 30) td ++ r)) rmX9_passes) (wm E am (rq g0 g 20) y (jr j c 20) td ++ r) 0 0 2 [(2, .int (nI n)), (0, .ref (am 0)), (1, .ref (am 4))] [] (wm E am (rq g0 g (20 + n)) y (jr j c (20 + n)) td ++ r) := by
    intro fu2
    induction fu2 with
    | zero => intro n hn; exact absurd hn (Nat.not_lt_zero _)
    | succ fu2 ih2 =>
      intro n hn hn
      refine wf_iload_n 0 dX9_passes_2 rfl ?_
      refine wf_aload_n 2 dX9_passes_3 rfl ?_
      refine wf_alen (t0 := 0) (nI 10) 4 rfl rfl rfl dX9_passes_4 ?_
      refine wf_icmp_ge_n 58 dX9_passes_5 (by decide) (by omega) (by omega) (fun c5 => ?_) (fun c5 => ?_)
      · exact wf_vret rfl ⟨rfl, rfl⟩ ⟨rfl, (by rw [show n = 10 by omega])⟩ dX9_passes_58
      · refine wf_aload_n 1 dX9_passes_8 rfl ?_
        refine wf_getf (C := RX9) (T := TX9) (N := 27) (v := .int (nI ((jr j c (20 + n)) 0 4))) 0 23 in_X9 rfl rfl (by decide) fl_X9_125 rfl dX9_passes_9 ?_
        refine wf_if_eq_n 30 dX9_passes_12 (by decide) (by rw [jr_04]; decide) (fun c12 => ?_) (fun c12 => ?_)
        · refine wf_aload_n 2 dX9_passes_30 rfl ?_
          refine wf_iload_n 0 dX9_passes_31 rfl ?_
          refine wf_aload_n 1 dX9_passes_32 rfl ?_
          refine wf_getf (C := RX9) (T := TX9) (N := 27) (v := .ref (am 15)) 0 21 in_X9 rfl rfl (by decide) fl_X9_52 rfl dX9_passes_33 ?_
          refine wf_aload_n 1 dX9_passes_36 rfl ?_
          refine wf_getf (C := RX9) (T := TX9) (N := 27) (v := .int (nI ((jr j c (20 + n)) 0 5))) 0 24 in_X9 rfl rfl (by decide) fl_X9_129 rfl dX9_passes_37 ?_
          refine wf_top (y := .int (nI (c + (20 + n)))) rfl ?_
          refine wf_iald_n (nI ((jr j c (20 + n)) 5 (c + (20 + n)))) 15 rfl (by omega) (by decide) rfl dX9_passes_40 ?_
          refine wf_top (y := .int (nI (g0 2 n))) (by rw [jr_5, hk _ (by omega), enc_2 (by omega)]) ?_
          refine wf_iast_n (wm E am (gs (rq g0 g (20 + n)) 2 n (g0 2 n)) y (jr j c (20 + n)) td ++ r) 4 rfl (by omega) (by decide) (sf 4 (Nat.le_of_ble_eq_true rfl) (wm_set2 n (g0 2 n))) dX9_passes_41 ?_
          refine wf_aload_n 1 dX9_passes_42 rfl ?_
          refine wf_dup dX9_passes_43 rfl ?_
          refine wf_getf (C := RX9) (T := TX9) (N := 27) (v := .int (nI ((jr j c (20 + n)) 0 5))) 0 24 in_X9 rfl rfl (by decide) fl_X9_129 rfl dX9_passes_44 ?_
          refine wf_top (y := .int (nI (c + (20 + n)))) rfl ?_
          refine wf_iconst (nI 1) dX9_passes_47 (by decide) ?_
          refine wf_iadd (nI ((c + (20 + n)) + 1)) dX9_passes_48 (nI_add (c + (20 + n)) 1) ?_
          refine wf_putf (C := RX9) (T := TX9) (N := 27) (ty := .int) 0 24 (wm E am (gs (rq g0 g (20 + n)) 2 n (g0 2 n)) y (gs (jr j c (20 + n)) 0 5 ((c + (20 + n)) + 1)) td ++ r) tyX9 in_X9 tyX9_ok nmX9 rfl rfl (by decide) fl_X9_129 rfl (by decide +kernel) (by rfl) rfl (Nat.le_of_ble_eq_true rfl) (sf 0 (Nat.le_of_ble_eq_true rfl) (wm_put24 ((c + (20 + n)) + 1))) dX9_passes_49 ?_
          refine wf_iinc (nI (n + 1)) 0 [(2, .int (nI (n + 1))), (0, .ref (am 0)), (1, .ref (am 4))] dX9_passes_52 rfl (nI_1 n) (by decide) rfl ?_
          refine wf_goto 2 dX9_passes_55 (by decide) ?_
          refine wf_sub (lv' := [(2, .int (nI (n + 1))), (0, .ref (am 0)), (1, .ref (am 4))]) [0, 1, 2] rfl ?_
          refine wf_world (wm E am (rq g0 g (20 + (n + 1))) y (jr j c (20 + (n + 1))) td ++ r) (by rw [jr_s, rq_s (pos_2 (by omega)) (by omega) rfl]; rfl) ?_
          exact ih2 (n + 1) (by omega) (by omega)
        · exact absurd (jr_04 _ _ _) c12
  refine wf_sub (lv' := [(2, .int (nI 0)), (0, .ref (am 0)), (1, .ref (am 4))]) [0, 1, 2] rfl ?_
  refine wf_world (wm E am (rq g0 g (20 + 0)) y (jr j c (20 + 0)) td ++ r) rfl ?_
  exact L2 _ 0 (Nat.lt_succ_self _) (Nat.zero_le _)
set_option maxHeartbeats 4000000 in
set_option maxRecDepth 100000 in
theorem c_X9_passes_r3 {l : Launch} {E : Ev} {c : Nat} {g0 : Gd} {g y j : Gd} {td : Nat → Int32} {am : Nat → Nat} {r : va_W} (hk : ∀ k, k < 61 → j 5 (c + k) = enc g0 k) (hc : c + 61 ≤ 240) : CT l E yX9_passes cX9_passes 3 none rmX9_passes [.ref (am 0), .ref (am 5)] (wm E am (rq g0 g 30) y (jr j c 30) td ++ r) (IS (none) (wm E am (rq g0 g 34) y (jr j c 34) td ++ r)) := by
  refine CT.of (lv := [(0, .ref (am 0)), (1, .ref (am 5))]) false (by decide +kernel) (by decide) (Nat.le_of_ble_eq_true rfl) rfl ?_
  refine wf_iconst (nI 0) dX9_passes_0 (by decide) ?_
  refine wf_istore_n [(2, .int (nI 0)), (0, .ref (am 0)), (1, .ref (am 5))] dX9_passes_1 rfl (by decide) rfl ?_
  have L2 : ∀ (fu2 : Nat) (n : Nat), 4 - n < fu2 → (n ≤ 4) → WF l E RX9 cX9_passes 3 none rmX9_passes false (fun _ => True) (QM E (wm E am (rq g0 g 30) y (jr j c 30) td ++ r) (IS (none) (wm E am (rq g0 g 34) y (jr j c 34) td ++ r)) rmX9_passes) (wm E am (rq g0 g 30) y (jr j c 30) td ++ r) 0 0 2 [(2, .int (nI n)), (0, .ref (am 0)), (1, .ref (am 5))] [] (wm E am (rq g0 g (30 + n)) y (jr j c (30 + n)) td ++ r) := by
    intro fu2
    induction fu2 with
    | zero => intro n hn; exact absurd hn (Nat.not_lt_zero _)
    | succ fu2 ih2 =>
      intro n hn hn
      refine wf_iload_n 0 dX9_passes_2 rfl ?_
      refine wf_aload_n 2 dX9_passes_3 rfl ?_
      refine wf_alen (t0 := 0) (nI 4) 5 rfl rfl rfl dX9_passes_4 ?_
      refine wf_icmp_ge_n 58 dX9_passes_5 (by decide) (by omega) (by omega) (fun c5 => ?_) (fun c5 => ?_)
      · exact wf_vret rfl ⟨rfl, rfl⟩ ⟨rfl, (by rw [show n = 4 by omega])⟩ dX9_passes_58
      · refine wf_aload_n 1 dX9_passes_8 rfl ?_
        refine wf_getf (C := RX9) (T := TX9) (N := 27) (v := .int (nI ((jr j c (30 + n)) 0 4))) 0 23 in_X9 rfl rfl (by decide) fl_X9_125 rfl dX9_passes_9 ?_
        refine wf_if_eq_n 30 dX9_passes_12 (by decide) (by rw [jr_04]; decide) (fun c12 => ?_) (fun c12 => ?_)
        · refine wf_aload_n 2 dX9_passes_30 rfl ?_
          refine wf_iload_n 0 dX9_passes_31 rfl ?_
          refine wf_aload_n 1 dX9_passes_32 rfl ?_
          refine wf_getf (C := RX9) (T := TX9) (N := 27) (v := .ref (am 15)) 0 21 in_X9 rfl rfl (by decide) fl_X9_52 rfl dX9_passes_33 ?_
          refine wf_aload_n 1 dX9_passes_36 rfl ?_
          refine wf_getf (C := RX9) (T := TX9) (N := 27) (v := .int (nI ((jr j c (30 + n)) 0 5))) 0 24 in_X9 rfl rfl (by decide) fl_X9_129 rfl dX9_passes_37 ?_
          refine wf_top (y := .int (nI (c + (30 + n)))) rfl ?_
          refine wf_iald_n (nI ((jr j c (30 + n)) 5 (c + (30 + n)))) 15 rfl (by omega) (by decide) rfl dX9_passes_40 ?_
          refine wf_top (y := .int (nI (g0 3 n))) (by rw [jr_5, hk _ (by omega), enc_3 (by omega)]) ?_
          refine wf_iast_n (wm E am (gs (rq g0 g (30 + n)) 3 n (g0 3 n)) y (jr j c (30 + n)) td ++ r) 5 rfl (by omega) (by decide) (sf 5 (Nat.le_of_ble_eq_true rfl) (wm_set3 n (g0 3 n))) dX9_passes_41 ?_
          refine wf_aload_n 1 dX9_passes_42 rfl ?_
          refine wf_dup dX9_passes_43 rfl ?_
          refine wf_getf (C := RX9) (T := TX9) (N := 27) (v := .int (nI ((jr j c (30 + n)) 0 5))) 0 24 in_X9 rfl rfl (by decide) fl_X9_129 rfl dX9_passes_44 ?_
          refine wf_top (y := .int (nI (c + (30 + n)))) rfl ?_
          refine wf_iconst (nI 1) dX9_passes_47 (by decide) ?_
          refine wf_iadd (nI ((c + (30 + n)) + 1)) dX9_passes_48 (nI_add (c + (30 + n)) 1) ?_
          refine wf_putf (C := RX9) (T := TX9) (N := 27) (ty := .int) 0 24 (wm E am (gs (rq g0 g (30 + n)) 3 n (g0 3 n)) y (gs (jr j c (30 + n)) 0 5 ((c + (30 + n)) + 1)) td ++ r) tyX9 in_X9 tyX9_ok nmX9 rfl rfl (by decide) fl_X9_129 rfl (by decide +kernel) (by rfl) rfl (Nat.le_of_ble_eq_true rfl) (sf 0 (Nat.le_of_ble_eq_true rfl) (wm_put24 ((c + (30 + n)) + 1))) dX9_passes_49 ?_
          refine wf_iinc (nI (n + 1)) 0 [(2, .int (nI (n + 1))), (0, .ref (am 0)), (1, .ref (am 5))] dX9_passes_52 rfl (nI_1 n) (by decide) rfl ?_
          refine wf_goto 2 dX9_passes_55 (by decide) ?_
          refine wf_sub (lv' := [(2, .int (nI (n + 1))), (0, .ref (am 0)), (1, .ref (am 5))]) [0, 1, 2] rfl ?_
          refine wf_world (wm E am (rq g0 g (30 + (n + 1))) y (jr j c (30 + (n + 1))) td ++ r) (by rw [jr_s, rq_s (pos_3 (by omega)) (by omega) rfl]; rfl) ?_
          exact ih2 (n + 1) (by omega) (by omega)
        · exact absurd (jr_04 _ _ _) c12
  refine wf_sub (lv' := [(2, .int (nI 0)), (0, .ref (am 0)), (1, .ref (am 5))]) [0, 1, 2] rfl ?_
  refine wf_world (wm E am (rq g0 g (30 + 0)) y (jr j c (30 + 0)) td ++ r) rfl ?_
  exact L2 _ 0 (Nat.lt_succ_self _) (Nat.zero_le _)
set_option maxHeartbeats 4000000 in
set_option maxRecDepth 100000 in
theorem c_X9_passes_r4 {l : Launch} {E : Ev} {c : Nat} {g0 : Gd} {g y j : Gd} {td : Nat → Int32} {am : Nat → Nat} {r : va_W} (hk : ∀ k, k < 61 → j 5 (c + k) = enc g0 k) (hc : c + 61 ≤ 240) : CT l E yX9_passes cX9_passes 3 none rmX9_passes [.ref (am 0), .ref (am 6)] (wm E am (rq g0 g 34) y (jr j c 34) td ++ r) (IS (none) (wm E am (rq g0 g 38) y (jr j c 38) td ++ r)) := by
  refine CT.of (lv := [(0, .ref (am 0)), (1, .ref (am 6))]) false (by decide +kernel) (by decide) (Nat.le_of_ble_eq_true rfl) rfl ?_
  refine wf_iconst (nI 0) dX9_passes_0 (by decide) ?_
  refine wf_istore_n [(2, .int (nI 0)), (0, .ref (am 0)), (1, .ref (am 6))] dX9_passes_1 rfl (by decide) rfl ?_
  have L2 : ∀ (fu2 : Nat) (n : Nat), 4 - n < fu2 → (n ≤ 4) → WF l E RX9 cX9_passes 3 none rmX9_passes false (fun _ => True) (QM E (wm E am (rq g0 g 34) y (jr j c 34) td ++ r) (IS (none) (wm E am (rq g0 g 38) y (jr j c 38) td ++ r)) rmX9_passes) (wm E am (rq g0 g 34) y (jr j c 34) td ++ r) 0 0 2 [(2, .int (nI n)), (0, .ref (am 0)), (1, .ref (am 6))] [] (wm E am (rq g0 g (34 + n)) y (jr j c (34 + n)) td ++ r) := by
    intro fu2
    induction fu2 with
    | zero => intro n hn; exact absurd hn (Nat.not_lt_zero _)
    | succ fu2 ih2 =>
      intro n hn hn
      refine wf_iload_n 0 dX9_passes_2 rfl ?_
      refine wf_aload_n 2 dX9_passes_3 rfl ?_
      refine wf_alen (t0 := 0) (nI 4) 6 rfl rfl rfl dX9_passes_4 ?_
      refine wf_icmp_ge_n 58 dX9_passes_5 (by decide) (by omega) (by omega) (fun c5 => ?_) (fun c5 => ?_)
      · exact wf_vret rfl ⟨rfl, rfl⟩ ⟨rfl, (by rw [show n = 4 by omega])⟩ dX9_passes_58
      · refine wf_aload_n 1 dX9_passes_8 rfl ?_
        refine wf_getf (C := RX9) (T := TX9) (N := 27) (v := .int (nI ((jr j c (34 + n)) 0 4))) 0 23 in_X9 rfl rfl (by decide) fl_X9_125 rfl dX9_passes_9 ?_
        refine wf_if_eq_n 30 dX9_passes_12 (by decide) (by rw [jr_04]; decide) (fun c12 => ?_) (fun c12 => ?_)
        · refine wf_aload_n 2 dX9_passes_30 rfl ?_
          refine wf_iload_n 0 dX9_passes_31 rfl ?_
          refine wf_aload_n 1 dX9_passes_32 rfl ?_
          refine wf_getf (C := RX9) (T := TX9) (N := 27) (v := .ref (am 15)) 0 21 in_X9 rfl rfl (by decide) fl_X9_52 rfl dX9_passes_33 ?_
          refine wf_aload_n 1 dX9_passes_36 rfl ?_
          refine wf_getf (C := RX9) (T := TX9) (N := 27) (v := .int (nI ((jr j c (34 + n)) 0 5))) 0 24 in_X9 rfl rfl (by decide) fl_X9_129 rfl dX9_passes_37 ?_
          refine wf_top (y := .int (nI (c + (34 + n)))) rfl ?_
          refine wf_iald_n (nI ((jr j c (34 + n)) 5 (c + (34 + n)))) 15 rfl (by omega) (by decide) rfl dX9_passes_40 ?_
          refine wf_top (y := .int (nI (g0 4 n))) (by rw [jr_5, hk _ (by omega), enc_4 (by omega)]) ?_
          refine wf_iast_n (wm E am (gs (rq g0 g (34 + n)) 4 n (g0 4 n)) y (jr j c (34 + n)) td ++ r) 6 rfl (by omega) (by decide) (sf 6 (Nat.le_of_ble_eq_true rfl) (wm_set4 n (g0 4 n))) dX9_passes_41 ?_
          refine wf_aload_n 1 dX9_passes_42 rfl ?_
          refine wf_dup dX9_passes_43 rfl ?_
          refine wf_getf (C := RX9) (T := TX9) (N := 27) (v := .int (nI ((jr j c (34 + n)) 0 5))) 0 24 in_X9 rfl rfl (by decide) fl_X9_129 rfl dX9_passes_44 ?_
          refine wf_top (y := .int (nI (c + (34 + n)))) rfl ?_
          refine wf_iconst (nI 1) dX9_passes_47 (by decide) ?_
          refine wf_iadd (nI ((c + (34 + n)) + 1)) dX9_passes_48 (nI_add (c + (34 + n)) 1) ?_
          refine wf_putf (C := RX9) (T := TX9) (N := 27) (ty := .int) 0 24 (wm E am (gs (rq g0 g (34 + n)) 4 n (g0 4 n)) y (gs (jr j c (34 + n)) 0 5 ((c + (34 + n)) + 1)) td ++ r) tyX9 in_X9 tyX9_ok nmX9 rfl rfl (by decide) fl_X9_129 rfl (by decide +kernel) (by rfl) rfl (Nat.le_of_ble_eq_true rfl) (sf 0 (Nat.le_of_ble_eq_true rfl) (wm_put24 ((c + (34 + n)) + 1))) dX9_passes_49 ?_
          refine wf_iinc (nI (n + 1)) 0 [(2, .int (nI (n + 1))), (0, .ref (am 0)), (1, .ref (am 6))] dX9_passes_52 rfl (nI_1 n) (by decide) rfl ?_
          refine wf_goto 2 dX9_passes_55 (by decide) ?_
          refine wf_sub (lv' := [(2, .int (nI (n + 1))), (0, .ref (am 0)), (1, .ref (am 6))]) [0, 1, 2] rfl ?_
          refine wf_world (wm E am (rq g0 g (34 + (n + 1))) y (jr j c (34 + (n + 1))) td ++ r) (by rw [jr_s, rq_s (pos_4 (by omega)) (by omega) rfl]; rfl) ?_
          exact ih2 (n + 1) (by omega) (by omega)
        · exact absurd (jr_04 _ _ _) c12
  refine wf_sub (lv' := [(2, .int (nI 0)), (0, .ref (am 0)), (1, .ref (am 6))]) [0, 1, 2] rfl ?_
  refine wf_world (wm E am (rq g0 g (34 + 0)) y (jr j c (34 + 0)) td ++ r) rfl ?_
  exact L2 _ 0 (Nat.lt_succ_self _) (Nat.zero_le _)
set_option maxHeartbeats 4000000 in
set_option maxRecDepth 100000 in
theorem c_X9_passes_r5 {l : Launch} {E : Ev} {c : Nat} {g0 : Gd} {g y j : Gd} {td : Nat → Int32} {am : Nat → Nat} {r : va_W} (hk : ∀ k, k < 61 → j 5 (c + k) = enc g0 k) (hc : c + 61 ≤ 240) : CT l E yX9_passes cX9_passes 3 none rmX9_passes [.ref (am 0), .ref (am 7)] (wm E am (rq g0 g 38) y (jr j c 38) td ++ r) (IS (none) (wm E am (rq g0 g 42) y (jr j c 42) td ++ r)) := by
  refine CT.of (lv := [(0, .ref (am 0)), (1, .ref (am 7))]) false (by decide +kernel) (by decide) (Nat.le_of_ble_eq_true rfl) rfl ?_
  refine wf_iconst (nI 0) dX9_passes_0 (by decide) ?_
  refine wf_istore_n [(2, .int (nI 0)), (0, .ref (am 0)), (1, .ref (am 7))] dX9_passes_1 rfl (by decide) rfl ?_
  have L2 : ∀ (fu2 : Nat) (n : Nat), 4 - n < fu2 → (n ≤ 4) → WF l E RX9 cX9_passes 3 none rmX9_passes false (fun _ => True) (QM E (wm E am (rq g0 g 38) y (jr j c 38) td ++ r) (IS (none) (wm E am (rq g0 g 42) y (jr j c 42) td ++ r)) rmX9_passes) (wm E am (rq g0 g 38) y (jr j c 38) td ++ r) 0 0 2 [(2, .int (nI n)), (0, .ref (am 0)), (1, .ref (am 7))] [] (wm E am (rq g0 g (38 + n)) y (jr j c (38 + n)) td ++ r) := by
    intro fu2
    induction fu2 with
    | zero => intro n hn; exact absurd hn (Nat.not_lt_zero _)
    | succ fu2 ih2 =>
      intro n hn hn
      refine wf_iload_n 0 dX9_passes_2 rfl ?_
      refine wf_aload_n 2 dX9_passes_3 rfl ?_
      refine wf_alen (t0 := 0) (nI 4) 7 rfl rfl rfl dX9_passes_4 ?_
      refine wf_icmp_ge_n 58 dX9_passes_5 (by decide) (by omega) (by omega) (fun c5 => ?_) (fun c5 => ?_)
      · exact wf_vret rfl ⟨rfl, rfl⟩ ⟨rfl, (by rw [show n = 4 by omega])⟩ dX9_passes_58
      · refine wf_aload_n 1 dX9_passes_8 rfl ?_
        refine wf_getf (C := RX9) (T := TX9) (N := 27) (v := .int (nI ((jr j c (38 + n)) 0 4))) 0 23 in_X9 rfl rfl (by decide) fl_X9_125 rfl dX9_passes_9 ?_
        refine wf_if_eq_n 30 dX9_passes_12 (by decide) (by rw [jr_04]; decide) (fun c12 => ?_) (fun c12 => ?_)
        · refine wf_aload_n 2 dX9_passes_30 rfl ?_
          refine wf_iload_n 0 dX9_passes_31 rfl ?_
          refine wf_aload_n 1 dX9_passes_32 rfl ?_
          refine wf_getf (C := RX9) (T := TX9) (N := 27) (v := .ref (am 15)) 0 21 in_X9 rfl rfl (by decide) fl_X9_52 rfl dX9_passes_33 ?_
          refine wf_aload_n 1 dX9_passes_36 rfl ?_
          refine wf_getf (C := RX9) (T := TX9) (N := 27) (v := .int (nI ((jr j c (38 + n)) 0 5))) 0 24 in_X9 rfl rfl (by decide) fl_X9_129 rfl dX9_passes_37 ?_
          refine wf_top (y := .int (nI (c + (38 + n)))) rfl ?_
          refine wf_iald_n (nI ((jr j c (38 + n)) 5 (c + (38 + n)))) 15 rfl (by omega) (by decide) rfl dX9_passes_40 ?_
          refine wf_top (y := .int (nI (g0 5 n))) (by rw [jr_5, hk _ (by omega), enc_5 (by omega)]) ?_
          refine wf_iast_n (wm E am (gs (rq g0 g (38 + n)) 5 n (g0 5 n)) y (jr j c (38 + n)) td ++ r) 7 rfl (by omega) (by decide) (sf 7 (Nat.le_of_ble_eq_true rfl) (wm_set5 n (g0 5 n))) dX9_passes_41 ?_
          refine wf_aload_n 1 dX9_passes_42 rfl ?_
          refine wf_dup dX9_passes_43 rfl ?_
          refine wf_getf (C := RX9) (T := TX9) (N := 27) (v := .int (nI ((jr j c (38 + n)) 0 5))) 0 24 in_X9 rfl rfl (by decide) fl_X9_129 rfl dX9_passes_44 ?_
          refine wf_top (y := .int (nI (c + (38 + n)))) rfl ?_
          refine wf_iconst (nI 1) dX9_passes_47 (by decide) ?_
          refine wf_iadd (nI ((c + (38 + n)) + 1)) dX9_passes_48 (nI_add (c + (38 + n)) 1) ?_
          refine wf_putf (C := RX9) (T := TX9) (N := 27) (ty := .int) 0 24 (wm E am (gs (rq g0 g (38 + n)) 5 n (g0 5 n)) y (gs (jr j c (38 + n)) 0 5 ((c + (38 + n)) + 1)) td ++ r) tyX9 in_X9 tyX9_ok nmX9 rfl rfl (by decide) fl_X9_129 rfl (by decide +kernel) (by rfl) rfl (Nat.le_of_ble_eq_true rfl) (sf 0 (Nat.le_of_ble_eq_true rfl) (wm_put24 ((c + (38 + n)) + 1))) dX9_passes_49 ?_
          refine wf_iinc (nI (n + 1)) 0 [(2, .int (nI (n + 1))), (0, .ref (am 0)), (1, .ref (am 7))] dX9_passes_52 rfl (nI_1 n) (by decide) rfl ?_
          refine wf_goto 2 dX9_passes_55 (by decide) ?_
          refine wf_sub (lv' := [(2, .int (nI (n + 1))), (0, .ref (am 0)), (1, .ref (am 7))]) [0, 1, 2] rfl ?_
          refine wf_world (wm E am (rq g0 g (38 + (n + 1))) y (jr j c (38 + (n + 1))) td ++ r) (by rw [jr_s, rq_s (pos_5 (by omega)) (by omega) rfl]; rfl) ?_
          exact ih2 (n + 1) (by omega) (by omega)
        · exact absurd (jr_04 _ _ _) c12
  refine wf_sub (lv' := [(2, .int (nI 0)), (0, .ref (am 0)), (1, .ref (am 7))]) [0, 1, 2] rfl ?_
  refine wf_world (wm E am (rq g0 g (38 + 0)) y (jr j c (38 + 0)) td ++ r) rfl ?_
  exact L2 _ 0 (Nat.lt_succ_self _) (Nat.zero_le _)
set_option maxHeartbeats 4000000 in
set_option maxRecDepth 100000 in
theorem c_X9_passes_r6 {l : Launch} {E : Ev} {c : Nat} {g0 : Gd} {g y j : Gd} {td : Nat → Int32} {am : Nat → Nat} {r : va_W} (hk : ∀ k, k < 61 → j 5 (c + k) = enc g0 k) (hc : c + 61 ≤ 240) : CT l E yX9_passes cX9_passes 3 none rmX9_passes [.ref (am 0), .ref (am 8)] (wm E am (rq g0 g 42) y (jr j c 42) td ++ r) (IS (none) (wm E am (rq g0 g 46) y (jr j c 46) td ++ r)) := by
  refine CT.of (lv := [(0, .ref (am 0)), (1, .ref (am 8))]) false (by decide +kernel) (by decide) (Nat.le_of_ble_eq_true rfl) rfl ?_
  refine wf_iconst (nI 0) dX9_passes_0 (by decide) ?_
  refine wf_istore_n [(2, .int (nI 0)), (0, .ref (am 0)), (1, .ref (am 8))] dX9_passes_1 rfl (by decide) rfl ?_
  have L2 : ∀ (fu2 : Nat) (n : Nat), 4 - n < fu2 → (n ≤ 4) → WF l E RX9 cX9_passes 3 none rmX9_passes false (fun _ => True) (QM E (wm E am (rq g0 g 42) y (jr j c 42) td ++ r) (IS (none) (wm E am (rq g0 g 46) y (jr j c 46) td ++ r)) rmX9_passes) (wm E am (rq g0 g 42) y (jr j c 42) td ++ r) 0 0 2 [(2, .int (nI n)), (0, .ref (am 0)), (1, .ref (am 8))] [] (wm E am (rq g0 g (42 + n)) y (jr j c (42 + n)) td ++ r) := by
    intro fu2
    induction fu2 with
    | zero => intro n hn; exact absurd hn (Nat.not_lt_zero _)
    | succ fu2 ih2 =>
      intro n hn hn
      refine wf_iload_n 0 dX9_passes_2 rfl ?_
      refine wf_aload_n 2 dX9_passes_3 rfl ?_
      refine wf_alen (t0 := 0) (nI 4) 8 rfl rfl rfl dX9_passes_4 ?_
      refine wf_icmp_ge_n 58 dX9_passes_5 (by decide) (by omega) (by omega) (fun c5 => ?_) (fun c5 => ?_)
      · exact wf_vret rfl ⟨rfl, rfl⟩ ⟨rfl, (by rw [show n = 4 by omega])⟩ dX9_passes_58
      · refine wf_aload_n 1 dX9_passes_8 rfl ?_
        refine wf_getf (C := RX9) (T := TX9) (N := 27) (v := .int (nI ((jr j c (42 + n)) 0 4))) 0 23 in_X9 rfl rfl (by decide) fl_X9_125 rfl dX9_passes_9 ?_
        refine wf_if_eq_n 30 dX9_passes_12 (by decide) (by rw [jr_04]; decide) (fun c12 => ?_) (fun c12 => ?_)
        · refine wf_aload_n 2 dX9_passes_30 rfl ?_
          refine wf_iload_n 0 dX9_passes_31 rfl ?_
          refine wf_aload_n 1 dX9_passes_32 rfl ?_
          refine wf_getf (C := RX9) (T := TX9) (N := 27) (v := .ref (am 15)) 0 21 in_X9 rfl rfl (by decide) fl_X9_52 rfl dX9_passes_33 ?_
          refine wf_aload_n 1 dX9_passes_36 rfl ?_
          refine wf_getf (C := RX9) (T := TX9) (N := 27) (v := .int (nI ((jr j c (42 + n)) 0 5))) 0 24 in_X9 rfl rfl (by decide) fl_X9_129 rfl dX9_passes_37 ?_
          refine wf_top (y := .int (nI (c + (42 + n)))) rfl ?_
          refine wf_iald_n (nI ((jr j c (42 + n)) 5 (c + (42 + n)))) 15 rfl (by omega) (by decide) rfl dX9_passes_40 ?_
          refine wf_top (y := .int (nI (g0 6 n))) (by rw [jr_5, hk _ (by omega), enc_6 (by omega)]) ?_
          refine wf_iast_n (wm E am (gs (rq g0 g (42 + n)) 6 n (g0 6 n)) y (jr j c (42 + n)) td ++ r) 8 rfl (by omega) (by decide) (sf 8 (Nat.le_of_ble_eq_true rfl) (wm_set6 n (g0 6 n))) dX9_passes_41 ?_
          refine wf_aload_n 1 dX9_passes_42 rfl ?_
          refine wf_dup dX9_passes_43 rfl ?_
          refine wf_getf (C := RX9) (T := TX9) (N := 27) (v := .int (nI ((jr j c (42 + n)) 0 5))) 0 24 in_X9 rfl rfl (by decide) fl_X9_129 rfl dX9_passes_44 ?_
          refine wf_top (y := .int (nI (c + (42 + n)))) rfl ?_
          refine wf_iconst (nI 1) dX9_passes_47 (by decide) ?_
          refine wf_iadd (nI ((c + (42 + n)) + 1)) dX9_passes_48 (nI_add (c + (42 + n)) 1) ?_
          refine wf_putf (C := RX9) (T := TX9) (N := 27) (ty := .int) 0 24 (wm E am (gs (rq g0 g (42 + n)) 6 n (g0 6 n)) y (gs (jr j c (42 + n)) 0 5 ((c + (42 + n)) + 1)) td ++ r) tyX9 in_X9 tyX9_ok nmX9 rfl rfl (by decide) fl_X9_129 rfl (by decide +kernel) (by rfl) rfl (Nat.le_of_ble_eq_true rfl) (sf 0 (Nat.le_of_ble_eq_true rfl) (wm_put24 ((c + (42 + n)) + 1))) dX9_passes_49 ?_
          refine wf_iinc (nI (n + 1)) 0 [(2, .int (nI (n + 1))), (0, .ref (am 0)), (1, .ref (am 8))] dX9_passes_52 rfl (nI_1 n) (by decide) rfl ?_
          refine wf_goto 2 dX9_passes_55 (by decide) ?_
          refine wf_sub (lv' := [(2, .int (nI (n + 1))), (0, .ref (am 0)), (1, .ref (am 8))]) [0, 1, 2] rfl ?_
          refine wf_world (wm E am (rq g0 g (42 + (n + 1))) y (jr j c (42 + (n + 1))) td ++ r) (by rw [jr_s, rq_s (pos_6 (by omega)) (by omega) rfl]; rfl) ?_
          exact ih2 (n + 1) (by omega) (by omega)
        · exact absurd (jr_04 _ _ _) c12
  refine wf_sub (lv' := [(2, .int (nI 0)), (0, .ref (am 0)), (1, .ref (am 8))]) [0, 1, 2] rfl ?_
  refine wf_world (wm E am (rq g0 g (42 + 0)) y (jr j c (42 + 0)) td ++ r) rfl ?_
  exact L2 _ 0 (Nat.lt_succ_self _) (Nat.zero_le _)
set_option maxHeartbeats 4000000 in
set_option maxRecDepth 100000 in
theorem c_X9_passes_r7 {l : Launch} {E : Ev} {c : Nat} {g0 : Gd} {g y j : Gd} {td : Nat → Int32} {am : Nat → Nat} {r : va_W} (hk : ∀ k, k < 61 → j 5 (c + k) = enc g0 k) (hc : c + 61 ≤ 240) : CT l E yX9_passes cX9_passes 3 none rmX9_passes [.ref (am 0), .ref (am 9)] (wm E am (rq g0 g 46) y (jr j c 46) td ++ r) (IS (none) (wm E am (rq g0 g 49) y (jr j c 49) td ++ r)) := by
  refine CT.of (lv := [(0, .ref (am 0)), (1, .ref (am 9))]) false (by decide +kernel) (by decide) (Nat.le_of_ble_eq_true rfl) rfl ?_
  refine wf_iconst (nI 0) dX9_passes_0 (by decide) ?_
  refine wf_istore_n [(2, .int (nI 0)), (0, .ref (am 0)), (1, .ref (am 9))] dX9_passes_1 rfl (by decide) rfl ?_
  have L2 : ∀ (fu2 : Nat) (n : Nat), 3 - n < fu2 → (n ≤ 3) → WF l E RX9 cX9_passes 3 none rmX9_passes false (fun _ => True) (QM E (wm E am (rq g0 g 46) y (jr j c 46) td ++ r) (IS (none) (wm E am (rq g0 g 49) y (jr j c 49) td ++ r)) rmX9_passes) (wm E am (rq g0 g 46) y (jr j c 46) td ++ r) 0 0 2 [(2, .int (nI n)), (0, .ref (am 0)), (1, .ref (am 9))] [] (wm E am (rq g0 g (46 + n)) y (jr j c (46 + n)) td ++ r) := by
    intro fu2
    induction fu2 with
    | zero => intro n hn; exact absurd hn (Nat.not_lt_zero _)
    | succ fu2 ih2 =>
      intro n hn hn
      refine wf_iload_n 0 dX9_passes_2 rfl ?_
      refine wf_aload_n 2 dX9_passes_3 rfl ?_
      refine wf_alen (t0 := 0) (nI 3) 9 rfl rfl rfl dX9_passes_4 ?_
      refine wf_icmp_ge_n 58 dX9_passes_5 (by decide) (by omega) (by omega) (fun c5 => ?_) (fun c5 => ?_)
      · exact wf_vret rfl ⟨rfl, rfl⟩ ⟨rfl, (by rw [show n = 3 by omega])⟩ dX9_passes_58
      · refine wf_aload_n 1 dX9_passes_8 rfl ?_
        refine wf_getf (C := RX9) (T := TX9) (N := 27) (v := .int (nI ((jr j c (46 + n)) 0 4))) 0 23 in_X9 rfl rfl (by decide) fl_X9_125 rfl dX9_passes_9 ?_
        refine wf_if_eq_n 30 dX9_passes_12 (by decide) (by rw [jr_04]; decide) (fun c12 => ?_) (fun c12 => ?_)
        · refine wf_aload_n 2 dX9_passes_30 rfl ?_
          refine wf_iload_n 0 dX9_passes_31 rfl ?_
          refine wf_aload_n 1 dX9_passes_32 rfl ?_
          refine wf_getf (C := RX9) (T := TX9) (N := 27) (v := .ref (am 15)) 0 21 in_X9 rfl rfl (by decide) fl_X9_52 rfl dX9_passes_33 ?_
          refine wf_aload_n 1 dX9_passes_36 rfl ?_
          refine wf_getf (C := RX9) (T := TX9) (N := 27) (v := .int (nI ((jr j c (46 + n)) 0 5))) 0 24 in_X9 rfl rfl (by decide) fl_X9_129 rfl dX9_passes_37 ?_
          refine wf_top (y := .int (nI (c + (46 + n)))) rfl ?_
          refine wf_iald_n (nI ((jr j c (46 + n)) 5 (c + (46 + n)))) 15 rfl (by omega) (by decide) rfl dX9_passes_40 ?_
          refine wf_top (y := .int (nI (g0 7 n))) (by rw [jr_5, hk _ (by omega), enc_7 (by omega)]) ?_
          refine wf_iast_n (wm E am (gs (rq g0 g (46 + n)) 7 n (g0 7 n)) y (jr j c (46 + n)) td ++ r) 9 rfl (by omega) (by decide) (sf 9 (Nat.le_of_ble_eq_true rfl) (wm_set7 n (g0 7 n))) dX9_passes_41 ?_
          refine wf_aload_n 1 dX9_passes_42 rfl ?_
          refine wf_dup dX9_passes_43 rfl ?_
          refine wf_getf (C := RX9) (T := TX9) (N := 27) (v := .int (nI ((jr j c (46 + n)) 0 5))) 0 24 in_X9 rfl rfl (by decide) fl_X9_129 rfl dX9_passes_44 ?_
          refine wf_top (y := .int (nI (c + (46 + n)))) rfl ?_
          refine wf_iconst (nI 1) dX9_passes_47 (by decide) ?_
          refine wf_iadd (nI ((c + (46 + n)) + 1)) dX9_passes_48 (nI_add (c + (46 + n)) 1) ?_
          refine wf_putf (C := RX9) (T := TX9) (N := 27) (ty := .int) 0 24 (wm E am (gs (rq g0 g (46 + n)) 7 n (g0 7 n)) y (gs (jr j c (46 + n)) 0 5 ((c + (46 + n)) + 1)) td ++ r) tyX9 in_X9 tyX9_ok nmX9 rfl rfl (by decide) fl_X9_129 rfl (by decide +kernel) (by rfl) rfl (Nat.le_of_ble_eq_true rfl) (sf 0 (Nat.le_of_ble_eq_true rfl) (wm_put24 ((c + (46 + n)) + 1))) dX9_passes_49 ?_
          refine wf_iinc (nI (n + 1)) 0 [(2, .int (nI (n + 1))), (0, .ref (am 0)), (1, .ref (am 9))] dX9_passes_52 rfl (nI_1 n) (by decide) rfl ?_
          refine wf_goto 2 dX9_passes_55 (by decide) ?_
          refine wf_sub (lv' := [(2, .int (nI (n + 1))), (0, .ref (am 0)), (1, .ref (am 9))]) [0, 1, 2] rfl ?_
          refine wf_world (wm E am (rq g0 g (46 + (n + 1))) y (jr j c (46 + (n + 1))) td ++ r) (by rw [jr_s, rq_s (pos_7 (by omega)) (by omega) rfl]; rfl) ?_
          exact ih2 (n + 1) (by omega) (by omega)
        · exact absurd (jr_04 _ _ _) c12
  refine wf_sub (lv' := [(2, .int (nI 0)), (0, .ref (am 0)), (1, .ref (am 9))]) [0, 1, 2] rfl ?_
  refine wf_world (wm E am (rq g0 g (46 + 0)) y (jr j c (46 + 0)) td ++ r) rfl ?_
  exact L2 _ 0 (Nat.lt_succ_self _) (Nat.zero_le _)
set_option maxHeartbeats 4000000 in
set_option maxRecDepth 100000 in
theorem c_X9_passes_r8 {l : Launch} {E : Ev} {c : Nat} {g0 : Gd} {g y j : Gd} {td : Nat → Int32} {am : Nat → Nat} {r : va_W} (hk : ∀ k, k < 61 → j 5 (c + k) = enc g0 k) (hc : c + 61 ≤ 240) : CT l E yX9_passes cX9_passes 3 none rmX9_passes [.ref (am 0), .ref (am 10)] (wm E am (rq g0 g 49) y (jr j c 49) td ++ r) (IS (none) (wm E am (rq g0 g 57) y (jr j c 57) td ++ r)) := by
  refine CT.of (lv := [(0, .ref (am 0)), (1, .ref (am 10))]) false (by decide +kernel) (by decide) (Nat.le_of_ble_eq_true rfl) rfl ?_
  refine wf_iconst (nI 0) dX9_passes_0 (by decide) ?_
  refine wf_istore_n [(2, .int (nI 0)), (0, .ref (am 0)), (1, .ref (am 10))] dX9_passes_1 rfl (by decide) rfl ?_
  have L2 : ∀ (fu2 : Nat) (n : Nat), 8 - n < fu2 → (n ≤ 8) → WF l E RX9 cX9_passes 3 none rmX9_passes false (fun _ => True) (QM E (wm E am (rq g0 g 49) y (jr j c 49) td ++ r) (IS (none) (wm E am (rq g0 g 57) y (jr j c 57) td ++ r)) rmX9_passes) (wm E am (rq g0 g 49) y (jr j c 49) td ++ r) 0 0 2 [(2, .int (nI n)), (0, .ref (am 0)), (1, .ref (am 10))] [] (wm E am (rq g0 g (49 + n)) y (jr j c (49 + n)) td ++ r) := by
    intro fu2
    induction fu2 with
    | zero => intro n hn; exact absurd hn (Nat.not_lt_zero _)
    | succ fu2 ih2 =>
      intro n hn hn
      refine wf_iload_n 0 dX9_passes_2 rfl ?_
      refine wf_aload_n 2 dX9_passes_3 rfl ?_
      refine wf_alen (t0 := 0) (nI 8) 10 rfl rfl rfl dX9_passes_4 ?_
      refine wf_icmp_ge_n 58 dX9_passes_5 (by decide) (by omega) (by omega) (fun c5 => ?_) (fun c5 => ?_)
      · exact wf_vret rfl ⟨rfl, rfl⟩ ⟨rfl, (by rw [show n = 8 by omega])⟩ dX9_passes_58
      · refine wf_aload_n 1 dX9_passes_8 rfl ?_
        refine wf_getf (C := RX9) (T := TX9) (N := 27) (v := .int (nI ((jr j c (49 + n)) 0 4))) 0 23 in_X9 rfl rfl (by decide) fl_X9_125 rfl dX9_passes_9 ?_
        refine wf_if_eq_n 30 dX9_passes_12 (by decide) (by rw [jr_04]; decide) (fun c12 => ?_) (fun c12 => ?_)
        · refine wf_aload_n 2 dX9_passes_30 rfl ?_
          refine wf_iload_n 0 dX9_passes_31 rfl ?_
          refine wf_aload_n 1 dX9_passes_32 rfl ?_
          refine wf_getf (C := RX9) (T := TX9) (N := 27) (v := .ref (am 15)) 0 21 in_X9 rfl rfl (by decide) fl_X9_52 rfl dX9_passes_33 ?_
          refine wf_aload_n 1 dX9_passes_36 rfl ?_
          refine wf_getf (C := RX9) (T := TX9) (N := 27) (v := .int (nI ((jr j c (49 + n)) 0 5))) 0 24 in_X9 rfl rfl (by decide) fl_X9_129 rfl dX9_passes_37 ?_
          refine wf_top (y := .int (nI (c + (49 + n)))) rfl ?_
          refine wf_iald_n (nI ((jr j c (49 + n)) 5 (c + (49 + n)))) 15 rfl (by omega) (by decide) rfl dX9_passes_40 ?_
          refine wf_top (y := .int (nI (g0 8 n))) (by rw [jr_5, hk _ (by omega), enc_8 (by omega)]) ?_
          refine wf_iast_n (wm E am (gs (rq g0 g (49 + n)) 8 n (g0 8 n)) y (jr j c (49 + n)) td ++ r) 10 rfl (by omega) (by decide) (sf 10 (Nat.le_of_ble_eq_true rfl) (wm_set8 n (g0 8 n))) dX9_passes_41 ?_
          refine wf_aload_n 1 dX9_passes_42 rfl ?_
          refine wf_dup dX9_passes_43 rfl ?_
          refine wf_getf (C := RX9) (T := TX9) (N := 27) (v := .int (nI ((jr j c (49 + n)) 0 5))) 0 24 in_X9 rfl rfl (by decide) fl_X9_129 rfl dX9_passes_44 ?_
          refine wf_top (y := .int (nI (c + (49 + n)))) rfl ?_
          refine wf_iconst (nI 1) dX9_passes_47 (by decide) ?_
          refine wf_iadd (nI ((c + (49 + n)) + 1)) dX9_passes_48 (nI_add (c + (49 + n)) 1) ?_
          refine wf_putf (C := RX9) (T := TX9) (N := 27) (ty := .int) 0 24 (wm E am (gs (rq g0 g (49 + n)) 8 n (g0 8 n)) y (gs (jr j c (49 + n)) 0 5 ((c + (49 + n)) + 1)) td ++ r) tyX9 in_X9 tyX9_ok nmX9 rfl rfl (by decide) fl_X9_129 rfl (by decide +kernel) (by rfl) rfl (Nat.le_of_ble_eq_true rfl) (sf 0 (Nat.le_of_ble_eq_true rfl) (wm_put24 ((c + (49 + n)) + 1))) dX9_passes_49 ?_
          refine wf_iinc (nI (n + 1)) 0 [(2, .int (nI (n + 1))), (0, .ref (am 0)), (1, .ref (am 10))] dX9_passes_52 rfl (nI_1 n) (by decide) rfl ?_
          refine wf_goto 2 dX9_passes_55 (by decide) ?_
          refine wf_sub (lv' := [(2, .int (nI (n + 1))), (0, .ref (am 0)), (1, .ref (am 10))]) [0, 1, 2] rfl ?_
          refine wf_world (wm E am (rq g0 g (49 + (n + 1))) y (jr j c (49 + (n + 1))) td ++ r) (by rw [jr_s, rq_s (pos_8 (by omega)) (by omega) rfl]; rfl) ?_
          exact ih2 (n + 1) (by omega) (by omega)
        · exact absurd (jr_04 _ _ _) c12
  refine wf_sub (lv' := [(2, .int (nI 0)), (0, .ref (am 0)), (1, .ref (am 10))]) [0, 1, 2] rfl ?_
  refine wf_world (wm E am (rq g0 g (49 + 0)) y (jr j c (49 + 0)) td ++ r) rfl ?_
  exact L2 _ 0 (Nat.lt_succ_self _) (Nat.zero_le _)
abbrev rmX9_passOne : Room := { frames := 0, cells := 0, slots := 0, locals := 0 }
set_option maxHeartbeats 4000000 in
set_option maxRecDepth 100000 in
theorem c_X9_passOne_k {l : Launch} {E : Ev} {c m v : Nat} {g y j : Gd} {td : Nat → Int32} {am : Nat → Nat} {r : va_W} (hv : v = enc g m) (hm : m < 61) (hc : c + 61 ≤ 240) : CT l E yX9_passOne cX9_passOne 3 (some .int) rmX9_passOne [.ref (am 0), .int (nI v)] (wm E am g y (kq j c g m) td ++ r) (IS (some (.int (nI v))) (wm E am g y (kq j c g (m + 1)) td ++ r)) := by
  refine CT.of (lv := [(0, .ref (am 0)), (1, .int (nI v))]) false (by decide +kernel) (by decide) (Nat.le_of_ble_eq_true rfl) rfl ?_
  refine wf_aload_n 0 dX9_passOne_0 rfl ?_
  refine wf_getf (C := RX9) (T := TX9) (N := 27) (v := .int (nI ((kq j c g m) 0 4))) 0 23 in_X9 rfl rfl (by decide) fl_X9_125 rfl dX9_passOne_1 ?_
  refine wf_if_eq_n 11 dX9_passOne_4 (by decide) (by rw [kq_04]; decide) (fun c4 => ?_) (fun c4 => ?_)
  · exact absurd c4 (by rw [kq_04]; decide)
  · refine wf_iload_n 1 dX9_passOne_7 rfl ?_
    refine wf_goto 20 dX9_passOne_8 (by decide) ?_
    refine wf_istore_n [(2, .int (nI v)), (0, .ref (am 0)), (1, .int (nI v))] dX9_passOne_20 rfl (by decide) rfl ?_
    refine wf_aload_n 1 dX9_passOne_21 rfl ?_
    refine wf_getf (C := RX9) (T := TX9) (N := 27) (v := .int (nI ((kq j c g m) 0 4))) 0 23 in_X9 rfl rfl (by decide) fl_X9_125 rfl dX9_passOne_22 ?_
    refine wf_if_eq_n 38 dX9_passOne_25 (by decide) (by rw [kq_04]; decide) (fun c25 => ?_) (fun c25 => ?_)
    · exact absurd c25 (by rw [kq_04]; decide)
    · refine wf_aload_n 1 dX9_passOne_28 rfl ?_
      refine wf_getf (C := RX9) (T := TX9) (N := 27) (v := .ref (am 15)) 0 21 in_X9 rfl rfl (by decide) fl_X9_52 rfl dX9_passOne_29 ?_
      refine wf_aload_n 1 dX9_passOne_32 rfl ?_
      refine wf_getf (C := RX9) (T := TX9) (N := 27) (v := .int (nI ((kq j c g m) 0 5))) 0 24 in_X9 rfl rfl (by decide) fl_X9_129 rfl dX9_passOne_33 ?_
      refine wf_top (y := .int (nI (c + m))) rfl ?_
      refine wf_iload_n 2 dX9_passOne_36 rfl ?_
      refine wf_iast_n (wm E am g y (gs (kq j c g m) 5 (c + m) v) td ++ r) 15 rfl (by omega) (by decide) (sf 15 (Nat.le_of_ble_eq_true rfl) (wm_setj5 (c + m) v)) dX9_passOne_37 ?_
      refine wf_aload_n 1 dX9_passOne_38 rfl ?_
      refine wf_dup dX9_passOne_39 rfl ?_
      refine wf_getf (C := RX9) (T := TX9) (N := 27) (v := .int (nI ((kq j c g m) 0 5))) 0 24 in_X9 rfl rfl (by decide) fl_X9_129 rfl dX9_passOne_40 ?_
      refine wf_top (y := .int (nI (c + m))) rfl ?_
      refine wf_iconst (nI 1) dX9_passOne_43 (by decide) ?_
      refine wf_iadd (nI ((c + m) + 1)) dX9_passOne_44 (nI_add (c + m) 1) ?_
      refine wf_putf (C := RX9) (T := TX9) (N := 27) (ty := .int) 0 24 (wm E am g y (gs (gs (kq j c g m) 5 (c + m) v) 0 5 ((c + m) + 1)) td ++ r) tyX9 in_X9 tyX9_ok nmX9 rfl rfl (by decide) fl_X9_129 rfl (by decide +kernel) (by rfl) rfl (Nat.le_of_ble_eq_true rfl) (sf 0 (Nat.le_of_ble_eq_true rfl) (wm_put24 ((c + m) + 1))) dX9_passOne_45 ?_
      refine wf_iload_n 0 dX9_passOne_48 rfl ?_
      exact wf_iret .int rfl (vp_nar_int _) ⟨rfl, rfl⟩ ⟨congrArg (fun z => some (Value.int z)) (rfl), (by rw [kq_s hv])⟩ dX9_passOne_49
set_option maxHeartbeats 4000000 in
set_option maxRecDepth 100000 in
theorem c_X9_passOne_r {l : Launch} {E : Ev} {c m v : Nat} {g0 : Gd} {g y j : Gd} {td : Nat → Int32} {am : Nat → Nat} {r : va_W} (hk : j 5 (c + m) = enc g0 m) (hm : m < 61) (hc : c + 61 ≤ 240) : CT l E yX9_passOne cX9_passOne 3 (some .int) rmX9_passOne [.ref (am 0), .int (nI v)] (wm E am g y (jr j c m) td ++ r) (IS (some (.int (nI (enc g0 m)))) (wm E am g y (jr j c (m + 1)) td ++ r)) := by
  refine CT.of (lv := [(0, .ref (am 0)), (1, .int (nI v))]) false (by decide +kernel) (by decide) (Nat.le_of_ble_eq_true rfl) rfl ?_
  refine wf_aload_n 0 dX9_passOne_0 rfl ?_
  refine wf_getf (C := RX9) (T := TX9) (N := 27) (v := .int (nI ((jr j c m) 0 4))) 0 23 in_X9 rfl rfl (by decide) fl_X9_125 rfl dX9_passOne_1 ?_
  refine wf_if_eq_n 11 dX9_passOne_4 (by decide) (by rw [jr_04]; decide) (fun c4 => ?_) (fun c4 => ?_)
  · refine wf_aload_n 0 dX9_passOne_11 rfl ?_
    refine wf_getf (C := RX9) (T := TX9) (N := 27) (v := .ref (am 15)) 0 21 in_X9 rfl rfl (by decide) fl_X9_52 rfl dX9_passOne_12 ?_
    refine wf_aload_n 0 dX9_passOne_15 rfl ?_
    refine wf_getf (C := RX9) (T := TX9) (N := 27) (v := .int (nI ((jr j c m) 0 5))) 0 24 in_X9 rfl rfl (by decide) fl_X9_129 rfl dX9_passOne_16 ?_
    refine wf_top (y := .int (nI (c + m))) rfl ?_
    refine wf_iald_n (nI ((jr j c m) 5 (c + m))) 15 rfl (by omega) (by decide) rfl dX9_passOne_19 ?_
    refine wf_top (y := .int (nI (enc g0 m))) (by rw [jr_5, hk]) ?_
    refine wf_istore_n [(2, .int (nI (enc g0 m))), (0, .ref (am 0)), (1, .int (nI v))] dX9_passOne_20 rfl (by decide) rfl ?_
    refine wf_aload_n 1 dX9_passOne_21 rfl ?_
    refine wf_getf (C := RX9) (T := TX9) (N := 27) (v := .int (nI ((jr j c m) 0 4))) 0 23 in_X9 rfl rfl (by decide) fl_X9_125 rfl dX9_passOne_22 ?_
    refine wf_if_eq_n 38 dX9_passOne_25 (by decide) (by rw [jr_04]; decide) (fun c25 => ?_) (fun c25 => ?_)
    · refine wf_aload_n 1 dX9_passOne_38 rfl ?_
      refine wf_dup dX9_passOne_39 rfl ?_
      refine wf_getf (C := RX9) (T := TX9) (N := 27) (v := .int (nI ((jr j c m) 0 5))) 0 24 in_X9 rfl rfl (by decide) fl_X9_129 rfl dX9_passOne_40 ?_
      refine wf_top (y := .int (nI (c + m))) rfl ?_
      refine wf_iconst (nI 1) dX9_passOne_43 (by decide) ?_
      refine wf_iadd (nI ((c + m) + 1)) dX9_passOne_44 (nI_add (c + m) 1) ?_
      refine wf_putf (C := RX9) (T := TX9) (N := 27) (ty := .int) 0 24 (wm E am g y (gs (jr j c m) 0 5 ((c + m) + 1)) td ++ r) tyX9 in_X9 tyX9_ok nmX9 rfl rfl (by decide) fl_X9_129 rfl (by decide +kernel) (by rfl) rfl (Nat.le_of_ble_eq_true rfl) (sf 0 (Nat.le_of_ble_eq_true rfl) (wm_put24 ((c + m) + 1))) dX9_passOne_45 ?_
      refine wf_iload_n 0 dX9_passOne_48 rfl ?_
      exact wf_iret .int rfl (vp_nar_int _) ⟨rfl, rfl⟩ ⟨congrArg (fun z => some (Value.int z)) (rfl), (by rw [jr_s])⟩ dX9_passOne_49
    · exact absurd (jr_04 _ _ _) c25
  · exact absurd (jr_04 _ _ _) c4
