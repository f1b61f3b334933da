/-- what holds of the rest: so many letters, so many in the row, each in its range -/
def YI (y : Gd) : Prop := y 0 0 ≤ 1 ∧ y 0 1 ≤ 80 ∧ y 0 2 ≤ 10 ∧ (∀ i, y 1 i ≤ 255) ∧ (∀ i, y 2 i ≤ 9)
abbrev rmX8_refuse : Room := { frames := 0, cells := 0, slots := 0, locals := 0 }
set_option maxHeartbeats 4000000 in
set_option maxRecDepth 100000 in
theorem c_X8_refuse {l : Launch} {E : Ev} {k an am ai : Nat} {g y : Gd} {a kk al ax : Nat → Nat} {r : va_W} (hk : 1 ≤ k ∧ k ≤ 6) : CT l E yX8_refuse cX8_refuse 3 (some .int) rmX8_refuse [.ref (ax 0), .int (-nI k)] (wg E (kk 6) a g ++ (wk E kk ++ (wl E al y ++ (wx E ax an am ai (al 0) y ++ r)))) (IS (some (.int (-nI k))) (wg E (kk 6) a g ++ (wk E kk ++ (wl E al (bmp y k) ++ (wx E ax an am ai (al 0) (bmp y k) ++ r))))) := by
  refine CT.of (lv := [(0, .ref (ax 0)), (1, .int (-nI k))]) false (by decide +kernel) (by decide) (Nat.le_of_ble_eq_true rfl) rfl ?_
  refine wf_iconst (-1) dX8_refuse_0 (by decide) ?_
  refine wf_iload_n 1 dX8_refuse_1 rfl ?_
  refine wf_isub (nI (k - 1)) dX8_refuse_2 (neg_k k (by omega) hk.1) ?_
  refine wf_istore_n [(2, .int (nI (k - 1))), (0, .ref (ax 0)), (1, .int (-nI k))] dX8_refuse_3 rfl (by decide) rfl ?_
  refine wf_iload_n 0 dX8_refuse_4 rfl ?_
  refine wf_if_lt 24 dX8_refuse_5 (by decide) (fun c5 => ?_) (fun c5 => ?_)
  · exact absurd c5 (nI_pos (by omega))
  · refine wf_iload_n 0 dX8_refuse_8 rfl ?_
    refine wf_bipush (nI 6) dX8_refuse_9 (by decide) ?_
    refine wf_icmp_ge_n 24 dX8_refuse_11 (by decide) (by omega) (by omega) (fun c11 => ?_) (fun c11 => ?_)
    · exact absurd c11 (by omega)
    · refine wf_aload_n 1 dX8_refuse_14 rfl ?_
      refine wf_getf (C := RX8) (T := TX8) (N := 8) (v := .ref (ax 2)) 19 7 in_X8 rfl rfl (by decide) fl_X8_53 rfl dX8_refuse_15 ?_
      refine wf_iload_n 0 dX8_refuse_18 rfl ?_
      refine wf_dup2 dX8_refuse_19 rfl rfl ?_
      refine wf_iald_n (nI (y 3 (k - 1))) 21 rfl (by omega) (by decide) rfl dX8_refuse_20 ?_
      refine wf_iconst (nI 1) dX8_refuse_21 (by decide) ?_
      refine wf_iadd (nI ((y 3 (k - 1)) + 1)) dX8_refuse_22 (nI_add (y 3 (k - 1)) 1) ?_
      refine wf_iast_n (wg E (kk 6) a g ++ (wk E kk ++ (wl E al y ++ (wx E ax an am ai (al 0) (gs y 3 (k - 1) ((y 3 (k - 1)) + 1)) ++ r)))) 21 rfl (by omega) (by decide) (so 10 11 rfl (so 7 4 rfl (so 2 2 rfl (sf 2 (Nat.le_of_ble_eq_true rfl) (wx_set3 (k - 1) ((y 3 (k - 1)) + 1)))))) dX8_refuse_23 ?_
      refine wf_iload_n 2 dX8_refuse_24 rfl ?_
      exact wf_iret .int rfl (vp_nar_int _) ⟨rfl, rfl⟩ ⟨congrArg (fun z => some (Value.int z)) (rfl), rfl⟩ dX8_refuse_25
abbrev rmX8_mindAsNow : Room := { frames := 2, cells := 0, slots := 0, locals := 61 }
set_option maxHeartbeats 4000000 in
set_option maxRecDepth 100000 in
theorem c_X8_mindAsNow {l : Launch} {E : Ev} {g gm gi y : Gd} {a b c kk al ax : Nat → Nat} {r : va_W}  : CT l E yX8_mindAsNow cX8_mindAsNow 1 (some (.object "EatenByDusk$Garden")) rmX8_mindAsNow [.ref (ax 0)] (wg E (kk 6) a g ++ (wk E kk ++ (wl E al y ++ (wx E ax (a 0) (b 0) (c 0) (al 0) y ++ (wg E (kk 6) b gm ++ (wg E (kk 6) c gi ++ r)))))) (IS (some (.ref (b 0))) (wg E (kk 6) a g ++ (wk E kk ++ (wl E al y ++ (wx E ax (a 0) (b 0) (c 0) (al 0) y ++ (wg E (kk 6) b g ++ (wg E (kk 6) c gi ++ r))))))) := by
  refine CT.of (lv := [(0, .ref (ax 0))]) false (by decide +kernel) (by decide) (Nat.le_of_ble_eq_true rfl) rfl ?_
  refine wf_aload_n 0 dX8_mindAsNow_0 rfl ?_
  refine wf_getf (C := RX8) (T := TX8) (N := 8) (v := .ref (b 0)) 19 1 in_X8 rfl rfl (by decide) fl_X8_36 rfl dX8_mindAsNow_1 ?_
  refine wf_aload_n 0 dX8_mindAsNow_4 rfl ?_
  refine wf_getf (C := RX8) (T := TX8) (N := 8) (v := .ref (a 0)) 19 0 in_X8 rfl rfl (by decide) fl_X8_30 rfl dX8_mindAsNow_5 ?_
  refine wf_perm (w' := wg E (kk 6) b gm ++ (wk E kk ++ (wl E al y ++ (wx E ax (a 0) (b 0) (c 0) (al 0) y ++ (wg E (kk 6) a g ++ (wg E (kk 6) c gi ++ r)))))) pm4 ?_
  refine wf_callVv (As := [.ref (a 0)]) (rest := []) 0 (c_X2_becomeAs) kV_X8_228 rfl (by decide) (by decide) (Nat.le_of_ble_eq_true rfl) rfl rfl rfl dX8_mindAsNow_8 ?_
  refine wf_perm (w' := wg E (kk 6) a g ++ (wk E kk ++ (wl E al y ++ (wx E ax (a 0) (b 0) (c 0) (al 0) y ++ (wg E (kk 6) b g ++ (wg E (kk 6) c gi ++ r)))))) pm4 ?_
  refine wf_aload_n 0 dX8_mindAsNow_11 rfl ?_
  refine wf_getf (C := RX8) (T := TX8) (N := 8) (v := .ref (b 0)) 19 1 in_X8 rfl rfl (by decide) fl_X8_36 rfl dX8_mindAsNow_12 ?_
  exact wf_aret "EatenByDusk$Garden" rfl ⟨rfl, rfl⟩ ⟨congrArg (fun z => some (Value.ref z)) (rfl), rfl⟩ dX8_mindAsNow_15
theorem wf_cs {l : Launch} {E : Ev} {own : String} {cc : ByteArray} {nL : Nat} {ret : Option FieldType} {rm : Room} {ini : Bool} {Xt : State → Prop} {QQ : Qe} {w0 : va_W} {ce sl ce2 sl2 pc : Nat} {lv : List (Nat × Value)} {st : List Value} {w : va_W} (h1 : ce = ce2) (h2 : sl = sl2) (k : WF l E own cc nL ret rm ini Xt QQ w0 ce2 sl2 pc lv st w) : WF l E own cc nL ret rm ini Xt QQ w0 ce sl pc lv st w := by subst h1; subst h2; exact k
theorem eGoes_le (g : Gd) (w n : Nat) : ∀ (_ : g 9 3 + n ≤ 8), eGoes g w n ≤ 8 := by
  induction n generalizing g with
  | zero => intro _; exact Nat.le_refl _
  | succ n ih =>
    intro h
    show (if _ then _ else _) ≤ 8
    split
    · omega
    · exact ih _ (by rw [eHr_hour (by omega)]; omega)
