abbrev rmX9_guard : Room := { frames := 7, cells := 0, slots := 0, locals := 157 }
set_option maxHeartbeats 4000000 in
set_option maxRecDepth 100000 in
theorem c_X9_guard {l : Launch} {E : Ev}  {gi : Gd} {g y j : Gd} {td : Nat → Int32} {am : Nat → Nat} {r : va_W} (hI : Inv g) (hJ : IH j gi) (hy : YI y)  : CT l E yX9_guard cX9_guard 5 (some .int) rmX9_guard [.ref (am 0)] (wm E am g y j td ++ r) (PM E am r (sp_guard g y) gi) := by
  refine CT.of (lv := [(0, .ref (am 0))]) false (by decide +kernel) (by decide) (Nat.le_of_ble_eq_true rfl) rfl ?_
  have f0 := hI.words
  have f1 := hI.birds
  have f2 := hI.gone
  have f3 := hI.hour
  have f4 := hI.all
  have f5 := pw10 f0
  have f6 : 1 <<< g 9 0 = 2 ^ g 9 0 := by rw [Nat.shiftLeft_eq, Nat.one_mul]
  have f7 : 1 ≤ 2 ^ g 9 0 := Nat.one_le_two_pow
  obtain ⟨y00, y01, y02, y1, y2⟩ := id hy
  refine wf_bipush (-9) dX9_guard_0 (by decide) ?_
  refine wf_istore_n [(1, .int (-9)), (0, .ref (am 0))] dX9_guard_2 rfl (by decide) rfl ?_
  refine wf_iconst (nI 0) dX9_guard_3 (by decide) ?_
  refine wf_istore_n [(2, .int (nI 0)), (1, .int (-9)), (0, .ref (am 0))] dX9_guard_4 rfl (by decide) rfl ?_
  refine wf_aload_n 2 dX9_guard_5 rfl ?_
  refine wf_getf (C := RX9) (T := TX9) (N := 27) (v := .int (nI (g 9 3))) 0 12 in_X9 rfl rfl (by decide) fl_X9_139 rfl dX9_guard_6 ?_
  refine wf_istore_n [(3, .int (nI (g 9 3))), (2, .int (nI 0)), (1, .int (-9)), (0, .ref (am 0))] dX9_guard_9 rfl (by decide) rfl ?_
  have L10 : ∀ (fu10 : Nat) (n : Nat) (M : Nat) (jj : Gd), 8 - g 9 3 - n < fu10 → (n ≤ 8 - g 9 3) → (M ≤ 10) → (((eGu g n).1 = none ∧ (eGu g n).2 = 0 ∧ M = 0) ∨ ((∃ h, (eGu g n).1 = some h ∧ h < 8) ∧ (eGu g n).2 = M + 1)) → (IH jj gi) → WF l E RX9 cX9_guard 5 (some .int) rmX9_guard false (fun _ => True) (QM E (wm E am g y j td ++ r) (PM E am r (sp_guard g y) gi) rmX9_guard) (wm E am g y j td ++ r) 0 0 10 [(3, .int (nI (g 9 3 + n))), (2, .int (nI M)), (1, .int (eO (eGu g n).1)), (0, .ref (am 0))] [] (wm E am g y jj td ++ r) := by
    intro fu10
    induction fu10 with
    | zero => intro n M jj hn; exact absurd hn (Nat.not_lt_zero _)
    | succ fu10 ih10 =>
      intro n M jj hn hn0 hM0 hm hJJ
      have q2 := eLeftN_le (eDk (gs g 8 (g 9 3 + n) (eAll g)))
      have q3 : eGuV g (g 9 3 + n) ≤ 10 := q2
      refine wf_iload_n 0 dX9_guard_10 rfl ?_
      refine wf_bipush (nI 8) dX9_guard_11 (by decide) ?_
      refine wf_icmp_ge_n 58 dX9_guard_13 (by decide) (by omega) (by omega) (fun c13 => ?_) (fun c13 => ?_)
      · refine wf_iload_n 2 dX9_guard_58 rfl ?_
        exact wf_iret .int rfl (vp_nar_int _) ⟨rfl, rfl⟩ (pm_of (by unfold sp_guard; rw [show n = 8 - g 9 3 by omega]; rfl) ⟨_, _, hJJ, rfl⟩) dX9_guard_59
      · refine wf_aload_n 3 dX9_guard_16 rfl ?_
        refine wf_iconst (nI 1) dX9_guard_17 (by decide) ?_
        refine wf_aload_n 3 dX9_guard_18 rfl ?_
        refine wf_getf (C := RX9) (T := TX9) (N := 27) (v := .int (nI (g 9 0))) 0 10 in_X9 rfl rfl (by decide) fl_X9_59 rfl dX9_guard_19 ?_
        refine wf_ishl (nI (1 <<< (g 9 0))) dX9_guard_22 (nI_shl (by omega) (by omega)) ?_
        refine wf_iconst (nI 1) dX9_guard_23 (by decide) ?_
        refine wf_isub (nI ((1 <<< (g 9 0)) - 1)) dX9_guard_24 (pk_sub (by omega)) ?_
        refine wf_top (y := .int (nI (eAll g))) rfl ?_
        refine wf_iload_n 0 dX9_guard_25 rfl ?_
        refine wf_callVD (As := [.int (nI (eAll g)), .int (nI (g 9 3 + n))]) (rest := []) 0 (c_X9_watchedLeft hI hI.oAllW) kV_X9_193 rfl (by decide) (by decide) (Nat.le_of_ble_eq_true rfl) rfl rfl rfl dX9_guard_26 ?_
        refine wf_top (y := .int (nI (eLeft (eDk (gs g 8 (g 9 3 + n) (eAll g)))))) (by rw [mWs_one hI (by omega)]) ?_
        refine wf_callSD (As := [.int (nI (eLeft (eDk (gs g 8 (g 9 3 + n) (eAll g)))))]) (rest := []) (c_X9_bits ((hI.oWat hI.oAllW).oHrs _).left) kS_X9_187 rfl (by decide) (by decide) (Nat.le_of_ble_eq_true rfl) rfl dX9_guard_29 ?_
        refine wf_top (y := .int (nI (eGuV g (g 9 3 + n)))) rfl ?_
        refine wf_istore [(4, .int (nI (eGuV g (g 9 3 + n)))), (3, .int (nI (g 9 3 + n))), (2, .int (nI M)), (1, .int (eO (eGu g n).1)), (0, .ref (am 0))] dX9_guard_32 (by decide) rfl ?_
        refine wf_iload_n 3 dX9_guard_34 rfl ?_
        refine wf_if_lt 47 dX9_guard_35 (by decide) (fun c35 => ?_) (fun c35 => ?_)
        · refine wf_iload_n 1 dX9_guard_47 rfl ?_
          refine wf_istore_n [(1, .int (nI (g 9 3 + n))), (4, .int (nI (eGuV g (g 9 3 + n)))), (3, .int (nI (g 9 3 + n))), (2, .int (nI M)), (0, .ref (am 0))] dX9_guard_48 rfl (by decide) rfl ?_
          refine wf_iload 1 dX9_guard_49 rfl ?_
          refine wf_istore_n [(2, .int (nI (eGuV g (g 9 3 + n)))), (1, .int (nI (g 9 3 + n))), (4, .int (nI (eGuV g (g 9 3 + n)))), (3, .int (nI (g 9 3 + n))), (0, .ref (am 0))] dX9_guard_51 rfl (by decide) rfl ?_
          refine wf_iinc (nI (g 9 3 + n + 1)) 3 [(3, .int (nI (g 9 3 + n + 1))), (2, .int (nI (eGuV g (g 9 3 + n)))), (1, .int (nI (g 9 3 + n))), (4, .int (nI (eGuV g (g 9 3 + n)))), (0, .ref (am 0))] dX9_guard_52 rfl (nI_1 (g 9 3 + n)) (by decide) rfl ?_
          refine wf_goto 10 dX9_guard_55 (by decide) ?_
          refine wf_sub (lv' := [(3, .int (nI (g 9 3 + n + 1))), (2, .int (nI (eGuV g (g 9 3 + n)))), (1, .int (nI (g 9 3 + n))), (0, .ref (am 0))]) [0, 1, 2, 4] rfl ?_
          have hlt : (eGu g n).2 < eGuV g (g 9 3 + n) + 1 := by rcases hm with ⟨_, h2, _⟩ | ⟨⟨h, h1, h2⟩, _⟩; (· omega); (· rw [h1] at c35; exact absurd c35 (Int32.not_lt.mpr (nI_pos' (by omega))))
          have hq : eGu g (n + 1) = (some (g 9 3 + n), eGuV g (g 9 3 + n) + 1) := by show (if _ then _ else _) = _; rw [if_pos hlt]
          refine wf_lvc [(3, .int (nI (g 9 3 + n + 1))), (2, .int (nI (eGuV g (g 9 3 + n)))), (1, .int (eO (eGu g (n + 1)).1)), (0, .ref (am 0))] (by rw [hq]; rfl) ?_
          exact ih10 (n + 1) (eGuV g (g 9 3 + n)) _ (by omega) (by omega) (by omega) (Or.inr (by rw [hq]; exact ⟨⟨_, rfl, by omega⟩, rfl⟩)) (IH.r (wh := 2) (IH.k (wh := 2) hJJ (by decide)))
        · refine wf_iload 0 dX9_guard_38 rfl ?_
          refine wf_iload_n 2 dX9_guard_40 rfl ?_
          refine wf_icmp_gt_n 47 dX9_guard_41 (by decide) (by omega) (by omega) (fun c41 => ?_) (fun c41 => ?_)
          · refine wf_iload_n 1 dX9_guard_47 rfl ?_
            refine wf_istore_n [(1, .int (nI (g 9 3 + n))), (4, .int (nI (eGuV g (g 9 3 + n)))), (3, .int (nI (g 9 3 + n))), (2, .int (nI M)), (0, .ref (am 0))] dX9_guard_48 rfl (by decide) rfl ?_
            refine wf_iload 1 dX9_guard_49 rfl ?_
            refine wf_istore_n [(2, .int (nI (eGuV g (g 9 3 + n)))), (1, .int (nI (g 9 3 + n))), (4, .int (nI (eGuV g (g 9 3 + n)))), (3, .int (nI (g 9 3 + n))), (0, .ref (am 0))] dX9_guard_51 rfl (by decide) rfl ?_
            refine wf_iinc (nI (g 9 3 + n + 1)) 3 [(3, .int (nI (g 9 3 + n + 1))), (2, .int (nI (eGuV g (g 9 3 + n)))), (1, .int (nI (g 9 3 + n))), (4, .int (nI (eGuV g (g 9 3 + n)))), (0, .ref (am 0))] dX9_guard_52 rfl (nI_1 (g 9 3 + n)) (by decide) rfl ?_
            refine wf_goto 10 dX9_guard_55 (by decide) ?_
            refine wf_sub (lv' := [(3, .int (nI (g 9 3 + n + 1))), (2, .int (nI (eGuV g (g 9 3 + n)))), (1, .int (nI (g 9 3 + n))), (0, .ref (am 0))]) [0, 1, 2, 4] rfl ?_
            have hlt : (eGu g n).2 < eGuV g (g 9 3 + n) + 1 := by rcases hm with ⟨h1, _, _⟩ | ⟨_, h2⟩; (· rw [h1] at c35; exact absurd (show eO none < 0 by decide) c35); (· omega)
            have hq : eGu g (n + 1) = (some (g 9 3 + n), eGuV g (g 9 3 + n) + 1) := by show (if _ then _ else _) = _; rw [if_pos hlt]
            refine wf_lvc [(3, .int (nI (g 9 3 + n + 1))), (2, .int (nI (eGuV g (g 9 3 + n)))), (1, .int (eO (eGu g (n + 1)).1)), (0, .ref (am 0))] (by rw [hq]; rfl) ?_
            exact ih10 (n + 1) (eGuV g (g 9 3 + n)) _ (by omega) (by omega) (by omega) (Or.inr (by rw [hq]; exact ⟨⟨_, rfl, by omega⟩, rfl⟩)) (IH.r (wh := 2) (IH.k (wh := 2) hJJ (by decide)))
          · refine wf_goto 52 dX9_guard_44 (by decide) ?_
            refine wf_iinc (nI (g 9 3 + n + 1)) 1 [(3, .int (nI (g 9 3 + n + 1))), (4, .int (nI (eGuV g (g 9 3 + n)))), (2, .int (nI M)), (1, .int (eO (eGu g n).1)), (0, .ref (am 0))] dX9_guard_52 rfl (nI_1 (g 9 3 + n)) (by decide) rfl ?_
            refine wf_goto 10 dX9_guard_55 (by decide) ?_
            refine wf_sub (lv' := [(3, .int (nI (g 9 3 + n + 1))), (2, .int (nI M)), (1, .int (eO (eGu g n).1)), (0, .ref (am 0))]) [0, 2, 3, 4] rfl ?_
            have hri : (∃ h, (eGu g n).1 = some h ∧ h < 8) ∧ (eGu g n).2 = M + 1 := by rcases hm with ⟨h1, _, _⟩ | h; (· rw [h1] at c35; exact absurd (show eO none < 0 by decide) c35); (· exact h)
            have hq : eGu g (n + 1) = eGu g n := by show (if _ then _ else _) = _; rw [if_neg (by have := hri.2; omega)]
            refine wf_lvc [(3, .int (nI (g 9 3 + n + 1))), (2, .int (nI M)), (1, .int (eO (eGu g (n + 1)).1)), (0, .ref (am 0))] (by rw [hq]) ?_
            exact ih10 (n + 1) M _ (by omega) (by omega) (by omega) (by rw [hq]; exact Or.inr hri) (IH.r (wh := 2) (IH.k (wh := 2) hJJ (by decide)))
  refine wf_sub (lv' := [(3, .int (nI (g 9 3))), (2, .int (nI 0)), (1, .int (-9)), (0, .ref (am 0))]) [0, 1, 2, 3] rfl ?_
  refine wf_lvc [(3, .int (nI (g 9 3 + 0))), (2, .int (nI 0)), (1, .int (eO (eGu g 0).1)), (0, .ref (am 0))] rfl ?_
  exact L10 _ 0 0 j (Nat.lt_succ_self _) (Nat.zero_le _) (Nat.zero_le _) (Or.inl ⟨rfl, rfl, rfl⟩) hJ
