theorem mO_n {o : Option Nat} (h : ¬ (0 : Int32) ≤ eO o) (hk : ∀ k, o = some k → k < 1000) : o = none := by
  cases o with
  | none => rfl
  | some k => exact absurd (nI_pos' (by have := hk k rfl; omega)) h
theorem mO_s {o : Option Nat} (h : (0 : Int32) ≤ eO o) : ¬ o = none := by
  intro e; subst e; exact absurd h (by decide)
abbrev rmX9_becomes : Room := { frames := 5, cells := 0, slots := 0, locals := 111 }
set_option maxHeartbeats 4000000 in
set_option maxRecDepth 100000 in
theorem c_X9_becomes {l : Launch} {E : Ev}  {gi : Gd} {g y j : Gd} {td : Nat → Int32} {am : Nat → Nat} {r : va_W} (hI : Inv g) (hJ : IH j gi) (hy : YI y)  : CT l E yX9_becomes cX9_becomes 4 (some .int) rmX9_becomes [.ref (am 0)] (wm E am g y j td ++ r) (PM E am r (sp_becomes g y) gi) := by
  refine CT.of (lv := [(0, .ref (am 0))]) false (by decide +kernel) (by decide) (Nat.le_of_ble_eq_true rfl) rfl ?_
  have f0 := hI.words
  have f1 := hI.birds
  have f2 := hI.gone
  have f3 := hI.hour
  obtain ⟨y00, y01, y02, y1, y2⟩ := id hy
  refine wf_aload_n 0 dX9_becomes_0 rfl ?_
  refine wf_iconst (nI 2) dX9_becomes_1 (by decide) ?_
  refine wf_iconst (nI 1) dX9_becomes_2 (by decide) ?_
  refine wf_callVv (As := [.int (nI 2), .int (nI 1)]) (rest := []) 0 (c_X9_passesAll_k (wh := 2) hI (by decide)) kV_X9_118 rfl (by decide) (by decide) (Nat.le_of_ble_eq_true rfl) rfl rfl rfl dX9_becomes_3 ?_
  refine wf_bipush (-9) dX9_becomes_6 (by decide) ?_
  refine wf_istore_n [(1, .int (-9)), (0, .ref (am 0))] dX9_becomes_8 rfl (by decide) rfl ?_
  refine wf_iconst (nI 0) dX9_becomes_9 (by decide) ?_
  refine wf_istore_n [(2, .int (nI 0)), (1, .int (-9)), (0, .ref (am 0))] dX9_becomes_10 rfl (by decide) rfl ?_
  refine wf_iconst (nI 1) dX9_becomes_11 (by decide) ?_
  refine wf_istore_n [(3, .int (nI 1)), (2, .int (nI 0)), (1, .int (-9)), (0, .ref (am 0))] dX9_becomes_12 rfl (by decide) rfl ?_
  have L13 : ∀ (fu13 : Nat) (n : Nat) (m : Nat) (f : Int32) (G : Gd), 10 - n < fu13 → (n ≤ 9) → (m ≤ 1) → (Inv G) → ((m = 1 ∧ f = -9 ∧ G = eHrs g n ∧ g 9 3 + n ≤ 8 ∧ eBec g y (9 - g 9 3 - n) n = eBec g y (9 - g 9 3) 0) ∨ (f = eBec g y (9 - g 9 3) 0 ∧ (m = 0 ∨ 0 ≤ f))) → WF l E RX9 cX9_becomes 4 (some .int) rmX9_becomes false (fun _ => True) (QM E (wm E am g y j td ++ r) (PM E am r (sp_becomes g y) gi) rmX9_becomes) (wm E am g y j td ++ r) 0 0 13 [(3, .int (nI m)), (2, .int (nI n)), (1, .int f), (0, .ref (am 0))] [] (wm E am G y (kq j (80 * 2) g 61) td ++ r) := by
    intro fu13
    induction fu13 with
    | zero => intro n m f G hn; exact absurd hn (Nat.not_lt_zero _)
    | succ fu13 ih13 =>
      intro n m f G hn hn9 hm0 hG hst
      refine wf_iload_n 0 dX9_becomes_13 rfl ?_
      refine wf_if_eq_n 60 dX9_becomes_14 (by decide) (by omega) (fun c14 => ?_) (fun c14 => ?_)
      · refine wf_aload_n 3 dX9_becomes_60 rfl ?_
        refine wf_iconst (nI 2) dX9_becomes_61 (by decide) ?_
        refine wf_iconst (nI 0) dX9_becomes_62 (by decide) ?_
        refine wf_callVv (As := [.int (nI 2), .int (nI 0)]) (rest := []) 0 (c_X9_passesAll_r (wh := 2) (g0 := g) (fun k hk => kq_has k hk) (by decide)) kV_X9_118 rfl (by decide) (by decide) (Nat.le_of_ble_eq_true rfl) rfl rfl rfl dX9_becomes_63 ?_
        refine wf_iload_n 2 dX9_becomes_66 rfl ?_
        exact wf_iret .int rfl (vp_nar_int _) ⟨rfl, rfl⟩ (pm_of (by unfold sp_becomes; rw [show f = eBec g y (9 - g 9 3) 0 from by rcases hst with ⟨h1, h2, _⟩ | ⟨h, _⟩; (· exfalso; omega); (· exact h)]; rfl) ⟨_, _, (IH.r (wh := 2) (IH.k (wh := 2) hJ (by decide))), rfl⟩) dX9_becomes_67
      · refine wf_iload_n 2 dX9_becomes_17 rfl ?_
        refine wf_if_ge 60 dX9_becomes_18 (by decide) (fun c18 => ?_) (fun c18 => ?_)
        · refine wf_aload_n 3 dX9_becomes_60 rfl ?_
          refine wf_iconst (nI 2) dX9_becomes_61 (by decide) ?_
          refine wf_iconst (nI 0) dX9_becomes_62 (by decide) ?_
          refine wf_callVv (As := [.int (nI 2), .int (nI 0)]) (rest := []) 0 (c_X9_passesAll_r (wh := 2) (g0 := g) (fun k hk => kq_has k hk) (by decide)) kV_X9_118 rfl (by decide) (by decide) (Nat.le_of_ble_eq_true rfl) rfl rfl rfl dX9_becomes_63 ?_
          refine wf_iload_n 2 dX9_becomes_66 rfl ?_
          exact wf_iret .int rfl (vp_nar_int _) ⟨rfl, rfl⟩ (pm_of (by unfold sp_becomes; rw [show f = eBec g y (9 - g 9 3) 0 from by rcases hst with ⟨h1, h2, _⟩ | ⟨h, _⟩; (· exfalso; rw [h2] at c18; exact absurd c18 (by decide)); (· exact h)]; rfl) ⟨_, _, (IH.r (wh := 2) (IH.k (wh := 2) hJ (by decide))), rfl⟩) dX9_becomes_67
        · have hs : m = 1 ∧ f = -9 ∧ G = eHrs g n ∧ g 9 3 + n ≤ 8 ∧ eBec g y (9 - g 9 3 - n) n = eBec g y (9 - g 9 3) 0 := by rcases hst with h | ⟨_, h | h⟩; (· exact h); (· exact absurd h c14); (· exact absurd h c18)
          obtain ⟨hm1, rfl, rfl, hn8, hb⟩ := hs
          have e90 : eHrs g n 9 0 = g 9 0 := eHrs_f (by decide) (by decide)
          have e93 := eHrs_hour (g := g) n hn8
          refine wf_aload_n 3 dX9_becomes_21 rfl ?_
          refine wf_callVD (As := []) (rest := []) 0 (c_X9_otherAt hG y2 y02) kV_X9_203 rfl (by decide) (by decide) (Nat.le_of_ble_eq_true rfl) rfl rfl rfl dX9_becomes_22 ?_
          refine wf_if_ge 30 dX9_becomes_25 (by decide) (fun c25 => ?_) (fun c25 => ?_)
          · refine wf_aload_n 3 dX9_becomes_30 rfl ?_
            refine wf_getf (C := RX9) (T := TX9) (N := 27) (v := .int (nI ((eHrs g n) 9 3))) 0 12 in_X9 rfl rfl (by decide) fl_X9_139 rfl dX9_becomes_31 ?_
            refine wf_bipush (nI 8) dX9_becomes_34 (by decide) ?_
            refine wf_icmp_ge_n 43 dX9_becomes_36 (by decide) (by omega) (by omega) (fun c36 => ?_) (fun c36 => ?_)
            · refine wf_iconst (nI 0) dX9_becomes_43 (by decide) ?_
              refine wf_istore_n [(3, .int (nI 0)), (2, .int (nI n)), (1, .int (-9)), (0, .ref (am 0))] dX9_becomes_44 rfl (by decide) rfl ?_
              refine wf_iload_n 0 dX9_becomes_45 rfl ?_
              refine wf_if_eq_n 54 dX9_becomes_46 (by decide) (by decide) (fun c46 => ?_) (fun c46 => ?_)
              · refine wf_iinc (nI (n + 1)) 1 [(2, .int (nI (n + 1))), (3, .int (nI 0)), (1, .int (-9)), (0, .ref (am 0))] dX9_becomes_54 rfl (nI_1 n) (by decide) rfl ?_
                refine wf_goto 13 dX9_becomes_57 (by decide) ?_
                refine wf_sub (lv' := [(3, .int (nI 0)), (2, .int (nI (n + 1))), (1, .int (-9)), (0, .ref (am 0))]) [1, 0, 2, 3] rfl ?_
                exact ih13 (n + 1) 0 _ _ (by omega) (by omega) (by omega) hG (Or.inr ⟨by rw [← hb, show (9 - g 9 3 - n) = (8 - g 9 3 - n) + 1 by omega]; symm; show (if _ then _ else _) = _; rw [if_neg (mO_s (by rw [e90] at c25; exact c25)), show 8 - g 9 3 - n = 0 by omega]; rfl, Or.inl rfl⟩)
              · exact absurd rfl c46
            · refine wf_iconst (nI 1) dX9_becomes_39 (by decide) ?_
              refine wf_goto 44 dX9_becomes_40 (by decide) ?_
              refine wf_istore_n [(3, .int (nI 1)), (2, .int (nI n)), (1, .int (-9)), (0, .ref (am 0))] dX9_becomes_44 rfl (by decide) rfl ?_
              refine wf_iload_n 0 dX9_becomes_45 rfl ?_
              refine wf_if_eq_n 54 dX9_becomes_46 (by decide) (by decide) (fun c46 => ?_) (fun c46 => ?_)
              · exact absurd c46 (by decide)
              · refine wf_aload_n 3 dX9_becomes_49 rfl ?_
                refine wf_callVD (As := []) (rest := []) 0 (c_X9_goesHour hG (by omega)) kV_X9_166 rfl (by decide) (by decide) (Nat.le_of_ble_eq_true rfl) rfl rfl rfl dX9_becomes_50 ?_
                refine wf_pop dX9_becomes_53 rfl ?_
                refine wf_iinc (nI (n + 1)) 1 [(2, .int (nI (n + 1))), (3, .int (nI 1)), (1, .int (-9)), (0, .ref (am 0))] dX9_becomes_54 rfl (nI_1 n) (by decide) rfl ?_
                refine wf_goto 13 dX9_becomes_57 (by decide) ?_
                refine wf_sub (lv' := [(3, .int (nI 1)), (2, .int (nI (n + 1))), (1, .int (-9)), (0, .ref (am 0))]) [1, 0, 2, 3] rfl ?_
                exact ih13 (n + 1) 1 _ _ (by omega) (by omega) (by omega) hG.oHr (Or.inl ⟨rfl, rfl, rfl, by omega, by rw [← hb, show (9 - g 9 3 - n) = (8 - g 9 3 - n) + 1 by omega, show 9 - g 9 3 - (n + 1) = 8 - g 9 3 - n by omega]; symm; show (if _ then _ else _) = _; rw [if_neg (mO_s (by rw [e90] at c25; exact c25))]⟩)
          · refine wf_iload_n 1 dX9_becomes_28 rfl ?_
            refine wf_istore_n [(1, .int (nI n)), (3, .int (nI m)), (2, .int (nI n)), (0, .ref (am 0))] dX9_becomes_29 rfl (by decide) rfl ?_
            refine wf_aload_n 3 dX9_becomes_30 rfl ?_
            refine wf_getf (C := RX9) (T := TX9) (N := 27) (v := .int (nI ((eHrs g n) 9 3))) 0 12 in_X9 rfl rfl (by decide) fl_X9_139 rfl dX9_becomes_31 ?_
            refine wf_bipush (nI 8) dX9_becomes_34 (by decide) ?_
            refine wf_icmp_ge_n 43 dX9_becomes_36 (by decide) (by omega) (by omega) (fun c36 => ?_) (fun c36 => ?_)
            · refine wf_iconst (nI 0) dX9_becomes_43 (by decide) ?_
              refine wf_istore_n [(3, .int (nI 0)), (1, .int (nI n)), (2, .int (nI n)), (0, .ref (am 0))] dX9_becomes_44 rfl (by decide) rfl ?_
              refine wf_iload_n 0 dX9_becomes_45 rfl ?_
              refine wf_if_eq_n 54 dX9_becomes_46 (by decide) (by decide) (fun c46 => ?_) (fun c46 => ?_)
              · refine wf_iinc (nI (n + 1)) 2 [(2, .int (nI (n + 1))), (3, .int (nI 0)), (1, .int (nI n)), (0, .ref (am 0))] dX9_becomes_54 rfl (nI_1 n) (by decide) rfl ?_
                refine wf_goto 13 dX9_becomes_57 (by decide) ?_
                refine wf_sub (lv' := [(3, .int (nI 0)), (2, .int (nI (n + 1))), (1, .int (nI n)), (0, .ref (am 0))]) [1, 0, 2, 3] rfl ?_
                exact ih13 (n + 1) 0 _ _ (by omega) (by omega) (by omega) hG (Or.inr ⟨by rw [← hb, show (9 - g 9 3 - n) = (8 - g 9 3 - n) + 1 by omega]; symm; show (if _ then _ else _) = _; rw [if_pos (mO_n (by rw [e90] at c25; exact c25) (eOther_lt _ _ _ (by omega)))], Or.inr (nI_pos' (by omega))⟩)
              · exact absurd rfl c46
            · refine wf_iconst (nI 1) dX9_becomes_39 (by decide) ?_
              refine wf_goto 44 dX9_becomes_40 (by decide) ?_
              refine wf_istore_n [(3, .int (nI 1)), (1, .int (nI n)), (2, .int (nI n)), (0, .ref (am 0))] dX9_becomes_44 rfl (by decide) rfl ?_
              refine wf_iload_n 0 dX9_becomes_45 rfl ?_
              refine wf_if_eq_n 54 dX9_becomes_46 (by decide) (by decide) (fun c46 => ?_) (fun c46 => ?_)
              · exact absurd c46 (by decide)
              · refine wf_aload_n 3 dX9_becomes_49 rfl ?_
                refine wf_callVD (As := []) (rest := []) 0 (c_X9_goesHour hG (by omega)) kV_X9_166 rfl (by decide) (by decide) (Nat.le_of_ble_eq_true rfl) rfl rfl rfl dX9_becomes_50 ?_
                refine wf_pop dX9_becomes_53 rfl ?_
                refine wf_iinc (nI (n + 1)) 2 [(2, .int (nI (n + 1))), (3, .int (nI 1)), (1, .int (nI n)), (0, .ref (am 0))] dX9_becomes_54 rfl (nI_1 n) (by decide) rfl ?_
                refine wf_goto 13 dX9_becomes_57 (by decide) ?_
                refine wf_sub (lv' := [(3, .int (nI 1)), (2, .int (nI (n + 1))), (1, .int (nI n)), (0, .ref (am 0))]) [1, 0, 2, 3] rfl ?_
                exact ih13 (n + 1) 1 _ _ (by omega) (by omega) (by omega) hG.oHr (Or.inr ⟨by rw [← hb, show (9 - g 9 3 - n) = (8 - g 9 3 - n) + 1 by omega]; symm; show (if _ then _ else _) = _; rw [if_pos (mO_n (by rw [e90] at c25; exact c25) (eOther_lt _ _ _ (by omega)))], Or.inr (nI_pos' (by omega))⟩)
  refine wf_sub (lv' := [(3, .int (nI 1)), (2, .int (nI 0)), (1, .int (-9)), (0, .ref (am 0))]) [0, 1, 2, 3] rfl ?_
  exact L13 _ 0 1 (-9) g (Nat.lt_succ_self _) (Nat.zero_le _) (Nat.le_refl _) hI (Or.inl ⟨rfl, rfl, rfl, f3, rfl⟩)
