abbrev rmX9_boys : Room := { frames := 7, cells := 0, slots := 0, locals := 157 }
set_option maxHeartbeats 4000000 in
set_option maxRecDepth 100000 in
theorem c_X9_boys {l : Launch} {E : Ev} {x : Int32} {gi : Gd} {g y j : Gd} {td : Nat → Int32} {am : Nat → Nat} {r : va_W} (hI : Inv g) (hJ : IH j gi) (hy : YI y)  : CT l E yX9_boys cX9_boys 4 (some .int) rmX9_boys [.ref (am 0), .int x] (wm E am g y j td ++ r) (PM E am r (sp_boys g y x) gi) := by
  refine CT.of (lv := [(0, .ref (am 0)), (1, .int x)]) false (by decide +kernel) (by decide) (Nat.le_of_ble_eq_true rfl) rfl ?_
  have f0 := hI.words
  have f1 := hI.birds
  have f2 := hI.gone
  have f3 := hI.hour
  have f4 := hI.all
  have f5 := pw10 f0
  have f6 : 1 <<< g 9 0 = 2 ^ g 9 0 := by rw [Nat.shiftLeft_eq, Nat.one_mul]
  have f7 : 1 ≤ 2 ^ g 9 0 := Nat.one_le_two_pow
  have f8 := hI.oAllW
  obtain ⟨y00, y01, y02, y1, y2⟩ := id hy
  refine wf_aload_n 0 dX9_boys_0 rfl ?_
  refine wf_iload_n 1 dX9_boys_1 rfl ?_
  refine wf_callVD (As := [.int x]) (rest := []) 0 (c_X9_areWords hI) kV_X9_190 rfl (by decide) (by decide) (Nat.le_of_ble_eq_true rfl) rfl rfl rfl dX9_boys_2 ?_
  refine wf_if_ne_b 14 dX9_boys_5 (by decide) (fun c5 => ?_) (fun c5 => ?_)
  · obtain ⟨w, hw, rfl⟩ := eHasS_i hI c5
    refine wf_iload_n 1 dX9_boys_14 rfl ?_
    refine wf_aload_n 0 dX9_boys_15 rfl ?_
    refine wf_getf (C := RX9) (T := TX9) (N := 27) (v := .int (nI (g 9 2))) 0 13 in_X9 rfl rfl (by decide) fl_X9_142 rfl dX9_boys_16 ?_
    refine wf_iand (nI (w &&& (g 9 2))) dX9_boys_19 (nI_land (by omega) (by omega)) ?_
    refine wf_if_eq_n 30 dX9_boys_20 (by decide) (Nat.lt_of_le_of_lt Nat.and_le_left (by omega)) (fun c20 => ?_) (fun c20 => ?_)
    · have c20b := c20
      refine wf_iload_n 1 dX9_boys_30 rfl ?_
      refine wf_istore_n [(2, .int (nI w)), (0, .ref (am 0)), (1, .int (nI w))] dX9_boys_31 rfl (by decide) rfl ?_
      refine wf_iconst (nI 1) dX9_boys_32 (by decide) ?_
      refine wf_aload_n 1 dX9_boys_33 rfl ?_
      refine wf_getf (C := RX9) (T := TX9) (N := 27) (v := .int (nI (g 9 0))) 0 10 in_X9 rfl rfl (by decide) fl_X9_59 rfl dX9_boys_34 ?_
      refine wf_ishl (nI (1 <<< (g 9 0))) dX9_boys_37 (nI_shl (by omega) (by omega)) ?_
      refine wf_iconst (nI 1) dX9_boys_38 (by decide) ?_
      refine wf_isub (nI ((1 <<< (g 9 0)) - 1)) dX9_boys_39 (pk_sub (by omega)) ?_
      refine wf_top (y := .int (nI (eAll g))) rfl ?_
      refine wf_istore_n [(3, .int (nI (eAll g))), (2, .int (nI w)), (0, .ref (am 0)), (1, .int (nI w))] dX9_boys_40 rfl (by decide) rfl ?_
      have L41 : ∀ (fu41 : Nat) (n : Nat) (jj : Gd), eAll g + 1 - n < fu41 → (n ≤ eAll g + 1) → (IH jj gi) → WF l E RX9 cX9_boys 4 (some .int) rmX9_boys false (fun _ => True) (QM E (wm E am g y j td ++ r) (PM E am r (sp_boys g y (nI w)) gi) rmX9_boys) (wm E am g y j td ++ r) 0 0 41 [(3, .int (eG1 (eAll g + 1 - n))), (2, .int (nI (mBo g w n))), (0, .ref (am 0)), (1, .int (nI w))] [] (wm E am g y jj td ++ r) := by
        intro fu41
        induction fu41 with
        | zero => intro n jj hn; exact absurd hn (Nat.not_lt_zero _)
        | succ fu41 ih41 =>
          intro n jj hn hn0 hJJ
          have q1 := mBo_le hw n
          have q2 : eLeft (eDk (mWs g (eAll g - n) (-9) 8)) < 1024 := ((hI.oMw (S := eAll g - n) (q := -9) (by omega) 8).oHrs _).left
          by_cases hz : n = eAll g + 1
          · refine wf_lvc [(3, .int (-1)), (2, .int (nI (mBo g w n))), (0, .ref (am 0)), (1, .int (nI w))] (by rw [show eG1 (eAll g + 1 - n) = -1 by rw [hz, Nat.sub_self, eG1_0]]) ?_
            refine wf_iload_n 0 dX9_boys_41 rfl ?_
            refine wf_if_lt 78 dX9_boys_42 (by decide) (fun c42 => ?_) (fun c42 => ?_)
            · refine wf_iload_n 1 dX9_boys_78 rfl ?_
              exact wf_iret .int rfl (vp_nar_int _) ⟨rfl, rfl⟩ (pm_of (by unfold sp_boys; rw [if_neg (by rw [c5]; decide), nI_clamp (by omega), if_pos c20b, ← boys_eq hI hw c20b, hz]; rfl) ⟨_, _, hJJ, rfl⟩) dX9_boys_79
            · exact absurd (by decide) c42
          · refine wf_lvc [(3, .int (nI (eAll g - n))), (2, .int (nI (mBo g w n))), (0, .ref (am 0)), (1, .int (nI w))] (by rw [show eG1 (eAll g + 1 - n) = nI (eAll g - n) by rw [show eAll g + 1 - n = (eAll g - n) + 1 by omega, eG1_s]]) ?_
            refine wf_iload_n 0 dX9_boys_41 rfl ?_
            refine wf_if_lt 78 dX9_boys_42 (by decide) (fun c42 => ?_) (fun c42 => ?_)
            · exact absurd c42 (nI_pos (by omega))
            · refine wf_iload_n 0 dX9_boys_45 rfl ?_
              refine wf_callSD (As := [.int (nI (eAll g - n))]) (rest := []) (c_X9_bits (by omega)) kS_X9_187 rfl (by decide) (by decide) (Nat.le_of_ble_eq_true rfl) rfl dX9_boys_46 ?_
              refine wf_iload_n 1 dX9_boys_49 rfl ?_
              refine wf_callSD (As := [.int (nI (mBo g w n))]) (rest := [.int (nI (eBits (eAll g - n)))]) (c_X9_bits (by omega)) kS_X9_187 rfl (by decide) (by decide) (Nat.le_of_ble_eq_true rfl) rfl dX9_boys_50 ?_
              refine wf_icmp_gt_n 72 dX9_boys_53 (by decide) (by have := eBits_le (eAll g - n); omega) (by have := eBits_le (mBo g w n); omega) (fun c53 => ?_) (fun c53 => ?_)
              · refine wf_iinc ((nI (eAll g - n)) + (-1)) 0 [(3, .int ((nI (eAll g - n)) + (-1))), (2, .int (nI (mBo g w n))), (0, .ref (am 0)), (1, .int (nI w))] dX9_boys_72 rfl rfl (by decide) rfl ?_
                refine wf_goto 41 dX9_boys_75 (by decide) ?_
                refine wf_sub (lv' := [(3, .int ((nI (eAll g - n)) + (-1))), (2, .int (nI (mBo g w n))), (0, .ref (am 0)), (1, .int (nI w))]) [0, 1, 2, 3] rfl ?_
                have hq : mBo g w (n + 1) = mBo g w n := by show (if _ then _ else _) = _; rw [if_neg (fun q => absurd q.1 (by omega))]
                refine wf_lvc [(3, .int (eG1 (eAll g + 1 - (n + 1)))), (2, .int (nI (mBo g w (n + 1)))), (0, .ref (am 0)), (1, .int (nI w))] (by rw [hq, eG1_d, show eAll g + 1 - (n + 1) = eAll g - n by omega]) ?_
                exact ih41 (n + 1) _ (by omega) (by omega) hJJ
              · refine wf_iload_n 3 dX9_boys_56 rfl ?_
                refine wf_aload_n 2 dX9_boys_57 rfl ?_
                refine wf_iload_n 0 dX9_boys_58 rfl ?_
                refine wf_bipush (-9) dX9_boys_59 (by decide) ?_
                refine wf_callVD (As := [.int (nI (eAll g - n)), .int (-9)]) (rest := [.int (nI w)]) 0 (c_X9_watchedLeft hI (by omega)) kV_X9_193 rfl (by decide) (by decide) (Nat.le_of_ble_eq_true rfl) rfl rfl rfl dX9_boys_61 ?_
                refine wf_iconst (-1) dX9_boys_64 (by decide) ?_
                refine wf_ixor (nI (eLeft (eDk (mWs g (eAll g - n) (-9) 8))) ^^^ -1) dX9_boys_65 rfl ?_
                refine wf_iand (nI (ldf w (eLeft (eDk (mWs g (eAll g - n) (-9) 8))))) dX9_boys_66 (nI_andn (by omega) (by omega)) ?_
                refine wf_if_ne_n 72 dX9_boys_67 (by decide) (Nat.lt_of_le_of_lt (ldf_le _ _) (by omega)) (fun c67 => ?_) (fun c67 => ?_)
                · refine wf_iinc ((nI (eAll g - n)) + (-1)) 0 [(3, .int ((nI (eAll g - n)) + (-1))), (2, .int (nI (mBo g w n))), (0, .ref (am 0)), (1, .int (nI w))] dX9_boys_72 rfl rfl (by decide) rfl ?_
                  refine wf_goto 41 dX9_boys_75 (by decide) ?_
                  refine wf_sub (lv' := [(3, .int ((nI (eAll g - n)) + (-1))), (2, .int (nI (mBo g w n))), (0, .ref (am 0)), (1, .int (nI w))]) [0, 1, 2, 3] rfl ?_
                  have hq : mBo g w (n + 1) = mBo g w n := by show (if _ then _ else _) = _; rw [if_neg (fun q => c67 ((mKp_iff hI hw).mpr q.2))]
                  refine wf_lvc [(3, .int (eG1 (eAll g + 1 - (n + 1)))), (2, .int (nI (mBo g w (n + 1)))), (0, .ref (am 0)), (1, .int (nI w))] (by rw [hq, eG1_d, show eAll g + 1 - (n + 1) = eAll g - n by omega]) ?_
                  exact ih41 (n + 1) _ (by omega) (by omega) (IH.r (wh := 2) (IH.k (wh := 2) hJJ (by decide)))
                · refine wf_iload_n 0 dX9_boys_70 rfl ?_
                  refine wf_istore_n [(2, .int (nI (eAll g - n))), (3, .int (nI (eAll g - n))), (0, .ref (am 0)), (1, .int (nI w))] dX9_boys_71 rfl (by decide) rfl ?_
                  refine wf_iinc ((nI (eAll g - n)) + (-1)) 1 [(3, .int ((nI (eAll g - n)) + (-1))), (2, .int (nI (eAll g - n))), (0, .ref (am 0)), (1, .int (nI w))] dX9_boys_72 rfl rfl (by decide) rfl ?_
                  refine wf_goto 41 dX9_boys_75 (by decide) ?_
                  refine wf_sub (lv' := [(3, .int ((nI (eAll g - n)) + (-1))), (2, .int (nI (eAll g - n))), (0, .ref (am 0)), (1, .int (nI w))]) [0, 1, 2, 3] rfl ?_
                  have hq : mBo g w (n + 1) = eAll g - n := by show (if _ then _ else _) = _; rw [if_pos ⟨by omega, (mKp_iff hI hw).mp c67⟩]
                  refine wf_lvc [(3, .int (eG1 (eAll g + 1 - (n + 1)))), (2, .int (nI (mBo g w (n + 1)))), (0, .ref (am 0)), (1, .int (nI w))] (by rw [hq, eG1_d, show eAll g + 1 - (n + 1) = eAll g - n by omega]) ?_
                  exact ih41 (n + 1) _ (by omega) (by omega) (IH.r (wh := 2) (IH.k (wh := 2) hJJ (by decide)))
      refine wf_sub (lv' := [(3, .int (nI (eAll g))), (2, .int (nI w)), (0, .ref (am 0)), (1, .int (nI w))]) [0, 1, 2, 3] rfl ?_
      refine wf_lvc [(3, .int (eG1 (eAll g + 1 - 0))), (2, .int (nI (mBo g w 0))), (0, .ref (am 0)), (1, .int (nI w))] (by rw [show eG1 (eAll g + 1 - 0) = nI (eAll g) from eG1_s _]; rfl) ?_
      exact L41 _ 0 j (Nat.lt_succ_self _) (Nat.zero_le _) hJ
    · refine wf_aload_n 0 dX9_boys_23 rfl ?_
      refine wf_bipush (-3) dX9_boys_24 (by decide) ?_
      refine wf_callVD (As := [.int (-3)]) (rest := []) 0 (c_X9_no (k := 3) (by decide)) kV_X9_73 rfl (by decide) (by decide) (Nat.le_of_ble_eq_true rfl) rfl rfl rfl dX9_boys_26 ?_
      exact wf_iret .int rfl (vp_nar_int _) ⟨rfl, rfl⟩ (pm_of (by unfold sp_boys; rw [if_neg (by rw [c5]; decide), nI_clamp (by omega), if_neg c20]; rfl) ⟨_, _, hJ, rfl⟩) dX9_boys_29
  · refine wf_aload_n 0 dX9_boys_8 rfl ?_
    refine wf_iconst (-1) dX9_boys_9 (by decide) ?_
    refine wf_callVD (As := [.int (-1)]) (rest := []) 0 (c_X9_no (k := 1) (by decide)) kV_X9_73 rfl (by decide) (by decide) (Nat.le_of_ble_eq_true rfl) rfl rfl rfl dX9_boys_10 ?_
    exact wf_iret .int rfl (vp_nar_int _) ⟨rfl, rfl⟩ (pm_of (by unfold sp_boys; rw [if_pos c5]; rfl) ⟨_, _, hJ, rfl⟩) dX9_boys_13
abbrev rmX9_mixed : Room := { frames := 6, cells := 0, slots := 0, locals := 134 }
set_option maxHeartbeats 4000000 in
set_option maxRecDepth 100000 in
theorem c_X9_mixed {l : Launch} {E : Ev} {x z : Int32} {gi : Gd} {g y j : Gd} {td : Nat → Int32} {am : Nat → Nat} {r : va_W} (hI : Inv g) (hJ : IH j gi) (hy : YI y)  : CT l E yX9_mixed cX9_mixed 8 (some .int) rmX9_mixed [.ref (am 0), .int x, .int z] (wm E am g y j td ++ r) (PM E am r (sp_mixed g y x z) gi) := by
  refine CT.of (lv := [(0, .ref (am 0)), (1, .int x), (2, .int z)]) false (by decide +kernel) (by decide) (Nat.le_of_ble_eq_true rfl) rfl ?_
  have f0 := hI.words
  have f1 := hI.birds
  have f2 := hI.gone
  have f3 := hI.hour
  obtain ⟨y00, y01, y02, y1, y2⟩ := id hy
  refine wf_iload_n 1 dX9_mixed_0 rfl ?_
  refine wf_iconst (nI 0) dX9_mixed_1 (by decide) ?_
  refine wf_bipush (nI 12) dX9_mixed_2 (by decide) ?_
  refine wf_callSD (As := [.int x, .int (nI 0), .int (nI 12)]) (rest := []) (c_X9_bound) kS_X9_66 rfl (by decide) (by decide) (Nat.le_of_ble_eq_true rfl) rfl dX9_mixed_4 ?_
  refine wf_istore_n [(3, .int (eBd x (nI 0) (nI 12))), (0, .ref (am 0)), (1, .int x), (2, .int z)] dX9_mixed_7 rfl (by decide) rfl ?_
  by_cases b1 : x < (0 : Int32)
  · refine wf_lvc [(3, .int (-4)), (0, .ref (am 0)), (1, .int x), (2, .int z)] (by rw [show eBd x (nI 0) (nI 12) = (-4) from by unfold eBd; rw [nI_0, if_pos b1]]) ?_
    refine wf_iload_n 0 dX9_mixed_8 rfl ?_
    refine wf_if_ne 24 dX9_mixed_9 (by decide) (fun c9 => ?_) (fun c9 => ?_)
    · refine wf_iload_n 0 dX9_mixed_24 rfl ?_
      refine wf_if_eq 34 dX9_mixed_25 (by decide) (fun c25 => ?_) (fun c25 => ?_)
      · exact absurd c25 (by decide)
      · refine wf_aload_n 1 dX9_mixed_28 rfl ?_
        refine wf_iload_n 0 dX9_mixed_29 rfl ?_
        refine wf_callVD (As := [.int (-4)]) (rest := []) 0 (c_X9_no (k := 4) (by decide)) kV_X9_73 rfl (by decide) (by decide) (Nat.le_of_ble_eq_true rfl) rfl rfl rfl dX9_mixed_30 ?_
        exact wf_iret .int rfl (vp_nar_int _) ⟨rfl, rfl⟩ (pm_of (by unfold sp_mixed; rw [if_pos b1]; rfl) ⟨_, _, hJ, rfl⟩) dX9_mixed_33
    · exact absurd c9 (by decide)
  by_cases b2 : nI 12 < x
  · refine wf_lvc [(3, .int (-6)), (0, .ref (am 0)), (1, .int x), (2, .int z)] (by rw [show eBd x (nI 0) (nI 12) = (-6) from by unfold eBd; rw [nI_0, if_neg b1, if_pos b2]]) ?_
    refine wf_iload_n 0 dX9_mixed_8 rfl ?_
    refine wf_if_ne 24 dX9_mixed_9 (by decide) (fun c9 => ?_) (fun c9 => ?_)
    · refine wf_iload_n 0 dX9_mixed_24 rfl ?_
      refine wf_if_eq 34 dX9_mixed_25 (by decide) (fun c25 => ?_) (fun c25 => ?_)
      · exact absurd c25 (by decide)
      · refine wf_aload_n 1 dX9_mixed_28 rfl ?_
        refine wf_iload_n 0 dX9_mixed_29 rfl ?_
        refine wf_callVD (As := [.int (-6)]) (rest := []) 0 (c_X9_no (k := 6) (by decide)) kV_X9_73 rfl (by decide) (by decide) (Nat.le_of_ble_eq_true rfl) rfl rfl rfl dX9_mixed_30 ?_
        exact wf_iret .int rfl (vp_nar_int _) ⟨rfl, rfl⟩ (pm_of (by unfold sp_mixed; rw [if_neg b1, if_pos b2]; rfl) ⟨_, _, hJ, rfl⟩) dX9_mixed_33
    · exact absurd c9 (by decide)
  · refine wf_lvc [(3, .int (nI 0)), (0, .ref (am 0)), (1, .int x), (2, .int z)] (by rw [show eBd x (nI 0) (nI 12) = (nI 0) from by unfold eBd; rw [nI_0, if_neg b1, if_neg b2]]) ?_
    have h0 := b1
    have h1 := b2
    obtain ⟨A, hA, rfl⟩ := i_le (k := 12) (by decide) h0 h1
    refine wf_iload_n 0 dX9_mixed_8 rfl ?_
    refine wf_if_ne_n 24 dX9_mixed_9 (by decide) (by decide) (fun c9 => ?_) (fun c9 => ?_)
    · exact absurd rfl c9
    · refine wf_iload_n 3 dX9_mixed_12 rfl ?_
      refine wf_iconst (nI 0) dX9_mixed_13 (by decide) ?_
      refine wf_iconst (nI 1) dX9_mixed_14 (by decide) ?_
      refine wf_callSD (As := [.int z, .int (nI 0), .int (nI 1)]) (rest := []) (c_X9_isIn) kS_X9_87 rfl (by decide) (by decide) (Nat.le_of_ble_eq_true rfl) rfl dX9_mixed_15 ?_
      refine wf_if_ne_b 24 dX9_mixed_18 (by decide) (fun c18 => ?_) (fun c18 => ?_)
      · refine wf_iload_n 0 dX9_mixed_24 rfl ?_
        refine wf_if_eq_n 34 dX9_mixed_25 (by decide) (by decide) (fun c25 => ?_) (fun c25 => ?_)
        · obtain ⟨q_, hq0, hq1, rfl⟩ := eIn_t (by decide) (by decide) c18
          refine wf_aload_n 1 dX9_mixed_34 rfl ?_
          refine wf_iconst (nI 2) dX9_mixed_35 (by decide) ?_
          refine wf_iconst (nI 1) dX9_mixed_36 (by decide) ?_
          refine wf_callVv (As := [.int (nI 2), .int (nI 1)]) (rest := []) 0 (c_X9_passesAll_k (wh := 2) hI (by decide)) kV_X9_118 rfl (by decide) (by decide) (Nat.le_of_ble_eq_true rfl) rfl rfl rfl dX9_mixed_37 ?_
          refine wf_bipush (-9) dX9_mixed_40 (by decide) ?_
          refine wf_istore [(4, .int (-9)), (3, .int (nI 0)), (0, .ref (am 0)), (1, .int (nI A)), (2, .int (nI q_))] dX9_mixed_42 (by decide) rfl ?_
          refine wf_iconst (nI 0) dX9_mixed_44 (by decide) ?_
          refine wf_istore [(5, .int (nI 0)), (4, .int (-9)), (3, .int (nI 0)), (0, .ref (am 0)), (1, .int (nI A)), (2, .int (nI q_))] dX9_mixed_45 (by decide) rfl ?_
          refine wf_iconst (nI 0) dX9_mixed_47 (by decide) ?_
          refine wf_istore [(6, .int (nI 0)), (5, .int (nI 0)), (4, .int (-9)), (3, .int (nI 0)), (0, .ref (am 0)), (1, .int (nI A)), (2, .int (nI q_))] dX9_mixed_48 (by decide) rfl ?_
          have L50 : ∀ (fu50 : Nat) (k : Nat) (gw : Gd), 1000 - k < fu50 → (k ≤ 1000) → (∀ f i, ¬ (f = 7 ∧ i < 3) → gw f i = g f i) → WF l E RX9 cX9_mixed 8 (some .int) rmX9_mixed false (fun _ => True) (QM E (wm E am g y j td ++ r) (PM E am r (sp_mixed g y (nI A) (nI q_)) gi) rmX9_mixed) (wm E am g y j td ++ r) 0 0 50 [(6, .int (nI k)), (5, .int (nI ((mMx g A k).2 - 1))), (4, .int (mB (mMx g A k))), (3, .int (nI 0)), (0, .ref (am 0)), (1, .int (nI A)), (2, .int (nI q_))] [] (wm E am gw y (kq j (80 * 2) g 61) td ++ r) := by
            intro fu50
            induction fu50 with
            | zero => intro k gw hn; exact absurd hn (Nat.not_lt_zero _)
            | succ fu50 ih50 =>
              intro k gw hn hk0 hW
              have q1 := mMx_le g A k
              have q2 := eLeftN_le (eDk (eBt g k))
              have q3 : eDs k = k / 100 + k / 10 % 10 + k % 10 := rfl
              refine wf_iload 0 dX9_mixed_50 rfl ?_
              refine wf_sipush (nI 1000) dX9_mixed_52 (by decide) ?_
              refine wf_icmp_ge_n 159 dX9_mixed_55 (by decide) (by omega) (by omega) (fun c55 => ?_) (fun c55 => ?_)
              · refine wf_aload_n 4 dX9_mixed_159 rfl ?_
                refine wf_iconst (nI 2) dX9_mixed_160 (by decide) ?_
                refine wf_iconst (nI 0) dX9_mixed_161 (by decide) ?_
                refine wf_callVv (As := [.int (nI 2), .int (nI 0)]) (rest := []) 0 (c_X9_passesAll_r (wh := 2) (g0 := g) (fun k hk => kq_has k hk) (by decide)) kV_X9_118 rfl (by decide) (by decide) (Nat.le_of_ble_eq_true rfl) rfl rfl rfl dX9_mixed_162 ?_
                refine wf_iload_n 6 dX9_mixed_165 rfl ?_
                refine wf_if_ne_n 174 dX9_mixed_166 (by decide) (by omega) (fun c166 => ?_) (fun c166 => ?_)
                · refine wf_iload 1 dX9_mixed_174 rfl ?_
                  exact wf_iret .int rfl (vp_nar_int _) ⟨rfl, rfl⟩ (pm_of (by have hk9 : k = 1000 := (by omega); subst hk9; have hp9 : 1 ≤ (mMx g A 1000).2 := mMx_pos 999; have hq9 : q_ = 1 := (by omega); subst hq9; unfold sp_mixed; rw [if_neg h0, if_neg h1, if_neg (by decide), if_pos rfl, nI_clamp (by omega), mixed_eq hI, eG1_p hp9]; rfl) ⟨_, _, (IH.r (wh := 2) (IH.k (wh := 2) hJ (by decide))), rfl⟩) dX9_mixed_176
                · refine wf_iload 2 dX9_mixed_169 rfl ?_
                  refine wf_goto 176 dX9_mixed_171 (by decide) ?_
                  exact wf_iret .int rfl (vp_nar_int _) ⟨rfl, rfl⟩ (pm_of (by have hk9 : k = 1000 := (by omega); subst hk9; have hp9 : 1 ≤ (mMx g A 1000).2 := mMx_pos 999; have hq9 : q_ = 0 := (by omega); subst hq9; unfold sp_mixed; rw [if_neg h0, if_neg h1, if_pos nI_0, nI_clamp (by omega), mixed_eq hI, mB_p hp9]; rfl) ⟨_, _, (IH.r (wh := 2) (IH.k (wh := 2) hJ (by decide))), rfl⟩) dX9_mixed_176
              · refine wf_iload 0 dX9_mixed_58 rfl ?_
                refine wf_bipush (nI 100) dX9_mixed_60 (by decide) ?_
                refine wf_idiv (nI (k / 100)) dX9_mixed_62 (nI_ne0 (by decide) (by decide)) (pk_div (by omega) (by decide) (by decide)) ?_
                refine wf_iload 0 dX9_mixed_63 rfl ?_
                refine wf_bipush (nI 10) dX9_mixed_65 (by decide) ?_
                refine wf_idiv (nI (k / 10)) dX9_mixed_67 (nI_ne0 (by decide) (by decide)) (pk_div (by omega) (by decide) (by decide)) ?_
                refine wf_bipush (nI 10) dX9_mixed_68 (by decide) ?_
                refine wf_irem (nI ((k / 10) % 10)) dX9_mixed_70 (nI_ne0 (by decide) (by decide)) (pk_rem (by omega) (by decide) (by decide)) ?_
                refine wf_iadd (nI ((k / 100) + ((k / 10) % 10))) dX9_mixed_71 (nI_add (k / 100) ((k / 10) % 10)) ?_
                refine wf_iload 0 dX9_mixed_72 rfl ?_
                refine wf_bipush (nI 10) dX9_mixed_74 (by decide) ?_
                refine wf_irem (nI (k % 10)) dX9_mixed_76 (nI_ne0 (by decide) (by decide)) (pk_rem (by omega) (by decide) (by decide)) ?_
                refine wf_iadd (nI (((k / 100) + ((k / 10) % 10)) + (k % 10))) dX9_mixed_77 (nI_add ((k / 100) + ((k / 10) % 10)) (k % 10)) ?_
                refine wf_iload_n 5 dX9_mixed_78 rfl ?_
                refine wf_icmp_le_n 85 dX9_mixed_79 (by decide) (by omega) (by omega) (fun c79 => ?_) (fun c79 => ?_)
                · refine wf_aload_n 4 dX9_mixed_85 rfl ?_
                  refine wf_getf (C := RX9) (T := TX9) (N := 27) (v := .ref (am 9)) 0 8 in_X9 rfl rfl (by decide) fl_X9_34 rfl dX9_mixed_86 ?_
                  refine wf_iconst (nI 0) dX9_mixed_89 (by decide) ?_
                  refine wf_iload 0 dX9_mixed_90 rfl ?_
                  refine wf_bipush (nI 100) dX9_mixed_92 (by decide) ?_
                  refine wf_idiv (nI (k / 100)) dX9_mixed_94 (nI_ne0 (by decide) (by decide)) (pk_div (by omega) (by decide) (by decide)) ?_
                  refine wf_iast_n (wm E am (gs gw 7 0 (k / 100)) y (kq j (80 * 2) g 61) td ++ r) 9 rfl (by omega) (by decide) (sf 9 (Nat.le_of_ble_eq_true rfl) (wm_set7 0 (k / 100))) dX9_mixed_95 ?_
                  refine wf_aload_n 4 dX9_mixed_96 rfl ?_
                  refine wf_getf (C := RX9) (T := TX9) (N := 27) (v := .ref (am 9)) 0 8 in_X9 rfl rfl (by decide) fl_X9_34 rfl dX9_mixed_97 ?_
                  refine wf_iconst (nI 1) dX9_mixed_100 (by decide) ?_
                  refine wf_iload 0 dX9_mixed_101 rfl ?_
                  refine wf_bipush (nI 10) dX9_mixed_103 (by decide) ?_
                  refine wf_idiv (nI (k / 10)) dX9_mixed_105 (nI_ne0 (by decide) (by decide)) (pk_div (by omega) (by decide) (by decide)) ?_
                  refine wf_bipush (nI 10) dX9_mixed_106 (by decide) ?_
                  refine wf_irem (nI ((k / 10) % 10)) dX9_mixed_108 (nI_ne0 (by decide) (by decide)) (pk_rem (by omega) (by decide) (by decide)) ?_
                  refine wf_iast_n (wm E am (gs (gs gw 7 0 (k / 100)) 7 1 ((k / 10) % 10)) y (kq j (80 * 2) g 61) td ++ r) 9 rfl (by omega) (by decide) (sf 9 (Nat.le_of_ble_eq_true rfl) (wm_set7 1 ((k / 10) % 10))) dX9_mixed_109 ?_
                  refine wf_aload_n 4 dX9_mixed_110 rfl ?_
                  refine wf_getf (C := RX9) (T := TX9) (N := 27) (v := .ref (am 9)) 0 8 in_X9 rfl rfl (by decide) fl_X9_34 rfl dX9_mixed_111 ?_
                  refine wf_iconst (nI 2) dX9_mixed_114 (by decide) ?_
                  refine wf_iload 0 dX9_mixed_115 rfl ?_
                  refine wf_bipush (nI 10) dX9_mixed_117 (by decide) ?_
                  refine wf_irem (nI (k % 10)) dX9_mixed_119 (nI_ne0 (by decide) (by decide)) (pk_rem (by omega) (by decide) (by decide)) ?_
                  refine wf_iast_n (wm E am (gs (gs (gs gw 7 0 (k / 100)) 7 1 ((k / 10) % 10)) 7 2 (k % 10)) y (kq j (80 * 2) g 61) td ++ r) 9 rfl (by omega) (by decide) (sf 9 (Nat.le_of_ble_eq_true rfl) (wm_set7 2 (k % 10))) dX9_mixed_120 ?_
                  refine wf_world (wm E am (eBt g k) y (kq j (80 * 2) g 61) td ++ r) (by rw [← bt_same hW]; rfl) ?_
                  refine wf_aload_n 4 dX9_mixed_121 rfl ?_
                  refine wf_callVD (As := []) (rest := []) 0 (c_X9_leftAtDusk (hI.oBt (by omega))) kV_X9_181 rfl (by decide) (by decide) (Nat.le_of_ble_eq_true rfl) rfl rfl rfl dX9_mixed_122 ?_
                  refine wf_callSD (As := [.int (nI (eLeft (eDk (eBt g k))))]) (rest := []) (c_X9_bits ((hI.oBt (by omega)).oHrs _).left) kS_X9_187 rfl (by decide) (by decide) (Nat.le_of_ble_eq_true rfl) rfl dX9_mixed_125 ?_
                  refine wf_top (y := .int (nI (eLeftN (eDk (eBt g k))))) rfl ?_
                  refine wf_istore [(7, .int (nI (eLeftN (eDk (eBt g k))))), (6, .int (nI k)), (5, .int (nI ((mMx g A k).2 - 1))), (4, .int (mB (mMx g A k))), (3, .int (nI 0)), (0, .ref (am 0)), (1, .int (nI A)), (2, .int (nI q_))] dX9_mixed_128 (by decide) rfl ?_
                  refine wf_iload 3 dX9_mixed_130 rfl ?_
                  refine wf_if_lt 145 dX9_mixed_132 (by decide) (fun c132 => ?_) (fun c132 => ?_)
                  · refine wf_iload 1 dX9_mixed_145 rfl ?_
                    refine wf_istore [(4, .int (nI k)), (7, .int (nI (eLeftN (eDk (eBt g k))))), (6, .int (nI k)), (5, .int (nI ((mMx g A k).2 - 1))), (3, .int (nI 0)), (0, .ref (am 0)), (1, .int (nI A)), (2, .int (nI q_))] dX9_mixed_147 (by decide) rfl ?_
                    refine wf_iload 1 dX9_mixed_149 rfl ?_
                    refine wf_istore [(5, .int (nI (eLeftN (eDk (eBt g k))))), (4, .int (nI k)), (7, .int (nI (eLeftN (eDk (eBt g k))))), (6, .int (nI k)), (3, .int (nI 0)), (0, .ref (am 0)), (1, .int (nI A)), (2, .int (nI q_))] dX9_mixed_151 (by decide) rfl ?_
                    refine wf_iinc (nI (k + 1)) 3 [(6, .int (nI (k + 1))), (5, .int (nI (eLeftN (eDk (eBt g k))))), (4, .int (nI k)), (7, .int (nI (eLeftN (eDk (eBt g k))))), (3, .int (nI 0)), (0, .ref (am 0)), (1, .int (nI A)), (2, .int (nI q_))] dX9_mixed_153 rfl (nI_1 k) (by decide) rfl ?_
                    refine wf_goto 50 dX9_mixed_156 (by decide) ?_
                    refine wf_sub (lv' := [(6, .int (nI (k + 1))), (5, .int (nI (eLeftN (eDk (eBt g k))))), (4, .int (nI k)), (3, .int (nI 0)), (0, .ref (am 0)), (1, .int (nI A)), (2, .int (nI q_))]) [0, 1, 2, 4, 5, 6, 7] rfl ?_
                    have hq : mMx g A (k + 1) = (k, eLeftN (eDk (eBt g k)) + 1) := by show (if _ then _ else if _ then _ else _) = _; rw [if_neg (by omega), if_pos (by have h9 := (mB_neg (p := mMx g A k) (by omega)).mp c132; omega)]
                    refine wf_lvc [(6, .int (nI (k + 1))), (5, .int (nI ((mMx g A (k + 1)).2 - 1))), (4, .int (mB (mMx g A (k + 1)))), (3, .int (nI 0)), (0, .ref (am 0)), (1, .int (nI A)), (2, .int (nI q_))] (by rw [hq, mB_s]; try rfl) ?_
                    exact ih50 (k + 1) _ (by omega) (by omega) (fun f i h => bt_out h)
                  · refine wf_iload 0 dX9_mixed_135 rfl ?_
                    refine wf_iload 2 dX9_mixed_137 rfl ?_
                    refine wf_icmp_gt_n 145 dX9_mixed_139 (by decide) (by omega) (by omega) (fun c139 => ?_) (fun c139 => ?_)
                    · refine wf_iload 1 dX9_mixed_145 rfl ?_
                      refine wf_istore [(4, .int (nI k)), (7, .int (nI (eLeftN (eDk (eBt g k))))), (6, .int (nI k)), (5, .int (nI ((mMx g A k).2 - 1))), (3, .int (nI 0)), (0, .ref (am 0)), (1, .int (nI A)), (2, .int (nI q_))] dX9_mixed_147 (by decide) rfl ?_
                      refine wf_iload 1 dX9_mixed_149 rfl ?_
                      refine wf_istore [(5, .int (nI (eLeftN (eDk (eBt g k))))), (4, .int (nI k)), (7, .int (nI (eLeftN (eDk (eBt g k))))), (6, .int (nI k)), (3, .int (nI 0)), (0, .ref (am 0)), (1, .int (nI A)), (2, .int (nI q_))] dX9_mixed_151 (by decide) rfl ?_
                      refine wf_iinc (nI (k + 1)) 3 [(6, .int (nI (k + 1))), (5, .int (nI (eLeftN (eDk (eBt g k))))), (4, .int (nI k)), (7, .int (nI (eLeftN (eDk (eBt g k))))), (3, .int (nI 0)), (0, .ref (am 0)), (1, .int (nI A)), (2, .int (nI q_))] dX9_mixed_153 rfl (nI_1 k) (by decide) rfl ?_
                      refine wf_goto 50 dX9_mixed_156 (by decide) ?_
                      refine wf_sub (lv' := [(6, .int (nI (k + 1))), (5, .int (nI (eLeftN (eDk (eBt g k))))), (4, .int (nI k)), (3, .int (nI 0)), (0, .ref (am 0)), (1, .int (nI A)), (2, .int (nI q_))]) [0, 1, 2, 4, 5, 6, 7] rfl ?_
                      have hq : mMx g A (k + 1) = (k, eLeftN (eDk (eBt g k)) + 1) := by show (if _ then _ else if _ then _ else _) = _; rw [if_neg (by omega), if_pos (by omega)]
                      refine wf_lvc [(6, .int (nI (k + 1))), (5, .int (nI ((mMx g A (k + 1)).2 - 1))), (4, .int (mB (mMx g A (k + 1)))), (3, .int (nI 0)), (0, .ref (am 0)), (1, .int (nI A)), (2, .int (nI q_))] (by rw [hq, mB_s]; try rfl) ?_
                      exact ih50 (k + 1) _ (by omega) (by omega) (fun f i h => bt_out h)
                    · refine wf_goto 153 dX9_mixed_142 (by decide) ?_
                      refine wf_iinc (nI (k + 1)) 1 [(6, .int (nI (k + 1))), (7, .int (nI (eLeftN (eDk (eBt g k))))), (5, .int (nI ((mMx g A k).2 - 1))), (4, .int (mB (mMx g A k))), (3, .int (nI 0)), (0, .ref (am 0)), (1, .int (nI A)), (2, .int (nI q_))] dX9_mixed_153 rfl (nI_1 k) (by decide) rfl ?_
                      refine wf_goto 50 dX9_mixed_156 (by decide) ?_
                      refine wf_sub (lv' := [(6, .int (nI (k + 1))), (5, .int (nI ((mMx g A k).2 - 1))), (4, .int (mB (mMx g A k))), (3, .int (nI 0)), (0, .ref (am 0)), (1, .int (nI A)), (2, .int (nI q_))]) [0, 2, 3, 4, 5, 6, 7] rfl ?_
                      have hq : mMx g A (k + 1) = mMx g A k := by show (if _ then _ else if _ then _ else _) = _; rw [if_neg (by omega), if_neg (by have h9 := mt (mB_neg (p := mMx g A k) (by omega)).mpr c132; omega)]
                      refine wf_lvc [(6, .int (nI (k + 1))), (5, .int (nI ((mMx g A (k + 1)).2 - 1))), (4, .int (mB (mMx g A (k + 1)))), (3, .int (nI 0)), (0, .ref (am 0)), (1, .int (nI A)), (2, .int (nI q_))] (by rw [hq]) ?_
                      exact ih50 (k + 1) _ (by omega) (by omega) (fun f i h => bt_out h)
                · refine wf_goto 153 dX9_mixed_82 (by decide) ?_
                  refine wf_iinc (nI (k + 1)) 0 [(6, .int (nI (k + 1))), (5, .int (nI ((mMx g A k).2 - 1))), (4, .int (mB (mMx g A k))), (3, .int (nI 0)), (0, .ref (am 0)), (1, .int (nI A)), (2, .int (nI q_))] dX9_mixed_153 rfl (nI_1 k) (by decide) rfl ?_
                  refine wf_goto 50 dX9_mixed_156 (by decide) ?_
                  refine wf_sub (lv' := [(6, .int (nI (k + 1))), (5, .int (nI ((mMx g A k).2 - 1))), (4, .int (mB (mMx g A k))), (3, .int (nI 0)), (0, .ref (am 0)), (1, .int (nI A)), (2, .int (nI q_))]) [0, 1, 2, 3, 4, 5, 6] rfl ?_
                  have hq : mMx g A (k + 1) = mMx g A k := by show (if _ then _ else if _ then _ else _) = _; rw [if_pos (by omega)]
                  refine wf_lvc [(6, .int (nI (k + 1))), (5, .int (nI ((mMx g A (k + 1)).2 - 1))), (4, .int (mB (mMx g A (k + 1)))), (3, .int (nI 0)), (0, .ref (am 0)), (1, .int (nI A)), (2, .int (nI q_))] (by rw [hq]) ?_
                  exact ih50 (k + 1) _ (by omega) (by omega) hW
          refine wf_sub (lv' := [(6, .int (nI 0)), (5, .int (nI 0)), (4, .int (-9)), (3, .int (nI 0)), (0, .ref (am 0)), (1, .int (nI A)), (2, .int (nI q_))]) [0, 1, 2, 3, 4, 5, 6] rfl ?_
          refine wf_lvc [(6, .int (nI 0)), (5, .int (nI ((mMx g A 0).2 - 1))), (4, .int (mB (mMx g A 0))), (3, .int (nI 0)), (0, .ref (am 0)), (1, .int (nI A)), (2, .int (nI q_))] rfl ?_
          exact L50 _ 0 g (Nat.lt_succ_self _) (Nat.zero_le _) (fun f i _ => rfl)
        · exact absurd rfl c25
      · refine wf_bipush (-2) dX9_mixed_21 (by decide) ?_
        refine wf_istore_n [(3, .int (-2)), (0, .ref (am 0)), (1, .int (nI A)), (2, .int z)] dX9_mixed_23 rfl (by decide) rfl ?_
        refine wf_iload_n 0 dX9_mixed_24 rfl ?_
        refine wf_if_eq 34 dX9_mixed_25 (by decide) (fun c25 => ?_) (fun c25 => ?_)
        · exact absurd c25 (by decide)
        · refine wf_aload_n 1 dX9_mixed_28 rfl ?_
          refine wf_iload_n 0 dX9_mixed_29 rfl ?_
          refine wf_callVD (As := [.int (-2)]) (rest := []) 0 (c_X9_no (k := 2) (by decide)) kV_X9_73 rfl (by decide) (by decide) (Nat.le_of_ble_eq_true rfl) rfl rfl rfl dX9_mixed_30 ?_
          exact wf_iret .int rfl (vp_nar_int _) ⟨rfl, rfl⟩ (pm_of (by unfold sp_mixed; rw [if_neg h0, if_neg h1, if_neg (fun q => eIn_f c18 (by rw [q]; decide)), if_neg (fun q => eIn_f c18 (by rw [q]; decide))]; rfl) ⟨_, _, hJ, rfl⟩) dX9_mixed_33
