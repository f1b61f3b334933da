/-- what the model's rows hold of the image -/
def IH (j gi : Gd) : Prop := ∀ k, k < 61 → j 5 k = enc gi k
def PM (E : Ev) (am : Nat → Nat) (r : va_W) (S : Int32 × Gd × Gd) (gi : Gd) : Option Value → va_W → Prop := fun v w2 => v = some (.int S.1) ∧ ∃ (j : Gd) (td : Nat → Int32), IH j gi ∧ w2 = wm E am S.2.1 S.2.2 j td ++ r
theorem pm_of {E : Ev} {am : Nat → Nat} {r : va_W} {S : Int32 × Gd × Gd} {gi : Gd} {v : Int32} {g' y' : Gd} {w2 : va_W} (hs : S = (v, g', y')) (hw : ∃ (j : Gd) (td : Nat → Int32), IH j gi ∧ w2 = wm E am g' y' j td ++ r) : PM E am r S gi (some (.int v)) w2 := by
  subst hs
  exact ⟨rfl, hw⟩
theorem IH.k {j g gi : Gd} {wh : Nat} (h : IH j gi) (hw : 1 ≤ wh) : IH (kq j (80 * wh) g 61) gi := fun k hk => (if_neg (show ¬ (5 = 5 ∧ 80 * wh ≤ k ∧ k < 80 * wh + 61) by omega)).trans (h k hk)
theorem IH.r {j gi : Gd} {wh : Nat} (h : IH j gi) : IH (jr j (80 * wh) 61) gi := h
theorem kq_has {j g : Gd} {c m : Nat} (k : Nat) (hk : k < m) : kq j c g m 5 (c + k) = enc g k := by
  show (if 5 = 5 ∧ c ≤ c + k ∧ c + k < c + m then enc g (c + k - c) else _) = _
  rw [if_pos ⟨rfl, by omega, by omega⟩, Nat.add_sub_cancel_left]
abbrev rmX9_letter : Room := { frames := 1, cells := 0, slots := 0, locals := 22 }
set_option maxHeartbeats 4000000 in
set_option maxRecDepth 100000 in
theorem c_X9_letter {l : Launch} {E : Ev} {x : Int32} {gi : Gd} {g y j : Gd} {td : Nat → Int32} {am : Nat → Nat} {r : va_W} (hI : Inv g) (hJ : IH j gi) (hy : YI y)  : CT l E yX9_letter cX9_letter 3 (some .int) rmX9_letter [.ref (am 0), .int x] (wm E am g y j td ++ r) (PM E am r (sp_letter g y x) gi) := by
  refine CT.of (lv := [(0, .ref (am 0)), (1, .int x)]) false (by decide +kernel) (by decide) (Nat.le_of_ble_eq_true rfl) rfl ?_
  have f0 := hI.words
  have f1 := hI.birds
  have f2 := hI.gone
  have f3 := hI.hour
  obtain ⟨y00, y01, y02, y1, y2⟩ := id hy
  refine wf_iload_n 1 dX9_letter_0 rfl ?_
  refine wf_iconst (nI 0) dX9_letter_1 (by decide) ?_
  refine wf_sipush (nI 255) dX9_letter_2 (by decide) ?_
  refine wf_callSD (As := [.int x, .int (nI 0), .int (nI 255)]) (rest := []) (c_X9_bound) kS_X9_66 rfl (by decide) (by decide) (Nat.le_of_ble_eq_true rfl) rfl dX9_letter_5 ?_
  refine wf_istore_n [(2, .int (eBd x (nI 0) (nI 255))), (0, .ref (am 0)), (1, .int x)] dX9_letter_8 rfl (by decide) rfl ?_
  by_cases b1 : x < (0 : Int32)
  · refine wf_lvc [(2, .int (-4)), (0, .ref (am 0)), (1, .int x)] (by rw [show eBd x (nI 0) (nI 255) = (-4) from by unfold eBd; rw [nI_0, if_pos b1]]) ?_
    refine wf_iload_n 0 dX9_letter_9 rfl ?_
    refine wf_if_ne 25 dX9_letter_10 (by decide) (fun c10 => ?_) (fun c10 => ?_)
    · refine wf_iload_n 0 dX9_letter_25 rfl ?_
      refine wf_if_eq 35 dX9_letter_26 (by decide) (fun c26 => ?_) (fun c26 => ?_)
      · exact absurd c26 (by decide)
      · refine wf_aload_n 1 dX9_letter_29 rfl ?_
        refine wf_iload_n 0 dX9_letter_30 rfl ?_
        refine wf_callVD (As := [.int (-4)]) (rest := []) 0 (c_X9_no (k := 4) (by decide)) kV_X9_73 rfl (by decide) (by decide) (Nat.le_of_ble_eq_true rfl) rfl rfl rfl dX9_letter_31 ?_
        exact wf_iret .int rfl (vp_nar_int _) ⟨rfl, rfl⟩ (pm_of (by unfold sp_letter; rw [if_pos b1]; rfl) ⟨_, _, hJ, rfl⟩) dX9_letter_34
    · exact absurd c10 (by decide)
  by_cases b2 : nI 255 < x
  · refine wf_lvc [(2, .int (-6)), (0, .ref (am 0)), (1, .int x)] (by rw [show eBd x (nI 0) (nI 255) = (-6) from by unfold eBd; rw [nI_0, if_neg b1, if_pos b2]]) ?_
    refine wf_iload_n 0 dX9_letter_9 rfl ?_
    refine wf_if_ne 25 dX9_letter_10 (by decide) (fun c10 => ?_) (fun c10 => ?_)
    · refine wf_iload_n 0 dX9_letter_25 rfl ?_
      refine wf_if_eq 35 dX9_letter_26 (by decide) (fun c26 => ?_) (fun c26 => ?_)
      · exact absurd c26 (by decide)
      · refine wf_aload_n 1 dX9_letter_29 rfl ?_
        refine wf_iload_n 0 dX9_letter_30 rfl ?_
        refine wf_callVD (As := [.int (-6)]) (rest := []) 0 (c_X9_no (k := 6) (by decide)) kV_X9_73 rfl (by decide) (by decide) (Nat.le_of_ble_eq_true rfl) rfl rfl rfl dX9_letter_31 ?_
        exact wf_iret .int rfl (vp_nar_int _) ⟨rfl, rfl⟩ (pm_of (by unfold sp_letter; rw [if_neg b1, if_pos b2]; rfl) ⟨_, _, hJ, rfl⟩) dX9_letter_34
    · exact absurd c10 (by decide)
  · refine wf_lvc [(2, .int (nI 0)), (0, .ref (am 0)), (1, .int x)] (by rw [show eBd x (nI 0) (nI 255) = (nI 0) from by unfold eBd; rw [nI_0, if_neg b1, if_neg b2]]) ?_
    have h0 := b1
    have h1 := b2
    obtain ⟨n, hn, rfl⟩ := i_le (k := 255) (by decide) b1 b2
    refine wf_iload_n 0 dX9_letter_9 rfl ?_
    refine wf_if_ne_n 25 dX9_letter_10 (by decide) (by decide) (fun c10 => ?_) (fun c10 => ?_)
    · exact absurd rfl c10
    · refine wf_aload_n 1 dX9_letter_13 rfl ?_
      refine wf_getf (C := RX9) (T := TX9) (N := 27) (v := .int (nI (y 0 1))) 0 18 in_X9 rfl rfl (by decide) fl_X9_70 rfl dX9_letter_14 ?_
      refine wf_bipush (nI 80) dX9_letter_17 (by decide) ?_
      refine wf_icmp_ne_n 25 dX9_letter_19 (by decide) (by omega) (by omega) (fun c19 => ?_) (fun c19 => ?_)
      · refine wf_iload_n 0 dX9_letter_25 rfl ?_
        refine wf_if_eq_n 35 dX9_letter_26 (by decide) (by decide) (fun c26 => ?_) (fun c26 => ?_)
        · refine wf_aload_n 1 dX9_letter_35 rfl ?_
          refine wf_getf (C := RX9) (T := TX9) (N := 27) (v := .ref (am 11)) 0 14 in_X9 rfl rfl (by decide) fl_X9_40 rfl dX9_letter_36 ?_
          refine wf_aload_n 1 dX9_letter_39 rfl ?_
          refine wf_getf (C := RX9) (T := TX9) (N := 27) (v := .int (nI (y 0 1))) 0 18 in_X9 rfl rfl (by decide) fl_X9_70 rfl dX9_letter_40 ?_
          refine wf_iload_n 2 dX9_letter_43 rfl ?_
          refine wf_iast_n (wm E am g (gs y 1 (y 0 1) n) j td ++ r) 11 rfl (by omega) (by decide) (sf 11 (Nat.le_of_ble_eq_true rfl) (wm_sety1 (y 0 1) n)) dX9_letter_44 ?_
          refine wf_aload_n 1 dX9_letter_45 rfl ?_
          refine wf_dup dX9_letter_46 rfl ?_
          refine wf_getf (C := RX9) (T := TX9) (N := 27) (v := .int (nI (y 0 1))) 0 18 in_X9 rfl rfl (by decide) fl_X9_70 rfl dX9_letter_47 ?_
          refine wf_iconst (nI 1) dX9_letter_50 (by decide) ?_
          refine wf_iadd (nI ((y 0 1) + 1)) dX9_letter_51 (nI_add (y 0 1) 1) ?_
          refine wf_putf (C := RX9) (T := TX9) (N := 27) (ty := .int) 0 18 (wm E am g (gs (gs y 1 (y 0 1) n) 0 1 ((y 0 1) + 1)) j td ++ r) tyX9 in_X9 tyX9_ok nmX9 rfl rfl (by decide) fl_X9_70 rfl (by decide +kernel) (by rfl) rfl (Nat.le_of_ble_eq_true rfl) (sf 0 (Nat.le_of_ble_eq_true rfl) (wm_put18 ((y 0 1) + 1))) dX9_letter_52 ?_
          refine wf_aload_n 1 dX9_letter_55 rfl ?_
          refine wf_getf (C := RX9) (T := TX9) (N := 27) (v := .int (nI ((y 0 1) + 1))) 0 18 in_X9 rfl rfl (by decide) fl_X9_70 rfl dX9_letter_56 ?_
          exact wf_iret .int rfl (vp_nar_int _) ⟨rfl, rfl⟩ (pm_of (by unfold sp_letter; rw [if_neg h0, if_neg h1, if_neg (by omega), nI_clamp (by omega)]) ⟨_, _, hJ, rfl⟩) dX9_letter_59
        · exact absurd rfl c26
      · refine wf_bipush (-6) dX9_letter_22 (by decide) ?_
        refine wf_istore_n [(2, .int (-6)), (0, .ref (am 0)), (1, .int (nI n))] dX9_letter_24 rfl (by decide) rfl ?_
        refine wf_iload_n 0 dX9_letter_25 rfl ?_
        refine wf_if_eq 35 dX9_letter_26 (by decide) (fun c26 => ?_) (fun c26 => ?_)
        · exact absurd c26 (by decide)
        · refine wf_aload_n 1 dX9_letter_29 rfl ?_
          refine wf_iload_n 0 dX9_letter_30 rfl ?_
          refine wf_callVD (As := [.int (-6)]) (rest := []) 0 (c_X9_no (k := 6) (by decide)) kV_X9_73 rfl (by decide) (by decide) (Nat.le_of_ble_eq_true rfl) rfl rfl rfl dX9_letter_31 ?_
          exact wf_iret .int rfl (vp_nar_int _) ⟨rfl, rfl⟩ (pm_of (by unfold sp_letter; rw [if_neg h0, if_neg h1, if_pos (by omega)]; rfl) ⟨_, _, hJ, rfl⟩) dX9_letter_34
theorem ge_toInt {x : Int32} {k : Nat} (hk : k < 1000) (h : ¬ x < nI k) : (k : Int) ≤ x.toInt := by
  rw [Int32.lt_iff_toInt_lt, nI_toInt (by omega)] at h; omega
theorem b_and1 (x : Nat) : bI (decide (x &&& 1 = 1)) = nI (x &&& 1) := by
  have h := and1' x
  by_cases h1 : x &&& 1 = 1
  · rw [decide_eq_true h1, h1]; rfl
  · rw [decide_eq_false h1, show x &&& 1 = 0 by omega]; rfl
theorem mCh_dusk {g : Gd} {k t : Nat} (h : 8 ≤ g 9 3) : eCho g k t = none := by
  unfold eCho
  generalize g 9 0 = n
  induction n with
  | zero => rfl
  | succ n ih =>
    show eStep g k t n (eCh g k t n) = none
    unfold eStep
    rw [ih, show eMay g n t = false by unfold eMay; rw [decide_eq_false (by omega)]; rfl]
    rfl
abbrev rmX9_word : Room := { frames := 1, cells := 0, slots := 0, locals := 21 }
set_option maxHeartbeats 4000000 in
set_option maxRecDepth 100000 in
theorem c_X9_word {l : Launch} {E : Ev} {x z : Int32} {gi : Gd} {g y j : Gd} {td : Nat → Int32} {am : Nat → Nat} {r : va_W} (hI : Inv g) (hJ : IH j gi) (hy : YI y)  : CT l E yX9_word cX9_word 3 (some .int) rmX9_word [.ref (am 0), .int x, .int z] (wm E am g y j td ++ r) (PM E am r (sp_word g y x z) gi) := by
  refine CT.of (lv := [(0, .ref (am 0)), (1, .int x), (2, .int z)]) false (by decide +kernel) (by decide) (Nat.le_of_ble_eq_true rfl) rfl ?_
  have f0 := hI.words
  have f1 := hI.birds
  have f2 := hI.gone
  have f3 := hI.hour
  obtain ⟨y00, y01, y02, y1, y2⟩ := id hy
  refine wf_aload_n 0 dX9_word_0 rfl ?_
  refine wf_iload_n 1 dX9_word_1 rfl ?_
  refine wf_callVD (As := [.int x]) (rest := []) 0 (c_X9_isWord) kV_X9_102 rfl (by decide) (by decide) (Nat.le_of_ble_eq_true rfl) rfl rfl rfl dX9_word_2 ?_
  refine wf_if_ne_b 14 dX9_word_5 (by decide) (fun c5 => ?_) (fun c5 => ?_)
  · obtain ⟨j, hj, rfl⟩ := eHas_i (by omega) c5
    by_cases t1 : z < 0
    · refine wf_iload_n 2 dX9_word_14 rfl ?_
      refine wf_tableOut 115 dX9_word_15 (Or.inl (lt_toInt0 t1)) (by decide) ?_
      refine wf_aload_n 0 dX9_word_115 rfl ?_
      refine wf_bipush (-2) dX9_word_116 (by decide) ?_
      refine wf_callVD (As := [.int (-2)]) (rest := []) 0 (c_X9_no (k := 2) (by decide)) kV_X9_73 rfl (by decide) (by decide) (Nat.le_of_ble_eq_true rfl) rfl rfl rfl dX9_word_118 ?_
      exact wf_iret .int rfl (vp_nar_int _) ⟨rfl, rfl⟩ (pm_of (by unfold sp_word; rw [if_neg (by rw [c5]; decide), if_pos t1]; rfl) ⟨_, _, hJ, rfl⟩) dX9_word_121
    by_cases t2 : ¬ z < nI 6
    · refine wf_iload_n 2 dX9_word_14 rfl ?_
      refine wf_tableOut 115 dX9_word_15 (Or.inr (by have := ge_toInt (k := 6) (by decide) t2; omega)) (by decide) ?_
      refine wf_aload_n 0 dX9_word_115 rfl ?_
      refine wf_bipush (-2) dX9_word_116 (by decide) ?_
      refine wf_callVD (As := [.int (-2)]) (rest := []) 0 (c_X9_no (k := 2) (by decide)) kV_X9_73 rfl (by decide) (by decide) (Nat.le_of_ble_eq_true rfl) rfl rfl rfl dX9_word_118 ?_
      exact wf_iret .int rfl (vp_nar_int _) ⟨rfl, rfl⟩ (pm_of (by unfold sp_word; rw [if_neg (by rw [c5]; decide), if_neg t1, if_neg t2]; rfl) ⟨_, _, hJ, rfl⟩) dX9_word_121
    · have t3 : z < nI 6 := Decidable.not_not.mp t2
      obtain ⟨k, hk, rfl⟩ := i_n (k := 6) (by decide) t1 t3
      refine wf_iload_n 2 dX9_word_14 rfl ?_
      by_cases s15_0 : k = 0
      · refine wf_tableIn 52 dX9_word_15 (by rw [s15_0]; decide) (by rw [s15_0]; decide) (by rw [s15_0]; rfl) (by decide) ?_
        refine wf_aload_n 0 dX9_word_52 rfl ?_
        refine wf_getf (C := RX9) (T := TX9) (N := 27) (v := .ref (am 2)) 0 1 in_X9 rfl rfl (by decide) fl_X9_13 rfl dX9_word_53 ?_
        refine wf_iload_n 1 dX9_word_56 rfl ?_
        refine wf_iald_n (nI (g 0 j)) 2 rfl (by omega) (by decide) rfl dX9_word_57 ?_
        exact wf_iret .int rfl (vp_nar_int _) ⟨rfl, rfl⟩ (pm_of (by unfold sp_word; rw [if_neg (by rw [c5]; decide), if_neg t1, if_pos t3, nI_clamp (by omega), nI_clamp (by omega)]; unfold vWord; rw [if_pos s15_0]; rfl) ⟨_, _, hJ, rfl⟩) dX9_word_58
      by_cases s15_1 : k = 1
      · refine wf_tableIn 59 dX9_word_15 (by rw [s15_1]; decide) (by rw [s15_1]; decide) (by rw [s15_1]; rfl) (by decide) ?_
        refine wf_aload_n 0 dX9_word_59 rfl ?_
        refine wf_getf (C := RX9) (T := TX9) (N := 27) (v := .ref (am 3)) 0 2 in_X9 rfl rfl (by decide) fl_X9_16 rfl dX9_word_60 ?_
        refine wf_iload_n 1 dX9_word_63 rfl ?_
        refine wf_iald_n (nI (g 1 j)) 3 rfl (by omega) (by decide) rfl dX9_word_64 ?_
        exact wf_iret .int rfl (vp_nar_int _) ⟨rfl, rfl⟩ (pm_of (by unfold sp_word; rw [if_neg (by rw [c5]; decide), if_neg t1, if_pos t3, nI_clamp (by omega), nI_clamp (by omega)]; unfold vWord; rw [if_neg s15_0, if_pos s15_1]; rfl) ⟨_, _, hJ, rfl⟩) dX9_word_65
      by_cases s15_2 : k = 2
      · refine wf_tableIn 66 dX9_word_15 (by rw [s15_2]; decide) (by rw [s15_2]; decide) (by rw [s15_2]; rfl) (by decide) ?_
        refine wf_aload_n 0 dX9_word_66 rfl ?_
        refine wf_getf (C := RX9) (T := TX9) (N := 27) (v := .ref (am 4)) 0 3 in_X9 rfl rfl (by decide) fl_X9_19 rfl dX9_word_67 ?_
        refine wf_iload_n 1 dX9_word_70 rfl ?_
        refine wf_iald_n (nI (g 2 j)) 4 rfl (by omega) (by decide) rfl dX9_word_71 ?_
        exact wf_iret .int rfl (vp_nar_int _) ⟨rfl, rfl⟩ (pm_of (by unfold sp_word; rw [if_neg (by rw [c5]; decide), if_neg t1, if_pos t3, nI_clamp (by omega), nI_clamp (by omega)]; unfold vWord; rw [if_neg s15_0, if_neg s15_1, if_pos s15_2]; rfl) ⟨_, _, hJ, rfl⟩) dX9_word_72
      by_cases s15_3 : k = 3
      · refine wf_tableIn 73 dX9_word_15 (by rw [s15_3]; decide) (by rw [s15_3]; decide) (by rw [s15_3]; rfl) (by decide) ?_
        refine wf_aload_n 0 dX9_word_73 rfl ?_
        refine wf_iload_n 1 dX9_word_74 rfl ?_
        refine wf_callVD (As := [.int (nI j)]) (rest := []) 0 (c_X9_strengthOf hI (by omega)) kV_X9_151 rfl (by decide) (by decide) (Nat.le_of_ble_eq_true rfl) rfl rfl rfl dX9_word_75 ?_
        exact wf_iret .int rfl (vp_nar_int _) ⟨rfl, rfl⟩ (pm_of (by unfold sp_word; rw [if_neg (by rw [c5]; decide), if_neg t1, if_pos t3, nI_clamp (by omega), nI_clamp (by omega)]; unfold vWord; rw [if_neg s15_0, if_neg s15_1, if_neg s15_2, if_pos s15_3]; rfl) ⟨_, _, hJ, rfl⟩) dX9_word_78
      by_cases s15_4 : k = 4
      · refine wf_tableIn 79 dX9_word_15 (by rw [s15_4]; decide) (by rw [s15_4]; decide) (by rw [s15_4]; rfl) (by decide) ?_
        refine wf_aload_n 0 dX9_word_79 rfl ?_
        refine wf_getf (C := RX9) (T := TX9) (N := 27) (v := .int (nI (g 9 2))) 0 13 in_X9 rfl rfl (by decide) fl_X9_142 rfl dX9_word_80 ?_
        refine wf_iload_n 1 dX9_word_83 rfl ?_
        refine wf_ishr (nI ((g 9 2) >>> j)) dX9_word_84 (nI_shr (by omega) (by omega)) ?_
        refine wf_iconst (nI 1) dX9_word_85 (by decide) ?_
        refine wf_iand (nI (((g 9 2) >>> j) &&& 1)) dX9_word_86 (nI_land (Nat.lt_of_le_of_lt (Nat.shiftRight_le _ _) (by omega)) (by decide)) ?_
        exact wf_iret .int rfl (vp_nar_int _) ⟨rfl, rfl⟩ (pm_of (by unfold sp_word; rw [if_neg (by rw [c5]; decide), if_neg t1, if_pos t3, nI_clamp (by omega), nI_clamp (by omega)]; unfold vWord; rw [if_neg s15_0, if_neg s15_1, if_neg s15_2, if_neg s15_3, if_pos s15_4]; unfold eGone; rw [b_and1]; rfl) ⟨_, _, hJ, rfl⟩) dX9_word_87
      by_cases s15_5 : k = 5
      · refine wf_tableIn 88 dX9_word_15 (by rw [s15_5]; decide) (by rw [s15_5]; decide) (by rw [s15_5]; rfl) (by decide) ?_
        refine wf_aload_n 0 dX9_word_88 rfl ?_
        refine wf_getf (C := RX9) (T := TX9) (N := 27) (v := .int (nI (g 9 3))) 0 12 in_X9 rfl rfl (by decide) fl_X9_139 rfl dX9_word_89 ?_
        refine wf_bipush (nI 8) dX9_word_92 (by decide) ?_
        refine wf_icmp_ne_n 101 dX9_word_94 (by decide) (by omega) (by omega) (fun c94 => ?_) (fun c94 => ?_)
        · refine wf_aload_n 0 dX9_word_101 rfl ?_
          refine wf_getf (C := RX9) (T := TX9) (N := 27) (v := .ref (am 10)) 0 9 in_X9 rfl rfl (by decide) fl_X9_37 rfl dX9_word_102 ?_
          refine wf_aload_n 0 dX9_word_105 rfl ?_
          refine wf_getf (C := RX9) (T := TX9) (N := 27) (v := .int (nI (g 9 3))) 0 12 in_X9 rfl rfl (by decide) fl_X9_139 rfl dX9_word_106 ?_
          refine wf_iald_n (nI (g 8 (g 9 3))) 10 rfl (by omega) (by decide) rfl dX9_word_109 ?_
          refine wf_iload_n 1 dX9_word_110 rfl ?_
          refine wf_ishr (nI ((g 8 (g 9 3)) >>> j)) dX9_word_111 (nI_shr (by have := hI.wat (g 9 3); omega) (by omega)) ?_
          refine wf_iconst (nI 1) dX9_word_112 (by decide) ?_
          refine wf_iand (nI (((g 8 (g 9 3)) >>> j) &&& 1)) dX9_word_113 (nI_land (Nat.lt_of_le_of_lt (Nat.shiftRight_le _ _) (by have := hI.wat (g 9 3); omega)) (by decide)) ?_
          exact wf_iret .int rfl (vp_nar_int _) ⟨rfl, rfl⟩ (pm_of (by unfold sp_word; rw [if_neg (by rw [c5]; decide), if_neg t1, if_pos t3, nI_clamp (by omega), nI_clamp (by omega)]; unfold vWord; rw [if_neg s15_0, if_neg s15_1, if_neg s15_2, if_neg s15_3, if_neg s15_4]; unfold eWat; rw [decide_eq_true (by omega), Bool.true_and, b_and1]; rfl) ⟨_, _, hJ, rfl⟩) dX9_word_114
        · refine wf_iconst (nI 0) dX9_word_97 (by decide) ?_
          refine wf_goto 114 dX9_word_98 (by decide) ?_
          exact wf_iret .int rfl (vp_nar_int _) ⟨rfl, rfl⟩ (pm_of (by unfold sp_word; rw [if_neg (by rw [c5]; decide), if_neg t1, if_pos t3, nI_clamp (by omega), nI_clamp (by omega)]; unfold vWord; rw [if_neg s15_0, if_neg s15_1, if_neg s15_2, if_neg s15_3, if_neg s15_4]; unfold eWat; rw [decide_eq_false (by omega), Bool.false_and]; rfl) ⟨_, _, hJ, rfl⟩) dX9_word_114
      refine wf_tableOut 115 dX9_word_15 (by rw [nI_toInt (by omega)]; omega) (by decide) ?_
      refine wf_aload_n 0 dX9_word_115 rfl ?_
      refine wf_bipush (-2) dX9_word_116 (by decide) ?_
      refine wf_callVD (As := [.int (-2)]) (rest := []) 0 (c_X9_no (k := 2) (by decide)) kV_X9_73 rfl (by decide) (by decide) (Nat.le_of_ble_eq_true rfl) rfl rfl rfl dX9_word_118 ?_
      exact wf_iret .int rfl (vp_nar_int _) ⟨rfl, rfl⟩ (pm_of (by exfalso; omega) ⟨_, _, hJ, rfl⟩) dX9_word_121
  · refine wf_aload_n 0 dX9_word_8 rfl ?_
    refine wf_iconst (-1) dX9_word_9 (by decide) ?_
    refine wf_callVD (As := [.int (-1)]) (rest := []) 0 (c_X9_no (k := 1) (by decide)) kV_X9_73 rfl (by decide) (by decide) (Nat.le_of_ble_eq_true rfl) rfl rfl rfl dX9_word_10 ?_
    exact wf_iret .int rfl (vp_nar_int _) ⟨rfl, rfl⟩ (pm_of (by unfold sp_word; rw [if_pos c5]; rfl) ⟨_, _, hJ, rfl⟩) dX9_word_13
abbrev rmX9_bird : Room := { frames := 3, cells := 0, slots := 0, locals := 67 }
set_option maxHeartbeats 4000000 in
set_option maxRecDepth 100000 in
theorem c_X9_bird {l : Launch} {E : Ev} {x z : Int32} {gi : Gd} {g y j : Gd} {td : Nat → Int32} {am : Nat → Nat} {r : va_W} (hI : Inv g) (hJ : IH j gi) (hy : YI y)  : CT l E yX9_bird cX9_bird 3 (some .int) rmX9_bird [.ref (am 0), .int x, .int z] (wm E am g y j td ++ r) (PM E am r (sp_bird g y x z) gi) := by
  refine CT.of (lv := [(0, .ref (am 0)), (1, .int x), (2, .int z)]) false (by decide +kernel) (by decide) (Nat.le_of_ble_eq_true rfl) rfl ?_
  have f0 := hI.words
  have f1 := hI.birds
  have f2 := hI.gone
  have f3 := hI.hour
  obtain ⟨y00, y01, y02, y1, y2⟩ := id hy
  refine wf_aload_n 0 dX9_bird_0 rfl ?_
  refine wf_iload_n 1 dX9_bird_1 rfl ?_
  refine wf_callVD (As := [.int x]) (rest := []) 0 (c_X9_isBird) kV_X9_172 rfl (by decide) (by decide) (Nat.le_of_ble_eq_true rfl) rfl rfl rfl dX9_bird_2 ?_
  refine wf_if_ne_b 14 dX9_bird_5 (by decide) (fun c5 => ?_) (fun c5 => ?_)
  · obtain ⟨j, hj, rfl⟩ := eHas_i (by omega) c5
    by_cases t1 : z < 0
    · refine wf_iload_n 2 dX9_bird_14 rfl ?_
      refine wf_tableOut 96 dX9_bird_15 (Or.inl (lt_toInt0 t1)) (by decide) ?_
      refine wf_aload_n 0 dX9_bird_96 rfl ?_
      refine wf_bipush (-2) dX9_bird_97 (by decide) ?_
      refine wf_callVD (As := [.int (-2)]) (rest := []) 0 (c_X9_no (k := 2) (by decide)) kV_X9_73 rfl (by decide) (by decide) (Nat.le_of_ble_eq_true rfl) rfl rfl rfl dX9_bird_99 ?_
      exact wf_iret .int rfl (vp_nar_int _) ⟨rfl, rfl⟩ (pm_of (by unfold sp_bird; rw [if_neg (by rw [c5]; decide), if_pos t1]; rfl) ⟨_, _, hJ, rfl⟩) dX9_bird_102
    by_cases t2 : ¬ z < nI 5
    · refine wf_iload_n 2 dX9_bird_14 rfl ?_
      refine wf_tableOut 96 dX9_bird_15 (Or.inr (by have := ge_toInt (k := 5) (by decide) t2; omega)) (by decide) ?_
      refine wf_aload_n 0 dX9_bird_96 rfl ?_
      refine wf_bipush (-2) dX9_bird_97 (by decide) ?_
      refine wf_callVD (As := [.int (-2)]) (rest := []) 0 (c_X9_no (k := 2) (by decide)) kV_X9_73 rfl (by decide) (by decide) (Nat.le_of_ble_eq_true rfl) rfl rfl rfl dX9_bird_99 ?_
      exact wf_iret .int rfl (vp_nar_int _) ⟨rfl, rfl⟩ (pm_of (by unfold sp_bird; rw [if_neg (by rw [c5]; decide), if_neg t1, if_neg t2]; rfl) ⟨_, _, hJ, rfl⟩) dX9_bird_102
    · have t3 : z < nI 5 := Decidable.not_not.mp t2
      obtain ⟨k, hk, rfl⟩ := i_n (k := 5) (by decide) t1 t3
      refine wf_iload_n 2 dX9_bird_14 rfl ?_
      by_cases s15_0 : k = 0
      · refine wf_tableIn 48 dX9_bird_15 (by rw [s15_0]; decide) (by rw [s15_0]; decide) (by rw [s15_0]; rfl) (by decide) ?_
        refine wf_aload_n 0 dX9_bird_48 rfl ?_
        refine wf_getf (C := RX9) (T := TX9) (N := 27) (v := .ref (am 5)) 0 4 in_X9 rfl rfl (by decide) fl_X9_22 rfl dX9_bird_49 ?_
        refine wf_iload_n 1 dX9_bird_52 rfl ?_
        refine wf_iald_n (nI (g 3 j)) 5 rfl (by omega) (by decide) rfl dX9_bird_53 ?_
        exact wf_iret .int rfl (vp_nar_int _) ⟨rfl, rfl⟩ (pm_of (by unfold sp_bird; rw [if_neg (by rw [c5]; decide), if_neg t1, if_pos t3, nI_clamp (by omega), nI_clamp (by omega)]; unfold vBird; rw [if_pos s15_0]; rfl) ⟨_, _, hJ, rfl⟩) dX9_bird_54
      by_cases s15_1 : k = 1
      · refine wf_tableIn 55 dX9_bird_15 (by rw [s15_1]; decide) (by rw [s15_1]; decide) (by rw [s15_1]; rfl) (by decide) ?_
        refine wf_aload_n 0 dX9_bird_55 rfl ?_
        refine wf_getf (C := RX9) (T := TX9) (N := 27) (v := .ref (am 6)) 0 5 in_X9 rfl rfl (by decide) fl_X9_25 rfl dX9_bird_56 ?_
        refine wf_iload_n 1 dX9_bird_59 rfl ?_
        refine wf_iald_n (nI (g 4 j)) 6 rfl (by omega) (by decide) rfl dX9_bird_60 ?_
        exact wf_iret .int rfl (vp_nar_int _) ⟨rfl, rfl⟩ (pm_of (by unfold sp_bird; rw [if_neg (by rw [c5]; decide), if_neg t1, if_pos t3, nI_clamp (by omega), nI_clamp (by omega)]; unfold vBird; rw [if_neg s15_0, if_pos s15_1]; rfl) ⟨_, _, hJ, rfl⟩) dX9_bird_61
      by_cases s15_2 : k = 2
      · refine wf_tableIn 62 dX9_bird_15 (by rw [s15_2]; decide) (by rw [s15_2]; decide) (by rw [s15_2]; rfl) (by decide) ?_
        refine wf_aload_n 0 dX9_bird_62 rfl ?_
        refine wf_getf (C := RX9) (T := TX9) (N := 27) (v := .ref (am 7)) 0 6 in_X9 rfl rfl (by decide) fl_X9_28 rfl dX9_bird_63 ?_
        refine wf_iload_n 1 dX9_bird_66 rfl ?_
        refine wf_iald_n (nI (g 5 j)) 7 rfl (by omega) (by decide) rfl dX9_bird_67 ?_
        exact wf_iret .int rfl (vp_nar_int _) ⟨rfl, rfl⟩ (pm_of (by unfold sp_bird; rw [if_neg (by rw [c5]; decide), if_neg t1, if_pos t3, nI_clamp (by omega), nI_clamp (by omega)]; unfold vBird; rw [if_neg s15_0, if_neg s15_1, if_pos s15_2]; rfl) ⟨_, _, hJ, rfl⟩) dX9_bird_68
      by_cases s15_3 : k = 3
      · refine wf_tableIn 69 dX9_bird_15 (by rw [s15_3]; decide) (by rw [s15_3]; decide) (by rw [s15_3]; rfl) (by decide) ?_
        refine wf_aload_n 0 dX9_bird_69 rfl ?_
        refine wf_getf (C := RX9) (T := TX9) (N := 27) (v := .ref (am 8)) 0 7 in_X9 rfl rfl (by decide) fl_X9_31 rfl dX9_bird_70 ?_
        refine wf_iload_n 1 dX9_bird_73 rfl ?_
        refine wf_iald_n (nI (g 6 j)) 8 rfl (by omega) (by decide) rfl dX9_bird_74 ?_
        exact wf_iret .int rfl (vp_nar_int _) ⟨rfl, rfl⟩ (pm_of (by unfold sp_bird; rw [if_neg (by rw [c5]; decide), if_neg t1, if_pos t3, nI_clamp (by omega), nI_clamp (by omega)]; unfold vBird; rw [if_neg s15_0, if_neg s15_1, if_neg s15_2, if_pos s15_3]; rfl) ⟨_, _, hJ, rfl⟩) dX9_bird_75
      by_cases s15_4 : k = 4
      · refine wf_tableIn 76 dX9_bird_15 (by rw [s15_4]; decide) (by rw [s15_4]; decide) (by rw [s15_4]; rfl) (by decide) ?_
        refine wf_aload_n 0 dX9_bird_76 rfl ?_
        refine wf_getf (C := RX9) (T := TX9) (N := 27) (v := .int (nI (g 9 3))) 0 12 in_X9 rfl rfl (by decide) fl_X9_139 rfl dX9_bird_77 ?_
        refine wf_bipush (nI 8) dX9_bird_80 (by decide) ?_
        refine wf_icmp_ne_n 90 dX9_bird_82 (by decide) (by omega) (by omega) (fun c82 => ?_) (fun c82 => ?_)
        · refine wf_aload_n 0 dX9_bird_90 rfl ?_
          refine wf_iload_n 1 dX9_bird_91 rfl ?_
          refine wf_callVD (As := [.int (nI j)]) (rest := []) 0 (c_X9_eatsBy hI (by omega) (by omega)) kV_X9_160 rfl (by decide) (by decide) (Nat.le_of_ble_eq_true rfl) rfl rfl rfl dX9_bird_92 ?_
          exact wf_iret .int rfl (vp_nar_int _) ⟨rfl, rfl⟩ (pm_of (by unfold sp_bird; rw [if_neg (by rw [c5]; decide), if_neg t1, if_pos t3, nI_clamp (by omega), nI_clamp (by omega)]; unfold vBird; rw [if_neg s15_0, if_neg s15_1, if_neg s15_2, if_neg s15_3]; rfl) ⟨_, _, hJ, rfl⟩) dX9_bird_95
        · refine wf_bipush (-9) dX9_bird_85 (by decide) ?_
          refine wf_goto 95 dX9_bird_87 (by decide) ?_
          exact wf_iret .int rfl (vp_nar_int _) ⟨rfl, rfl⟩ (pm_of (by unfold sp_bird; rw [if_neg (by rw [c5]; decide), if_neg t1, if_pos t3, nI_clamp (by omega), nI_clamp (by omega)]; unfold vBird; rw [if_neg s15_0, if_neg s15_1, if_neg s15_2, if_neg s15_3]; rw [mCh_dusk (by omega)]; rfl) ⟨_, _, hJ, rfl⟩) dX9_bird_95
      refine wf_tableOut 96 dX9_bird_15 (by rw [nI_toInt (by omega)]; omega) (by decide) ?_
      refine wf_aload_n 0 dX9_bird_96 rfl ?_
      refine wf_bipush (-2) dX9_bird_97 (by decide) ?_
      refine wf_callVD (As := [.int (-2)]) (rest := []) 0 (c_X9_no (k := 2) (by decide)) kV_X9_73 rfl (by decide) (by decide) (Nat.le_of_ble_eq_true rfl) rfl rfl rfl dX9_bird_99 ?_
      exact wf_iret .int rfl (vp_nar_int _) ⟨rfl, rfl⟩ (pm_of (by exfalso; omega) ⟨_, _, hJ, rfl⟩) dX9_bird_102
  · refine wf_aload_n 0 dX9_bird_8 rfl ?_
    refine wf_iconst (-1) dX9_bird_9 (by decide) ?_
    refine wf_callVD (As := [.int (-1)]) (rest := []) 0 (c_X9_no (k := 1) (by decide)) kV_X9_73 rfl (by decide) (by decide) (Nat.le_of_ble_eq_true rfl) rfl rfl rfl dX9_bird_10 ?_
    exact wf_iret .int rfl (vp_nar_int _) ⟨rfl, rfl⟩ (pm_of (by unfold sp_bird; rw [if_pos c5]; rfl) ⟨_, _, hJ, rfl⟩) dX9_bird_13
theorem IH.im (j g : Gd) : IH (kq j (80 * 0) g 61) g := fun k hk => by
  have h := kq_has (j := j) (g := g) (c := 80 * 0) (m := 61) k hk
  rwa [Nat.mul_zero, Nat.zero_add] at h
theorem IH.at {j gi : Gd} (h : IH j gi) (k : Nat) (hk : k < 61) : j 5 (80 * 0 + k) = enc gi k := by
  rw [Nat.mul_zero, Nat.zero_add]; exact h k hk
abbrev rmX9_bitter : Room := { frames := 2, cells := 0, slots := 0, locals := 42 }
set_option maxHeartbeats 4000000 in
set_option maxRecDepth 100000 in
theorem c_X9_bitter {l : Launch} {E : Ev} {x z : Int32} {gi : Gd} {g y j : Gd} {td : Nat → Int32} {am : Nat → Nat} {r : va_W} (hI : Inv g) (hJ : IH j gi) (hy : YI y)  : CT l E yX9_bitter cX9_bitter 5 (some .int) rmX9_bitter [.ref (am 0), .int x, .int z] (wm E am g y j td ++ r) (PM E am r (sp_bitter g y x z) gi) := by
  refine CT.of (lv := [(0, .ref (am 0)), (1, .int x), (2, .int z)]) false (by decide +kernel) (by decide) (Nat.le_of_ble_eq_true rfl) rfl ?_
  have f0 := hI.words
  have f1 := hI.birds
  have f2 := hI.gone
  have f3 := hI.hour
  obtain ⟨y00, y01, y02, y1, y2⟩ := id hy
  refine wf_iload_n 1 dX9_bitter_0 rfl ?_
  refine wf_callSD (As := [.int x]) (rest := []) (c_X9_isInk) kS_X9_175 rfl (by decide) (by decide) (Nat.le_of_ble_eq_true rfl) rfl dX9_bitter_1 ?_
  refine wf_if_ne_b 11 dX9_bitter_4 (by decide) (fun c4 => ?_) (fun c4 => ?_)
  · refine wf_iload_n 2 dX9_bitter_11 rfl ?_
    refine wf_iconst (nI 0) dX9_bitter_12 (by decide) ?_
    refine wf_bipush (nI 9) dX9_bitter_13 (by decide) ?_
    refine wf_callSD (As := [.int z, .int (nI 0), .int (nI 9)]) (rest := []) (c_X9_bound) kS_X9_66 rfl (by decide) (by decide) (Nat.le_of_ble_eq_true rfl) rfl dX9_bitter_15 ?_
    refine wf_istore_n [(3, .int (eBd z (nI 0) (nI 9))), (0, .ref (am 0)), (1, .int x), (2, .int z)] dX9_bitter_18 rfl (by decide) rfl ?_
    by_cases b1 : z < (0 : Int32)
    · refine wf_lvc [(3, .int (-4)), (0, .ref (am 0)), (1, .int x), (2, .int z)] (by rw [show eBd z (nI 0) (nI 9) = (-4) from by unfold eBd; rw [nI_0, if_pos b1]]) ?_
      refine wf_iload_n 0 dX9_bitter_19 rfl ?_
      refine wf_if_eq 29 dX9_bitter_20 (by decide) (fun c20 => ?_) (fun c20 => ?_)
      · exact absurd c20 (by decide)
      · refine wf_aload_n 1 dX9_bitter_23 rfl ?_
        refine wf_iload_n 0 dX9_bitter_24 rfl ?_
        refine wf_callVD (As := [.int (-4)]) (rest := []) 0 (c_X9_no (k := 4) (by decide)) kV_X9_73 rfl (by decide) (by decide) (Nat.le_of_ble_eq_true rfl) rfl rfl rfl dX9_bitter_25 ?_
        exact wf_iret .int rfl (vp_nar_int _) ⟨rfl, rfl⟩ (pm_of (by unfold sp_bitter; rw [if_neg (by rw [c4]; decide), if_pos b1]; rfl) ⟨_, _, hJ, rfl⟩) dX9_bitter_28
    by_cases b2 : nI 9 < z
    · refine wf_lvc [(3, .int (-6)), (0, .ref (am 0)), (1, .int x), (2, .int z)] (by rw [show eBd z (nI 0) (nI 9) = (-6) from by unfold eBd; rw [nI_0, if_neg b1, if_pos b2]]) ?_
      refine wf_iload_n 0 dX9_bitter_19 rfl ?_
      refine wf_if_eq 29 dX9_bitter_20 (by decide) (fun c20 => ?_) (fun c20 => ?_)
      · exact absurd c20 (by decide)
      · refine wf_aload_n 1 dX9_bitter_23 rfl ?_
        refine wf_iload_n 0 dX9_bitter_24 rfl ?_
        refine wf_callVD (As := [.int (-6)]) (rest := []) 0 (c_X9_no (k := 6) (by decide)) kV_X9_73 rfl (by decide) (by decide) (Nat.le_of_ble_eq_true rfl) rfl rfl rfl dX9_bitter_25 ?_
        exact wf_iret .int rfl (vp_nar_int _) ⟨rfl, rfl⟩ (pm_of (by unfold sp_bitter; rw [if_neg (by rw [c4]; decide), if_neg b1, if_pos b2]; rfl) ⟨_, _, hJ, rfl⟩) dX9_bitter_28
    · refine wf_lvc [(3, .int (nI 0)), (0, .ref (am 0)), (1, .int x), (2, .int z)] (by rw [show eBd z (nI 0) (nI 9) = (nI 0) from by unfold eBd; rw [nI_0, if_neg b1, if_neg b2]]) ?_
      obtain ⟨i, hi, rfl⟩ := eHas_i (by decide) c4
      obtain ⟨n, hn, rfl⟩ := i_le (k := 9) (by decide) b1 b2
      refine wf_iload_n 0 dX9_bitter_19 rfl ?_
      refine wf_if_eq_n 29 dX9_bitter_20 (by decide) (by decide) (fun c20 => ?_) (fun c20 => ?_)
      · refine wf_aload_n 1 dX9_bitter_29 rfl ?_
        refine wf_getf (C := RX9) (T := TX9) (N := 27) (v := .ref (am 9)) 0 8 in_X9 rfl rfl (by decide) fl_X9_34 rfl dX9_bitter_30 ?_
        refine wf_iload_n 2 dX9_bitter_33 rfl ?_
        refine wf_iald_n (nI (g 7 i)) 9 rfl (by omega) (by decide) rfl dX9_bitter_34 ?_
        refine wf_istore [(4, .int (nI (g 7 i))), (3, .int (nI 0)), (0, .ref (am 0)), (1, .int (nI i)), (2, .int (nI n))] dX9_bitter_35 (by decide) rfl ?_
        refine wf_aload_n 2 dX9_bitter_37 rfl ?_
        refine wf_getf (C := RX9) (T := TX9) (N := 27) (v := .ref (am 9)) 0 8 in_X9 rfl rfl (by decide) fl_X9_34 rfl dX9_bitter_38 ?_
        refine wf_iload_n 3 dX9_bitter_41 rfl ?_
        refine wf_iload_n 4 dX9_bitter_42 rfl ?_
        refine wf_iast_n (wm E am (gs g 7 i n) y j td ++ r) 9 rfl (by omega) (by decide) (sf 9 (Nat.le_of_ble_eq_true rfl) (wm_set7 i n)) dX9_bitter_43 ?_
        refine wf_iload 0 dX9_bitter_44 rfl ?_
        exact wf_iret .int rfl (vp_nar_int _) ⟨rfl, rfl⟩ (pm_of (by unfold sp_bitter; rw [if_neg (by rw [c4]; decide), if_neg b1, if_neg b2, nI_clamp (by omega), nI_clamp (by omega)]) ⟨_, _, hJ, rfl⟩) dX9_bitter_46
      · exact absurd rfl c20
  · refine wf_iconst (-1) dX9_bitter_7 (by decide) ?_
    refine wf_goto 18 dX9_bitter_8 (by decide) ?_
    refine wf_istore_n [(3, .int (-1)), (0, .ref (am 0)), (1, .int x), (2, .int z)] dX9_bitter_18 rfl (by decide) rfl ?_
    refine wf_iload_n 0 dX9_bitter_19 rfl ?_
    refine wf_if_eq 29 dX9_bitter_20 (by decide) (fun c20 => ?_) (fun c20 => ?_)
    · exact absurd c20 (by decide)
    · refine wf_aload_n 1 dX9_bitter_23 rfl ?_
      refine wf_iload_n 0 dX9_bitter_24 rfl ?_
      refine wf_callVD (As := [.int (-1)]) (rest := []) 0 (c_X9_no (k := 1) (by decide)) kV_X9_73 rfl (by decide) (by decide) (Nat.le_of_ble_eq_true rfl) rfl rfl rfl dX9_bitter_25 ?_
      exact wf_iret .int rfl (vp_nar_int _) ⟨rfl, rfl⟩ (pm_of (by unfold sp_bitter; rw [if_pos c4]; rfl) ⟨_, _, hJ, rfl⟩) dX9_bitter_28
abbrev rmX9_ink : Room := { frames := 2, cells := 0, slots := 0, locals := 42 }
set_option maxHeartbeats 4000000 in
set_option maxRecDepth 100000 in
theorem c_X9_ink {l : Launch} {E : Ev} {x z : Int32} {gi : Gd} {g y j : Gd} {td : Nat → Int32} {am : Nat → Nat} {r : va_W} (hI : Inv g) (hJ : IH j gi) (hy : YI y)  : CT l E yX9_ink cX9_ink 4 (some .int) rmX9_ink [.ref (am 0), .int x, .int z] (wm E am g y j td ++ r) (PM E am r (sp_ink g y x z) gi) := by
  refine CT.of (lv := [(0, .ref (am 0)), (1, .int x), (2, .int z)]) false (by decide +kernel) (by decide) (Nat.le_of_ble_eq_true rfl) rfl ?_
  have f0 := hI.words
  have f1 := hI.birds
  have f2 := hI.gone
  have f3 := hI.hour
  obtain ⟨y00, y01, y02, y1, y2⟩ := id hy
  refine wf_aload_n 0 dX9_ink_0 rfl ?_
  refine wf_iload_n 1 dX9_ink_1 rfl ?_
  refine wf_callVD (As := [.int x]) (rest := []) 0 (c_X9_isWord) kV_X9_102 rfl (by decide) (by decide) (Nat.le_of_ble_eq_true rfl) rfl rfl rfl dX9_ink_2 ?_
  refine wf_if_eq_b 15 dX9_ink_5 (by decide) (fun c5 => ?_) (fun c5 => ?_)
  · refine wf_aload_n 0 dX9_ink_15 rfl ?_
    refine wf_iconst (-1) dX9_ink_16 (by decide) ?_
    refine wf_callVD (As := [.int (-1)]) (rest := []) 0 (c_X9_no (k := 1) (by decide)) kV_X9_73 rfl (by decide) (by decide) (Nat.le_of_ble_eq_true rfl) rfl rfl rfl dX9_ink_17 ?_
    exact wf_iret .int rfl (vp_nar_int _) ⟨rfl, rfl⟩ (pm_of (by unfold sp_ink; rw [if_pos c5]; rfl) ⟨_, _, hJ, rfl⟩) dX9_ink_20
  · refine wf_iload_n 2 dX9_ink_8 rfl ?_
    refine wf_callSD (As := [.int z]) (rest := []) (c_X9_isInk) kS_X9_175 rfl (by decide) (by decide) (Nat.le_of_ble_eq_true rfl) rfl dX9_ink_9 ?_
    refine wf_if_ne_b 21 dX9_ink_12 (by decide) (fun c12 => ?_) (fun c12 => ?_)
    · obtain ⟨i, hi, rfl⟩ := eHas_i (by omega) c5
      obtain ⟨n, hn, rfl⟩ := eHas_i (by decide) c12
      refine wf_aload_n 0 dX9_ink_21 rfl ?_
      refine wf_getf (C := RX9) (T := TX9) (N := 27) (v := .ref (am 3)) 0 2 in_X9 rfl rfl (by decide) fl_X9_16 rfl dX9_ink_22 ?_
      refine wf_iload_n 1 dX9_ink_25 rfl ?_
      refine wf_iald_n (nI (g 1 i)) 3 rfl (by omega) (by decide) rfl dX9_ink_26 ?_
      refine wf_istore_n [(3, .int (nI (g 1 i))), (0, .ref (am 0)), (1, .int (nI i)), (2, .int (nI n))] dX9_ink_27 rfl (by decide) rfl ?_
      refine wf_aload_n 1 dX9_ink_28 rfl ?_
      refine wf_getf (C := RX9) (T := TX9) (N := 27) (v := .ref (am 3)) 0 2 in_X9 rfl rfl (by decide) fl_X9_16 rfl dX9_ink_29 ?_
      refine wf_iload_n 2 dX9_ink_32 rfl ?_
      refine wf_iload_n 3 dX9_ink_33 rfl ?_
      refine wf_iast_n (wm E am (gs g 1 i n) y j td ++ r) 3 rfl (by omega) (by decide) (sf 3 (Nat.le_of_ble_eq_true rfl) (wm_set1 i n)) dX9_ink_34 ?_
      refine wf_iload_n 0 dX9_ink_35 rfl ?_
      exact wf_iret .int rfl (vp_nar_int _) ⟨rfl, rfl⟩ (pm_of (by unfold sp_ink; rw [if_neg (by rw [c5]; decide), if_neg (by rw [c12]; decide), nI_clamp (by omega), nI_clamp (by omega)]) ⟨_, _, hJ, rfl⟩) dX9_ink_36
    · refine wf_aload_n 0 dX9_ink_15 rfl ?_
      refine wf_iconst (-1) dX9_ink_16 (by decide) ?_
      refine wf_callVD (As := [.int (-1)]) (rest := []) 0 (c_X9_no (k := 1) (by decide)) kV_X9_73 rfl (by decide) (by decide) (Nat.le_of_ble_eq_true rfl) rfl rfl rfl dX9_ink_17 ?_
      exact wf_iret .int rfl (vp_nar_int _) ⟨rfl, rfl⟩ (pm_of (by unfold sp_ink; rw [if_neg (by rw [c5]; decide), if_pos c12]; rfl) ⟨_, _, hJ, rfl⟩) dX9_ink_20
abbrev rmX9_hour : Room := { frames := 5, cells := 0, slots := 0, locals := 111 }
set_option maxHeartbeats 4000000 in
set_option maxRecDepth 100000 in
theorem c_X9_hour {l : Launch} {E : Ev}  {gi : Gd} {g y j : Gd} {td : Nat → Int32} {am : Nat → Nat} {r : va_W} (hI : Inv g) (hJ : IH j gi) (hy : YI y)  : CT l E yX9_hour cX9_hour 1 (some .int) rmX9_hour [.ref (am 0)] (wm E am g y j td ++ r) (PM E am r (sp_hour g y) gi) := by
  refine CT.of (lv := [(0, .ref (am 0))]) false (by decide +kernel) (by decide) (Nat.le_of_ble_eq_true rfl) rfl ?_
  have f0 := hI.words
  have f1 := hI.birds
  have f2 := hI.gone
  have f3 := hI.hour
  obtain ⟨y00, y01, y02, y1, y2⟩ := id hy
  refine wf_aload_n 0 dX9_hour_0 rfl ?_
  refine wf_getf (C := RX9) (T := TX9) (N := 27) (v := .int (nI (g 9 3))) 0 12 in_X9 rfl rfl (by decide) fl_X9_139 rfl dX9_hour_1 ?_
  refine wf_bipush (nI 8) dX9_hour_4 (by decide) ?_
  refine wf_icmp_ne_n 18 dX9_hour_6 (by decide) (by omega) (by omega) (fun c6 => ?_) (fun c6 => ?_)
  · refine wf_aload_n 0 dX9_hour_18 rfl ?_
    refine wf_callVD (As := []) (rest := []) 0 (c_X9_goesHour hI (by omega)) kV_X9_166 rfl (by decide) (by decide) (Nat.le_of_ble_eq_true rfl) rfl rfl rfl dX9_hour_19 ?_
    exact wf_iret .int rfl (vp_nar_int _) ⟨rfl, rfl⟩ (pm_of (by unfold sp_hour; rw [if_neg (by omega), nI_subZ (eHr_le hI)]) ⟨_, _, hJ, rfl⟩) dX9_hour_22
  · refine wf_aload_n 0 dX9_hour_9 rfl ?_
    refine wf_bipush (-3) dX9_hour_10 (by decide) ?_
    refine wf_callVD (As := [.int (-3)]) (rest := []) 0 (c_X9_no (k := 3) (by decide)) kV_X9_73 rfl (by decide) (by decide) (Nat.le_of_ble_eq_true rfl) rfl rfl rfl dX9_hour_12 ?_
    refine wf_goto 22 dX9_hour_15 (by decide) ?_
    exact wf_iret .int rfl (vp_nar_int _) ⟨rfl, rfl⟩ (pm_of (by unfold sp_hour; rw [if_pos (by omega)]; rfl) ⟨_, _, hJ, rfl⟩) dX9_hour_22
theorem an_sw (g : Gd) : gs (gs g 9 2 0) 9 3 0 = gs (gs g 9 3 0) 9 2 0 := by
  funext a i
  show (if a = 9 ∧ i = 3 then 0 else if a = 9 ∧ i = 2 then 0 else g a i) = (if a = 9 ∧ i = 2 then 0 else if a = 9 ∧ i = 3 then 0 else g a i)
  by_cases h : a = 9 ∧ i = 3
  · rw [if_pos h, if_neg (by omega), if_pos h]
  · rw [if_neg h, if_neg h]
abbrev rmX9_anew : Room := { frames := 0, cells := 0, slots := 0, locals := 0 }
set_option maxHeartbeats 4000000 in
set_option maxRecDepth 100000 in
theorem c_X9_anew {l : Launch} {E : Ev}  {gi : Gd} {g y j : Gd} {td : Nat → Int32} {am : Nat → Nat} {r : va_W} (hI : Inv g) (hJ : IH j gi) (hy : YI y)  : CT l E yX9_anew cX9_anew 1 (some .int) rmX9_anew [.ref (am 0)] (wm E am g y j td ++ r) (PM E am r (sp_anew g y) gi) := by
  refine CT.of (lv := [(0, .ref (am 0))]) false (by decide +kernel) (by decide) (Nat.le_of_ble_eq_true rfl) rfl ?_
  have f0 := hI.words
  have f1 := hI.birds
  have f2 := hI.gone
  have f3 := hI.hour
  obtain ⟨y00, y01, y02, y1, y2⟩ := id hy
  refine wf_aload_n 0 dX9_anew_0 rfl ?_
  refine wf_iconst (nI 0) dX9_anew_1 (by decide) ?_
  refine wf_putf (C := RX9) (T := TX9) (N := 27) (ty := .int) 0 12 (wm E am (gs g 9 3 0) y j td ++ r) tyX9 in_X9 tyX9_ok nmX9 rfl rfl (by decide) fl_X9_139 rfl (by decide +kernel) (by rfl) rfl (Nat.le_of_ble_eq_true rfl) (sf 0 (Nat.le_of_ble_eq_true rfl) (wm_put12 0)) dX9_anew_2 ?_
  refine wf_aload_n 0 dX9_anew_5 rfl ?_
  refine wf_iconst (nI 0) dX9_anew_6 (by decide) ?_
  refine wf_putf (C := RX9) (T := TX9) (N := 27) (ty := .int) 0 13 (wm E am (gs (gs g 9 3 0) 9 2 0) y j td ++ r) tyX9 in_X9 tyX9_ok nmX9 rfl rfl (by decide) fl_X9_142 rfl (by decide +kernel) (by rfl) rfl (Nat.le_of_ble_eq_true rfl) (sf 0 (Nat.le_of_ble_eq_true rfl) (wm_put13 0)) dX9_anew_7 ?_
  refine wf_aload_n 0 dX9_anew_10 rfl ?_
  refine wf_getf (C := RX9) (T := TX9) (N := 27) (v := .int (nI (g 9 0))) 0 10 in_X9 rfl rfl (by decide) fl_X9_59 rfl dX9_anew_11 ?_
  exact wf_iret .int rfl (vp_nar_int _) ⟨rfl, rfl⟩ (pm_of (by unfold sp_anew; rw [an_sw]) ⟨_, _, hJ, rfl⟩) dX9_anew_14
theorem mE_8 {g : Gd} {w : Nat} (h : mGi g w = 8) : (if eGone g w = true then (9 : Int32) else if eGoes g w (8 - g 9 3) = 8 then -9 else nI (eGoes g w (8 - g 9 3))) = -9 := by
  unfold mGi at h
  cases hg : eGone g w
  · rw [hg, if_neg (by decide)] at h
    rw [if_neg (by decide), if_pos h]
  · rw [hg, if_pos rfl] at h; omega
theorem mE_n {g : Gd} {w : Nat} (h : ¬ mGi g w = 8) : (if eGone g w = true then (9 : Int32) else if eGoes g w (8 - g 9 3) = 8 then -9 else nI (eGoes g w (8 - g 9 3))) = nI (mGi g w) := by
  unfold mGi at h ⊢
  cases hg : eGone g w
  · rw [hg, if_neg (by decide)] at h
    rw [if_neg (by decide), if_neg h, if_neg (by decide)]
  · rw [if_pos rfl, if_pos rfl]; rfl
abbrev rmX9_eaten : Room := { frames := 6, cells := 0, slots := 0, locals := 135 }
set_option maxHeartbeats 4000000 in
set_option maxRecDepth 100000 in
theorem c_X9_eaten {l : Launch} {E : Ev} {x : Int32} {gi : Gd} {g y j : Gd} {td : Nat → Int32} {am : Nat → Nat} {r : va_W} (hI : Inv g) (hJ : IH j gi) (hy : YI y)  : CT l E yX9_eaten cX9_eaten 3 (some .int) rmX9_eaten [.ref (am 0), .int x] (wm E am g y j td ++ r) (PM E am r (sp_eaten g y x) gi) := by
  refine CT.of (lv := [(0, .ref (am 0)), (1, .int x)]) false (by decide +kernel) (by decide) (Nat.le_of_ble_eq_true rfl) rfl ?_
  have f0 := hI.words
  have f1 := hI.birds
  have f2 := hI.gone
  have f3 := hI.hour
  obtain ⟨y00, y01, y02, y1, y2⟩ := id hy
  refine wf_aload_n 0 dX9_eaten_0 rfl ?_
  refine wf_iload_n 1 dX9_eaten_1 rfl ?_
  refine wf_callVD (As := [.int x]) (rest := []) 0 (c_X9_isWord) kV_X9_102 rfl (by decide) (by decide) (Nat.le_of_ble_eq_true rfl) rfl rfl rfl dX9_eaten_2 ?_
  refine wf_if_ne_b 14 dX9_eaten_5 (by decide) (fun c5 => ?_) (fun c5 => ?_)
  · obtain ⟨j, hj, rfl⟩ := eHas_i (by omega) c5
    refine wf_aload_n 0 dX9_eaten_14 rfl ?_
    refine wf_iload_n 1 dX9_eaten_15 rfl ?_
    refine wf_callVD (As := [.int (nI j)]) (rest := []) 0 (c_X9_goesIn hI (by omega)) kV_X9_178 rfl (by decide) (by decide) (Nat.le_of_ble_eq_true rfl) rfl rfl rfl dX9_eaten_16 ?_
    refine wf_istore_n [(2, .int (nI (mGi g j))), (0, .ref (am 0)), (1, .int (nI j))] dX9_eaten_19 rfl (by decide) rfl ?_
    have hle := mGi_le hI j
    refine wf_iload_n 0 dX9_eaten_20 rfl ?_
    refine wf_bipush (nI 8) dX9_eaten_21 (by decide) ?_
    refine wf_icmp_ne_n 31 dX9_eaten_23 (by decide) (by omega) (by omega) (fun c23 => ?_) (fun c23 => ?_)
    · refine wf_iload_n 0 dX9_eaten_31 rfl ?_
      exact wf_iret .int rfl (vp_nar_int _) ⟨rfl, rfl⟩ (pm_of (by unfold sp_eaten; rw [if_neg (by rw [c5]; decide), nI_clamp (by omega)]; unfold vEaten; rw [mE_n (by omega)]; rfl) ⟨_, _, hJ, rfl⟩) dX9_eaten_32
    · refine wf_bipush (-9) dX9_eaten_26 (by decide) ?_
      refine wf_goto 32 dX9_eaten_28 (by decide) ?_
      exact wf_iret .int rfl (vp_nar_int _) ⟨rfl, rfl⟩ (pm_of (by unfold sp_eaten; rw [if_neg (by rw [c5]; decide), nI_clamp (by omega)]; unfold vEaten; rw [mE_8 (by omega)]; rfl) ⟨_, _, hJ, rfl⟩) dX9_eaten_32
  · refine wf_aload_n 0 dX9_eaten_8 rfl ?_
    refine wf_iconst (-1) dX9_eaten_9 (by decide) ?_
    refine wf_callVD (As := [.int (-1)]) (rest := []) 0 (c_X9_no (k := 1) (by decide)) kV_X9_73 rfl (by decide) (by decide) (Nat.le_of_ble_eq_true rfl) rfl rfl rfl dX9_eaten_10 ?_
    exact wf_iret .int rfl (vp_nar_int _) ⟨rfl, rfl⟩ (pm_of (by unfold sp_eaten; rw [if_pos c5]; rfl) ⟨_, _, hJ, rfl⟩) dX9_eaten_13
abbrev rmX9_meanings : Room := { frames := 6, cells := 0, slots := 0, locals := 134 }
set_option maxHeartbeats 4000000 in
set_option maxRecDepth 100000 in
theorem c_X9_meanings {l : Launch} {E : Ev}  {gi : Gd} {g y j : Gd} {td : Nat → Int32} {am : Nat → Nat} {r : va_W} (hI : Inv g) (hJ : IH j gi) (hy : YI y)  : CT l E yX9_meanings cX9_meanings 1 (some .int) rmX9_meanings [.ref (am 0)] (wm E am g y j td ++ r) (PM E am r (sp_meanings g y) gi) := by
  refine CT.of (lv := [(0, .ref (am 0))]) false (by decide +kernel) (by decide) (Nat.le_of_ble_eq_true rfl) rfl ?_
  have f0 := hI.words
  have f1 := hI.birds
  have f2 := hI.gone
  have f3 := hI.hour
  obtain ⟨y00, y01, y02, y1, y2⟩ := id hy
  refine wf_aload_n 0 dX9_meanings_0 rfl ?_
  refine wf_aload_n 0 dX9_meanings_1 rfl ?_
  refine wf_callVD (As := []) (rest := [.ref (am 0)]) 0 (c_X9_leftAtDusk hI) kV_X9_181 rfl (by decide) (by decide) (Nat.le_of_ble_eq_true rfl) rfl rfl rfl dX9_meanings_2 ?_
  refine wf_callVD (As := [.int (nI (eLeft (eDk g)))]) (rest := []) 0 (c_X9_meaningsOf hI (hI.oHrs _).left) kV_X9_184 rfl (by decide) (by decide) (Nat.le_of_ble_eq_true rfl) rfl rfl rfl dX9_meanings_5 ?_
  exact wf_iret .int rfl (vp_nar_int _) ⟨rfl, rfl⟩ (pm_of (by unfold sp_meanings; rw [mMe_dk hI]; rfl) ⟨_, _, hJ, rfl⟩) dX9_meanings_8
abbrev rmX9_remain : Room := { frames := 6, cells := 0, slots := 0, locals := 134 }
set_option maxHeartbeats 4000000 in
set_option maxRecDepth 100000 in
theorem c_X9_remain {l : Launch} {E : Ev}  {gi : Gd} {g y j : Gd} {td : Nat → Int32} {am : Nat → Nat} {r : va_W} (hI : Inv g) (hJ : IH j gi) (hy : YI y)  : CT l E yX9_remain cX9_remain 1 (some .int) rmX9_remain [.ref (am 0)] (wm E am g y j td ++ r) (PM E am r (sp_remain g y) gi) := by
  refine CT.of (lv := [(0, .ref (am 0))]) false (by decide +kernel) (by decide) (Nat.le_of_ble_eq_true rfl) rfl ?_
  have f0 := hI.words
  have f1 := hI.birds
  have f2 := hI.gone
  have f3 := hI.hour
  obtain ⟨y00, y01, y02, y1, y2⟩ := id hy
  refine wf_aload_n 0 dX9_remain_0 rfl ?_
  refine wf_callVD (As := []) (rest := []) 0 (c_X9_leftAtDusk hI) kV_X9_181 rfl (by decide) (by decide) (Nat.le_of_ble_eq_true rfl) rfl rfl rfl dX9_remain_1 ?_
  refine wf_callSD (As := [.int (nI (eLeft (eDk g)))]) (rest := []) (c_X9_bits (hI.oHrs _).left) kS_X9_187 rfl (by decide) (by decide) (Nat.le_of_ble_eq_true rfl) rfl dX9_remain_4 ?_
  exact wf_iret .int rfl (vp_nar_int _) ⟨rfl, rfl⟩ (pm_of (by rfl) ⟨_, _, hJ, rfl⟩) dX9_remain_7
abbrev rmX9_danger : Room := { frames := 6, cells := 0, slots := 0, locals := 134 }
set_option maxHeartbeats 4000000 in
set_option maxRecDepth 100000 in
theorem c_X9_danger {l : Launch} {E : Ev}  {gi : Gd} {g y j : Gd} {td : Nat → Int32} {am : Nat → Nat} {r : va_W} (hI : Inv g) (hJ : IH j gi) (hy : YI y)  : CT l E yX9_danger cX9_danger 1 (some .int) rmX9_danger [.ref (am 0)] (wm E am g y j td ++ r) (PM E am r (sp_danger g y) gi) := by
  refine CT.of (lv := [(0, .ref (am 0))]) false (by decide +kernel) (by decide) (Nat.le_of_ble_eq_true rfl) rfl ?_
  have f0 := hI.words
  have f1 := hI.birds
  have f2 := hI.gone
  have f3 := hI.hour
  obtain ⟨y00, y01, y02, y1, y2⟩ := id hy
  refine wf_aload_n 0 dX9_danger_0 rfl ?_
  refine wf_aload_n 0 dX9_danger_1 rfl ?_
  refine wf_callVD (As := []) (rest := [.ref (am 0)]) 0 (c_X9_leftNow hI) kV_X9_169 rfl (by decide) (by decide) (Nat.le_of_ble_eq_true rfl) rfl rfl rfl dX9_danger_2 ?_
  refine wf_callVD (As := [.int (nI (eLeft g))]) (rest := []) 0 (c_X9_meaningsOf hI hI.left) kV_X9_184 rfl (by decide) (by decide) (Nat.le_of_ble_eq_true rfl) rfl rfl rfl dX9_danger_5 ?_
  refine wf_aload_n 0 dX9_danger_8 rfl ?_
  refine wf_aload_n 0 dX9_danger_9 rfl ?_
  refine wf_callVD (As := []) (rest := [.ref (am 0), .int (nI (mMe g (eLeft g) (g 9 0)))]) 0 (c_X9_leftAtDusk hI) kV_X9_181 rfl (by decide) (by decide) (Nat.le_of_ble_eq_true rfl) rfl rfl rfl dX9_danger_10 ?_
  refine wf_callVD (As := [.int (nI (eLeft (eDk g)))]) (rest := [.int (nI (mMe g (eLeft g) (g 9 0)))]) 0 (c_X9_meaningsOf hI (hI.oHrs _).left) kV_X9_184 rfl (by decide) (by decide) (Nat.le_of_ble_eq_true rfl) rfl rfl rfl dX9_danger_13 ?_
  refine wf_iconst (-1) dX9_danger_16 (by decide) ?_
  refine wf_ixor (nI (mMe g (eLeft (eDk g)) (g 9 0)) ^^^ -1) dX9_danger_17 rfl ?_
  refine wf_iand (nI (ldf (mMe g (eLeft g) (g 9 0)) (mMe g (eLeft (eDk g)) (g 9 0)))) dX9_danger_18 (nI_andn (Nat.lt_trans (mMe_lt hI _ _) (by decide)) (Nat.lt_trans (mMe_lt hI _ _) (by decide))) ?_
  exact wf_iret .int rfl (vp_nar_int _) ⟨rfl, rfl⟩ (pm_of (by unfold sp_danger; rw [mMe_dk hI, mMe_now hI]; rfl) ⟨_, _, hJ, rfl⟩) dX9_danger_19
abbrev rmX9_row : Room := { frames := 1, cells := 0, slots := 0, locals := 22 }
set_option maxHeartbeats 4000000 in
set_option maxRecDepth 100000 in
theorem c_X9_row {l : Launch} {E : Ev} {x : Int32} {gi : Gd} {g y j : Gd} {td : Nat → Int32} {am : Nat → Nat} {r : va_W} (hI : Inv g) (hJ : IH j gi) (hy : YI y)  : CT l E yX9_row cX9_row 3 (some .int) rmX9_row [.ref (am 0), .int x] (wm E am g y j td ++ r) (PM E am r (sp_row g y x) gi) := by
  refine CT.of (lv := [(0, .ref (am 0)), (1, .int x)]) false (by decide +kernel) (by decide) (Nat.le_of_ble_eq_true rfl) rfl ?_
  have f0 := hI.words
  have f1 := hI.birds
  have f2 := hI.gone
  have f3 := hI.hour
  obtain ⟨y00, y01, y02, y1, y2⟩ := id hy
  refine wf_iload_n 1 dX9_row_0 rfl ?_
  refine wf_iconst (nI 0) dX9_row_1 (by decide) ?_
  refine wf_bipush (nI 9) dX9_row_2 (by decide) ?_
  refine wf_callSD (As := [.int x, .int (nI 0), .int (nI 9)]) (rest := []) (c_X9_bound) kS_X9_66 rfl (by decide) (by decide) (Nat.le_of_ble_eq_true rfl) rfl dX9_row_4 ?_
  refine wf_istore_n [(2, .int (eBd x (nI 0) (nI 9))), (0, .ref (am 0)), (1, .int x)] dX9_row_7 rfl (by decide) rfl ?_
  by_cases b1 : x < (0 : Int32)
  · refine wf_lvc [(2, .int (-4)), (0, .ref (am 0)), (1, .int x)] (by rw [show eBd x (nI 0) (nI 9) = (-4) from by unfold eBd; rw [nI_0, if_pos b1]]) ?_
    refine wf_iload_n 0 dX9_row_8 rfl ?_
    refine wf_if_ne 24 dX9_row_9 (by decide) (fun c9 => ?_) (fun c9 => ?_)
    · refine wf_iload_n 0 dX9_row_24 rfl ?_
      refine wf_if_eq 34 dX9_row_25 (by decide) (fun c25 => ?_) (fun c25 => ?_)
      · exact absurd c25 (by decide)
      · refine wf_aload_n 1 dX9_row_28 rfl ?_
        refine wf_iload_n 0 dX9_row_29 rfl ?_
        refine wf_callVD (As := [.int (-4)]) (rest := []) 0 (c_X9_no (k := 4) (by decide)) kV_X9_73 rfl (by decide) (by decide) (Nat.le_of_ble_eq_true rfl) rfl rfl rfl dX9_row_30 ?_
        exact wf_iret .int rfl (vp_nar_int _) ⟨rfl, rfl⟩ (pm_of (by unfold sp_row; rw [if_pos b1]; rfl) ⟨_, _, hJ, rfl⟩) dX9_row_33
    · exact absurd c9 (by decide)
  by_cases b2 : nI 9 < x
  · refine wf_lvc [(2, .int (-6)), (0, .ref (am 0)), (1, .int x)] (by rw [show eBd x (nI 0) (nI 9) = (-6) from by unfold eBd; rw [nI_0, if_neg b1, if_pos b2]]) ?_
    refine wf_iload_n 0 dX9_row_8 rfl ?_
    refine wf_if_ne 24 dX9_row_9 (by decide) (fun c9 => ?_) (fun c9 => ?_)
    · refine wf_iload_n 0 dX9_row_24 rfl ?_
      refine wf_if_eq 34 dX9_row_25 (by decide) (fun c25 => ?_) (fun c25 => ?_)
      · exact absurd c25 (by decide)
      · refine wf_aload_n 1 dX9_row_28 rfl ?_
        refine wf_iload_n 0 dX9_row_29 rfl ?_
        refine wf_callVD (As := [.int (-6)]) (rest := []) 0 (c_X9_no (k := 6) (by decide)) kV_X9_73 rfl (by decide) (by decide) (Nat.le_of_ble_eq_true rfl) rfl rfl rfl dX9_row_30 ?_
        exact wf_iret .int rfl (vp_nar_int _) ⟨rfl, rfl⟩ (pm_of (by unfold sp_row; rw [if_neg b1, if_pos b2]; rfl) ⟨_, _, hJ, rfl⟩) dX9_row_33
    · exact absurd c9 (by decide)
  · refine wf_lvc [(2, .int (nI 0)), (0, .ref (am 0)), (1, .int x)] (by rw [show eBd x (nI 0) (nI 9) = (nI 0) from by unfold eBd; rw [nI_0, if_neg b1, if_neg b2]]) ?_
    obtain ⟨n, hn, rfl⟩ := i_le (k := 9) (by decide) b1 b2
    refine wf_iload_n 0 dX9_row_8 rfl ?_
    refine wf_if_ne_n 24 dX9_row_9 (by decide) (by decide) (fun c9 => ?_) (fun c9 => ?_)
    · exact absurd rfl c9
    · refine wf_aload_n 1 dX9_row_12 rfl ?_
      refine wf_getf (C := RX9) (T := TX9) (N := 27) (v := .int (nI (y 0 2))) 0 26 in_X9 rfl rfl (by decide) fl_X9_200 rfl dX9_row_13 ?_
      refine wf_bipush (nI 10) dX9_row_16 (by decide) ?_
      refine wf_icmp_ne_n 24 dX9_row_18 (by decide) (by omega) (by omega) (fun c18 => ?_) (fun c18 => ?_)
      · refine wf_iload_n 0 dX9_row_24 rfl ?_
        refine wf_if_eq_n 34 dX9_row_25 (by decide) (by decide) (fun c25 => ?_) (fun c25 => ?_)
        · refine wf_aload_n 1 dX9_row_34 rfl ?_
          refine wf_getf (C := RX9) (T := TX9) (N := 27) (v := .ref (am 16)) 0 25 in_X9 rfl rfl (by decide) fl_X9_55 rfl dX9_row_35 ?_
          refine wf_aload_n 1 dX9_row_38 rfl ?_
          refine wf_getf (C := RX9) (T := TX9) (N := 27) (v := .int (nI (y 0 2))) 0 26 in_X9 rfl rfl (by decide) fl_X9_200 rfl dX9_row_39 ?_
          refine wf_iload_n 2 dX9_row_42 rfl ?_
          refine wf_iast_n (wm E am g (gs y 2 (y 0 2) n) j td ++ r) 16 rfl (by omega) (by decide) (sf 16 (Nat.le_of_ble_eq_true rfl) (wm_sety2 (y 0 2) n)) dX9_row_43 ?_
          refine wf_aload_n 1 dX9_row_44 rfl ?_
          refine wf_dup dX9_row_45 rfl ?_
          refine wf_getf (C := RX9) (T := TX9) (N := 27) (v := .int (nI (y 0 2))) 0 26 in_X9 rfl rfl (by decide) fl_X9_200 rfl dX9_row_46 ?_
          refine wf_iconst (nI 1) dX9_row_49 (by decide) ?_
          refine wf_iadd (nI ((y 0 2) + 1)) dX9_row_50 (nI_add (y 0 2) 1) ?_
          refine wf_putf (C := RX9) (T := TX9) (N := 27) (ty := .int) 0 26 (wm E am g (gs (gs y 2 (y 0 2) n) 0 2 ((y 0 2) + 1)) j td ++ r) tyX9 in_X9 tyX9_ok nmX9 rfl rfl (by decide) fl_X9_200 rfl (by decide +kernel) (by rfl) rfl (Nat.le_of_ble_eq_true rfl) (sf 0 (Nat.le_of_ble_eq_true rfl) (wm_put26 ((y 0 2) + 1))) dX9_row_51 ?_
          refine wf_aload_n 1 dX9_row_54 rfl ?_
          refine wf_getf (C := RX9) (T := TX9) (N := 27) (v := .int (nI ((y 0 2) + 1))) 0 26 in_X9 rfl rfl (by decide) fl_X9_200 rfl dX9_row_55 ?_
          exact wf_iret .int rfl (vp_nar_int _) ⟨rfl, rfl⟩ (pm_of (by unfold sp_row; rw [if_neg b1, if_neg b2, if_pos (by omega), nI_clamp (by omega)]) ⟨_, _, hJ, rfl⟩) dX9_row_58
        · exact absurd rfl c25
      · refine wf_bipush (-6) dX9_row_21 (by decide) ?_
        refine wf_istore_n [(2, .int (-6)), (0, .ref (am 0)), (1, .int (nI n))] dX9_row_23 rfl (by decide) rfl ?_
        refine wf_iload_n 0 dX9_row_24 rfl ?_
        refine wf_if_eq 34 dX9_row_25 (by decide) (fun c25 => ?_) (fun c25 => ?_)
        · exact absurd c25 (by decide)
        · refine wf_aload_n 1 dX9_row_28 rfl ?_
          refine wf_iload_n 0 dX9_row_29 rfl ?_
          refine wf_callVD (As := [.int (-6)]) (rest := []) 0 (c_X9_no (k := 6) (by decide)) kV_X9_73 rfl (by decide) (by decide) (Nat.le_of_ble_eq_true rfl) rfl rfl rfl dX9_row_30 ?_
          exact wf_iret .int rfl (vp_nar_int _) ⟨rfl, rfl⟩ (pm_of (by unfold sp_row; rw [if_neg b1, if_neg b2, if_neg (by omega)]; rfl) ⟨_, _, hJ, rfl⟩) dX9_row_33
abbrev rmX9_judge : Room := { frames := 2, cells := 0, slots := 0, locals := 43 }
set_option maxHeartbeats 4000000 in
set_option maxRecDepth 100000 in
theorem c_X9_judge {l : Launch} {E : Ev}  {gi : Gd} {g y j : Gd} {td : Nat → Int32} {am : Nat → Nat} {r : va_W} (hI : Inv g) (hJ : IH j gi) (hy : YI y)  : CT l E yX9_judge cX9_judge 2 (some .int) rmX9_judge [.ref (am 0)] (wm E am g y j td ++ r) (PM E am r (sp_judge g y) gi) := by
  refine CT.of (lv := [(0, .ref (am 0))]) false (by decide +kernel) (by decide) (Nat.le_of_ble_eq_true rfl) rfl ?_
  have f0 := hI.words
  have f1 := hI.birds
  have f2 := hI.gone
  have f3 := hI.hour
  obtain ⟨y00, y01, y02, y1, y2⟩ := id hy
  refine wf_aload_n 0 dX9_judge_0 rfl ?_
  refine wf_callVD (As := []) (rest := []) 0 (c_X9_otherAt hI y2 y02) kV_X9_203 rfl (by decide) (by decide) (Nat.le_of_ble_eq_true rfl) rfl rfl rfl dX9_judge_1 ?_
  refine wf_istore_n [(1, .int (eO (eOther g (y 2) (y 0 2) (g 9 0) 0 0))), (0, .ref (am 0))] dX9_judge_4 rfl (by decide) rfl ?_
  refine wf_aload_n 1 dX9_judge_5 rfl ?_
  refine wf_iconst (nI 0) dX9_judge_6 (by decide) ?_
  refine wf_putf (C := RX9) (T := TX9) (N := 27) (ty := .int) 0 26 (wm E am g (gs y 0 2 0) j td ++ r) tyX9 in_X9 tyX9_ok nmX9 rfl rfl (by decide) fl_X9_200 rfl (by decide +kernel) (by rfl) rfl (Nat.le_of_ble_eq_true rfl) (sf 0 (Nat.le_of_ble_eq_true rfl) (wm_put26 0)) dX9_judge_7 ?_
  refine wf_iload_n 0 dX9_judge_10 rfl ?_
  exact wf_iret .int rfl (vp_nar_int _) ⟨rfl, rfl⟩ (pm_of (by rfl) ⟨_, _, hJ, rfl⟩) dX9_judge_11
abbrev rmX9_image : Room := { frames := 2, cells := 0, slots := 0, locals := 44 }
set_option maxHeartbeats 4000000 in
set_option maxRecDepth 100000 in
theorem c_X9_image {l : Launch} {E : Ev}  {gi : Gd} {g y j : Gd} {td : Nat → Int32} {am : Nat → Nat} {r : va_W} (hI : Inv g) (hJ : IH j gi) (hy : YI y)  : CT l E yX9_image cX9_image 1 (some .int) rmX9_image [.ref (am 0)] (wm E am g y j td ++ r) (PM E am r (sp_image g y) g) := by
  refine CT.of (lv := [(0, .ref (am 0))]) false (by decide +kernel) (by decide) (Nat.le_of_ble_eq_true rfl) rfl ?_
  have f0 := hI.words
  have f1 := hI.birds
  have f2 := hI.gone
  have f3 := hI.hour
  obtain ⟨y00, y01, y02, y1, y2⟩ := id hy
  refine wf_aload_n 0 dX9_image_0 rfl ?_
  refine wf_iconst (nI 1) dX9_image_1 (by decide) ?_
  refine wf_putf (C := RX9) (T := TX9) (N := 27) (ty := .boolean) 0 22 (wm E am g (gs y 0 0 1) j td ++ r) tyX9 in_X9 tyX9_ok nmX9 rfl rfl (by decide) fl_X9_145 rfl (by decide +kernel) (by decide) (by decide) (Nat.le_of_ble_eq_true rfl) (sf 0 (Nat.le_of_ble_eq_true rfl) (wm_put22 1)) dX9_image_2 ?_
  refine wf_aload_n 0 dX9_image_5 rfl ?_
  refine wf_iconst (nI 0) dX9_image_6 (by decide) ?_
  refine wf_iconst (nI 1) dX9_image_7 (by decide) ?_
  refine wf_callVv (As := [.int (nI 0), .int (nI 1)]) (rest := []) 0 (c_X9_passesAll_k (wh := 0) hI (by decide)) kV_X9_118 rfl (by decide) (by decide) (Nat.le_of_ble_eq_true rfl) rfl rfl rfl dX9_image_8 ?_
  refine wf_aload_n 0 dX9_image_11 rfl ?_
  refine wf_getf (C := RX9) (T := TX9) (N := 27) (v := .int (nI (g 9 3))) 0 12 in_X9 rfl rfl (by decide) fl_X9_139 rfl dX9_image_12 ?_
  exact wf_iret .int rfl (vp_nar_int _) ⟨rfl, rfl⟩ (pm_of (by rfl) ⟨_, _, (IH.im _ _), rfl⟩) dX9_image_15
abbrev rmX9_on : Room := { frames := 2, cells := 0, slots := 0, locals := 44 }
set_option maxHeartbeats 4000000 in
set_option maxRecDepth 100000 in
theorem c_X9_on {l : Launch} {E : Ev}  {gi : Gd} {g y j : Gd} {td : Nat → Int32} {am : Nat → Nat} {r : va_W} (hI : Inv g) (hJ : IH j gi) (hy : YI y)  : CT l E yX9_on cX9_on 1 (some .int) rmX9_on [.ref (am 0)] (wm E am g y j td ++ r) (PM E am r (sp_on g gi y) gi) := by
  refine CT.of (lv := [(0, .ref (am 0))]) false (by decide +kernel) (by decide) (Nat.le_of_ble_eq_true rfl) rfl ?_
  have f0 := hI.words
  have f1 := hI.birds
  have f2 := hI.gone
  have f3 := hI.hour
  obtain ⟨y00, y01, y02, y1, y2⟩ := id hy
  refine wf_aload_n 0 dX9_on_0 rfl ?_
  refine wf_getf (C := RX9) (T := TX9) (N := 27) (v := .int (nI (y 0 0))) 0 22 in_X9 rfl rfl (by decide) fl_X9_145 rfl dX9_on_1 ?_
  refine wf_if_ne_n 14 dX9_on_4 (by decide) (by omega) (fun c4 => ?_) (fun c4 => ?_)
  · refine wf_aload_n 0 dX9_on_14 rfl ?_
    refine wf_iconst (nI 0) dX9_on_15 (by decide) ?_
    refine wf_iconst (nI 0) dX9_on_16 (by decide) ?_
    refine wf_callVv (As := [.int (nI 0), .int (nI 0)]) (rest := []) 0 (c_X9_passesAll_r (wh := 0) (g0 := gi) (IH.at hJ) (by decide)) kV_X9_118 rfl (by decide) (by decide) (Nat.le_of_ble_eq_true rfl) rfl rfl rfl dX9_on_17 ?_
    refine wf_aload_n 0 dX9_on_20 rfl ?_
    refine wf_getf (C := RX9) (T := TX9) (N := 27) (v := .int (nI (gi 9 3))) 0 12 in_X9 rfl rfl (by decide) fl_X9_139 rfl dX9_on_21 ?_
    exact wf_iret .int rfl (vp_nar_int _) ⟨rfl, rfl⟩ (pm_of (by unfold sp_on; rw [if_neg (by omega)]) ⟨_, _, (IH.r (wh := 0) hJ), rfl⟩) dX9_on_24
  · refine wf_aload_n 0 dX9_on_7 rfl ?_
    refine wf_bipush (-3) dX9_on_8 (by decide) ?_
    refine wf_callVD (As := [.int (-3)]) (rest := []) 0 (c_X9_no (k := 3) (by decide)) kV_X9_73 rfl (by decide) (by decide) (Nat.le_of_ble_eq_true rfl) rfl rfl rfl dX9_on_10 ?_
    exact wf_iret .int rfl (vp_nar_int _) ⟨rfl, rfl⟩ (pm_of (by unfold sp_on; rw [if_pos (by omega)]; rfl) ⟨_, _, hJ, rfl⟩) dX9_on_13
abbrev rmX9_left : Room := { frames := 5, cells := 0, slots := 0, locals := 111 }
set_option maxHeartbeats 4000000 in
set_option maxRecDepth 100000 in
theorem c_X9_left {l : Launch} {E : Ev} {x : Int32} {gi : Gd} {g y j : Gd} {td : Nat → Int32} {am : Nat → Nat} {r : va_W} (hI : Inv g) (hJ : IH j gi) (hy : YI y)  : CT l E yX9_left cX9_left 4 (some .int) rmX9_left [.ref (am 0), .int x] (wm E am g y j td ++ r) (PM E am r (sp_left g y x) gi) := by
  refine CT.of (lv := [(0, .ref (am 0)), (1, .int x)]) false (by decide +kernel) (by decide) (Nat.le_of_ble_eq_true rfl) rfl ?_
  have f0 := hI.words
  have f1 := hI.birds
  have f2 := hI.gone
  have f3 := hI.hour
  obtain ⟨y00, y01, y02, y1, y2⟩ := id hy
  refine wf_iload_n 1 dX9_left_0 rfl ?_
  refine wf_iconst (nI 0) dX9_left_1 (by decide) ?_
  refine wf_bipush (nI 8) dX9_left_2 (by decide) ?_
  refine wf_callSD (As := [.int x, .int (nI 0), .int (nI 8)]) (rest := []) (c_X9_bound) kS_X9_66 rfl (by decide) (by decide) (Nat.le_of_ble_eq_true rfl) rfl dX9_left_4 ?_
  refine wf_istore_n [(2, .int (eBd x (nI 0) (nI 8))), (0, .ref (am 0)), (1, .int x)] dX9_left_7 rfl (by decide) rfl ?_
  by_cases b1 : x < (0 : Int32)
  · refine wf_lvc [(2, .int (-4)), (0, .ref (am 0)), (1, .int x)] (by rw [show eBd x (nI 0) (nI 8) = (-4) from by unfold eBd; rw [nI_0, if_pos b1]]) ?_
    refine wf_iload_n 0 dX9_left_8 rfl ?_
    refine wf_if_eq 18 dX9_left_9 (by decide) (fun c9 => ?_) (fun c9 => ?_)
    · exact absurd c9 (by decide)
    · refine wf_aload_n 1 dX9_left_12 rfl ?_
      refine wf_iload_n 0 dX9_left_13 rfl ?_
      refine wf_callVD (As := [.int (-4)]) (rest := []) 0 (c_X9_no (k := 4) (by decide)) kV_X9_73 rfl (by decide) (by decide) (Nat.le_of_ble_eq_true rfl) rfl rfl rfl dX9_left_14 ?_
      exact wf_iret .int rfl (vp_nar_int _) ⟨rfl, rfl⟩ (pm_of (by unfold sp_left; rw [if_pos b1]; rfl) ⟨_, _, hJ, rfl⟩) dX9_left_17
  by_cases b2 : nI 8 < x
  · refine wf_lvc [(2, .int (-6)), (0, .ref (am 0)), (1, .int x)] (by rw [show eBd x (nI 0) (nI 8) = (-6) from by unfold eBd; rw [nI_0, if_neg b1, if_pos b2]]) ?_
    refine wf_iload_n 0 dX9_left_8 rfl ?_
    refine wf_if_eq 18 dX9_left_9 (by decide) (fun c9 => ?_) (fun c9 => ?_)
    · exact absurd c9 (by decide)
    · refine wf_aload_n 1 dX9_left_12 rfl ?_
      refine wf_iload_n 0 dX9_left_13 rfl ?_
      refine wf_callVD (As := [.int (-6)]) (rest := []) 0 (c_X9_no (k := 6) (by decide)) kV_X9_73 rfl (by decide) (by decide) (Nat.le_of_ble_eq_true rfl) rfl rfl rfl dX9_left_14 ?_
      exact wf_iret .int rfl (vp_nar_int _) ⟨rfl, rfl⟩ (pm_of (by unfold sp_left; rw [if_neg b1, if_pos b2]; rfl) ⟨_, _, hJ, rfl⟩) dX9_left_17
  · refine wf_lvc [(2, .int (nI 0)), (0, .ref (am 0)), (1, .int x)] (by rw [show eBd x (nI 0) (nI 8) = (nI 0) from by unfold eBd; rw [nI_0, if_neg b1, if_neg b2]]) ?_
    have h0 := b1
    have h1 := b2
    obtain ⟨n, hn, rfl⟩ := i_le (k := 8) (by decide) b1 b2
    refine wf_iload_n 0 dX9_left_8 rfl ?_
    refine wf_if_eq_n 18 dX9_left_9 (by decide) (by decide) (fun c9 => ?_) (fun c9 => ?_)
    · refine wf_aload_n 1 dX9_left_18 rfl ?_
      refine wf_iconst (nI 2) dX9_left_19 (by decide) ?_
      refine wf_iconst (nI 1) dX9_left_20 (by decide) ?_
      refine wf_callVv (As := [.int (nI 2), .int (nI 1)]) (rest := []) 0 (c_X9_passesAll_k (wh := 2) hI (by decide)) kV_X9_118 rfl (by decide) (by decide) (Nat.le_of_ble_eq_true rfl) rfl rfl rfl dX9_left_21 ?_
      refine wf_iconst (nI 0) dX9_left_24 (by decide) ?_
      refine wf_istore_n [(3, .int (nI 0)), (2, .int (nI 0)), (0, .ref (am 0)), (1, .int (nI n))] dX9_left_25 rfl (by decide) rfl ?_
      have L26 : ∀ (fu26 : Nat) (k : Nat), n - k < fu26 → (k ≤ n) → WF l E RX9 cX9_left 4 (some .int) rmX9_left false (fun _ => True) (QM E (wm E am g y j td ++ r) (PM E am r (sp_left g y (nI n)) gi) rmX9_left) (wm E am g y j td ++ r) 0 0 26 [(3, .int (nI k)), (2, .int (nI 0)), (0, .ref (am 0)), (1, .int (nI n))] [] (wm E am (eHrs g k) y (kq j (80 * 2) g 61) td ++ r) := by
        intro fu26
        induction fu26 with
        | zero => intro k hn; exact absurd hn (Nat.not_lt_zero _)
        | succ fu26 ih26 =>
          intro k hn hk
          have hHk := (hI.oHrs k).hour
          refine wf_iload_n 0 dX9_left_26 rfl ?_
          refine wf_iload_n 3 dX9_left_27 rfl ?_
          refine wf_icmp_ge_n 51 dX9_left_28 (by decide) (by omega) (by omega) (fun c28 => ?_) (fun c28 => ?_)
          · have hx : eHrs g k = eHrs g n := by rw [show k = n by omega]
            refine wf_world (wm E am (eHrs g n) y (kq j (80 * 2) g 61) td ++ r) (by rw [hx]) ?_
            refine wf_aload_n 2 dX9_left_51 rfl ?_
            refine wf_callVD (As := []) (rest := []) 0 (c_X9_leftNow (hI.oHrs n)) kV_X9_169 rfl (by decide) (by decide) (Nat.le_of_ble_eq_true rfl) rfl rfl rfl dX9_left_52 ?_
            refine wf_istore_n [(3, .int (nI (eLeft (eHrs g n)))), (2, .int (nI 0)), (0, .ref (am 0)), (1, .int (nI n))] dX9_left_55 rfl (by decide) rfl ?_
            refine wf_aload_n 2 dX9_left_56 rfl ?_
            refine wf_iconst (nI 2) dX9_left_57 (by decide) ?_
            refine wf_iconst (nI 0) dX9_left_58 (by decide) ?_
            refine wf_callVv (As := [.int (nI 2), .int (nI 0)]) (rest := []) 0 (c_X9_passesAll_r (wh := 2) (g0 := g) (fun k hk => kq_has k hk) (by decide)) kV_X9_118 rfl (by decide) (by decide) (Nat.le_of_ble_eq_true rfl) rfl rfl rfl dX9_left_59 ?_
            refine wf_iload_n 0 dX9_left_62 rfl ?_
            exact wf_iret .int rfl (vp_nar_int _) ⟨rfl, rfl⟩ (pm_of (by unfold sp_left; rw [if_neg h0, if_neg h1, nI_clamp (by omega)]; rfl) ⟨_, _, (IH.r (wh := 2) (IH.k (wh := 2) hJ (by decide))), rfl⟩) dX9_left_63
          · refine wf_aload_n 2 dX9_left_31 rfl ?_
            refine wf_getf (C := RX9) (T := TX9) (N := 27) (v := .int (nI ((eHrs g k) 9 3))) 0 12 in_X9 rfl rfl (by decide) fl_X9_139 rfl dX9_left_32 ?_
            refine wf_bipush (nI 8) dX9_left_35 (by decide) ?_
            refine wf_icmp_ge_n 51 dX9_left_37 (by decide) (by omega) (by omega) (fun c37 => ?_) (fun c37 => ?_)
            · have hx : eHrs g k = eHrs g n := eHrs_dusk hk (by omega)
              refine wf_world (wm E am (eHrs g n) y (kq j (80 * 2) g 61) td ++ r) (by rw [hx]) ?_
              refine wf_aload_n 2 dX9_left_51 rfl ?_
              refine wf_callVD (As := []) (rest := []) 0 (c_X9_leftNow (hI.oHrs n)) kV_X9_169 rfl (by decide) (by decide) (Nat.le_of_ble_eq_true rfl) rfl rfl rfl dX9_left_52 ?_
              refine wf_istore_n [(3, .int (nI (eLeft (eHrs g n)))), (2, .int (nI 0)), (0, .ref (am 0)), (1, .int (nI n))] dX9_left_55 rfl (by decide) rfl ?_
              refine wf_aload_n 2 dX9_left_56 rfl ?_
              refine wf_iconst (nI 2) dX9_left_57 (by decide) ?_
              refine wf_iconst (nI 0) dX9_left_58 (by decide) ?_
              refine wf_callVv (As := [.int (nI 2), .int (nI 0)]) (rest := []) 0 (c_X9_passesAll_r (wh := 2) (g0 := g) (fun k hk => kq_has k hk) (by decide)) kV_X9_118 rfl (by decide) (by decide) (Nat.le_of_ble_eq_true rfl) rfl rfl rfl dX9_left_59 ?_
              refine wf_iload_n 0 dX9_left_62 rfl ?_
              exact wf_iret .int rfl (vp_nar_int _) ⟨rfl, rfl⟩ (pm_of (by unfold sp_left; rw [if_neg h0, if_neg h1, nI_clamp (by omega)]; rfl) ⟨_, _, (IH.r (wh := 2) (IH.k (wh := 2) hJ (by decide))), rfl⟩) dX9_left_63
            · refine wf_aload_n 2 dX9_left_40 rfl ?_
              refine wf_callVD (As := []) (rest := []) 0 (c_X9_goesHour (hI.oHrs k) (by omega)) kV_X9_166 rfl (by decide) (by decide) (Nat.le_of_ble_eq_true rfl) rfl rfl rfl dX9_left_41 ?_
              refine wf_pop dX9_left_44 rfl ?_
              refine wf_iinc (nI (k + 1)) 0 [(3, .int (nI (k + 1))), (2, .int (nI 0)), (0, .ref (am 0)), (1, .int (nI n))] dX9_left_45 rfl (nI_1 k) (by decide) rfl ?_
              refine wf_goto 26 dX9_left_48 (by decide) ?_
              refine wf_sub (lv' := [(3, .int (nI (k + 1))), (2, .int (nI 0)), (0, .ref (am 0)), (1, .int (nI n))]) [0, 1, 2, 3] rfl ?_
              refine wf_world (wm E am (eHrs g (k + 1)) y (kq j (80 * 2) g 61) td ++ r) rfl ?_
              exact ih26 (k + 1) (by omega) (by omega)
      refine wf_sub (lv' := [(3, .int (nI 0)), (2, .int (nI 0)), (0, .ref (am 0)), (1, .int (nI n))]) [0, 1, 2, 3] rfl ?_
      refine wf_world (wm E am (eHrs g 0) y (kq j (80 * 2) g 61) td ++ r) rfl ?_
      exact L26 _ 0 (Nat.lt_succ_self _) (Nat.zero_le _)
    · exact absurd rfl c9
