theorem rfz_k {y : Gd} {k : Nat} (hk : 1 ≤ k) : rfz y k = y 3 (k - 1) := by unfold rfz; rw [if_neg (by omega)]
def eIn (v a b : Int32) : Bool := decide (a ≤ v) && decide (v ≤ b)
def eBd (v a b : Int32) : Int32 := if v < a then -4 else if b < v then -6 else 0
theorem eCnt_add (x k n : Nat) (h : ∀ i, k ≤ i → i < k + n → (x >>> i) &&& 1 = 0) : eCnt x (k + n) = eCnt x k := by
  induction n with
  | zero => rfl
  | succ n ih =>
    show eCnt x (k + n) + _ = _
    rw [ih (fun i h1 h2 => h i h1 (by omega))]
    show eCnt x k + ((x >>> (k + n)) &&& 1) = eCnt x k
    rw [h (k + n) (by omega) (by omega)]; rfl
theorem eCnt_31 {x : Nat} (hx : x < 1024) : eCnt x 31 = eBits x := by
  refine eCnt_add x 10 21 (fun i h1 h2 => ?_)
  have h3 : 2 ^ 10 ≤ 2 ^ i := Nat.pow_le_pow_right (by decide) h1
  have h4 : x < 2 ^ i := Nat.lt_of_lt_of_le hx h3
  rw [Nat.shiftRight_eq_div_pow, Nat.div_eq_of_lt h4]
  rfl
theorem eHas_in {x : Int32} {n : Nat} (hn : 1 ≤ n) (h : n < 2 ^ 31) : eIn x (nI 0) (nI (n - 1)) = eHas x n := by
  unfold eIn eHas
  rw [nI_0]
  have hb : n - 1 < 2 ^ 31 := Nat.lt_of_le_of_lt (Nat.sub_le _ _) h
  by_cases h0 : (0 : Int32) ≤ x
  · rw [decide_eq_true h0, Bool.true_and, Bool.true_and]
    obtain ⟨j, hj, rfl⟩ := nI_of (Int32.not_lt.mpr h0)
    apply decide_eq_decide.mpr
    refine (nI_leI hj hb).trans (Iff.trans ?_ (nI_ltI hj h).symm)
    exact ⟨fun z => Nat.lt_of_le_of_lt z (Nat.sub_lt hn Nat.one_pos), fun z => Nat.le_sub_one_of_lt z⟩
  · rw [decide_eq_false h0, Bool.false_and, Bool.false_and]
theorem nn_k (k : Nat) : - -nI k = nI k := Int32.neg_neg
theorem areW {g : Gd} {j : Nat} (hI : Inv g) (hj : j < 2 ^ 31) : j >>> g 9 0 = 0 ↔ j ≤ eAll g := by
  rw [Nat.shiftRight_eq_div_pow, hI.allW]
  have := @Nat.one_le_two_pow (g 9 0)
  rw [Nat.div_eq_zero_iff]
  omega
abbrev rmX9_isIn : Room := { frames := 0, cells := 0, slots := 0, locals := 0 }
set_option maxHeartbeats 4000000 in
set_option maxRecDepth 100000 in
theorem c_X9_isIn {l : Launch} {E : Ev} {r : va_W} {v p q : Int32}  : CT l E yX9_isIn cX9_isIn 3 (some .boolean) rmX9_isIn [.int v, .int p, .int q] (r) (IS (some (.int (bI (eIn v p q)))) r) := by
  refine CT.of (lv := [(0, .int v), (1, .int p), (2, .int q)]) false (by decide +kernel) (by decide) (Nat.le_of_ble_eq_true rfl) rfl ?_
  refine wf_iload_n 0 dX9_isIn_0 rfl ?_
  refine wf_iload_n 1 dX9_isIn_1 rfl ?_
  refine wf_icmp_lt 14 dX9_isIn_2 (by decide) (fun c2 => ?_) (fun c2 => ?_)
  · refine wf_iconst (nI 0) dX9_isIn_14 (by decide) ?_
    exact wf_iret .boolean rfl (by decide) ⟨rfl, rfl⟩ ⟨congrArg (fun z => some (Value.int z)) (b1_zero (by unfold eIn; rw [decide_eq_false (fun z => Int32.not_lt.mpr z c2), Bool.false_and])), rfl⟩ dX9_isIn_15
  · refine wf_iload_n 0 dX9_isIn_5 rfl ?_
    refine wf_iload_n 2 dX9_isIn_6 rfl ?_
    refine wf_icmp_gt 14 dX9_isIn_7 (by decide) (fun c7 => ?_) (fun c7 => ?_)
    · refine wf_iconst (nI 0) dX9_isIn_14 (by decide) ?_
      exact wf_iret .boolean rfl (by decide) ⟨rfl, rfl⟩ ⟨congrArg (fun z => some (Value.int z)) (b1_zero (by unfold eIn; rw [decide_eq_false (fun z => Int32.not_lt.mpr z c7), Bool.and_false])), rfl⟩ dX9_isIn_15
    · refine wf_iconst (nI 1) dX9_isIn_10 (by decide) ?_
      refine wf_goto 15 dX9_isIn_11 (by decide) ?_
      exact wf_iret .boolean rfl (by decide) ⟨rfl, rfl⟩ ⟨congrArg (fun z => some (Value.int z)) (b1_one (by unfold eIn; rw [decide_eq_true (Int32.not_lt.mp c2), decide_eq_true (Int32.not_lt.mp c7)]; rfl)), rfl⟩ dX9_isIn_15
abbrev rmX9_bound : Room := { frames := 0, cells := 0, slots := 0, locals := 0 }
set_option maxHeartbeats 4000000 in
set_option maxRecDepth 100000 in
theorem c_X9_bound {l : Launch} {E : Ev} {r : va_W} {v p q : Int32}  : CT l E yX9_bound cX9_bound 3 (some .int) rmX9_bound [.int v, .int p, .int q] (r) (IS (some (.int (eBd v p q))) r) := by
  refine CT.of (lv := [(0, .int v), (1, .int p), (2, .int q)]) false (by decide +kernel) (by decide) (Nat.le_of_ble_eq_true rfl) rfl ?_
  refine wf_iload_n 0 dX9_bound_0 rfl ?_
  refine wf_iload_n 1 dX9_bound_1 rfl ?_
  refine wf_icmp_ge 10 dX9_bound_2 (by decide) (fun c2 => ?_) (fun c2 => ?_)
  · refine wf_iload_n 0 dX9_bound_10 rfl ?_
    refine wf_iload_n 2 dX9_bound_11 rfl ?_
    refine wf_icmp_le 20 dX9_bound_12 (by decide) (fun c12 => ?_) (fun c12 => ?_)
    · refine wf_iconst (nI 0) dX9_bound_20 (by decide) ?_
      exact wf_iret .int rfl (vp_nar_int _) ⟨rfl, rfl⟩ ⟨congrArg (fun z => some (Value.int z)) (by unfold eBd; rw [if_neg (Int32.not_lt.mpr c2), if_neg (Int32.not_lt.mpr c12)]; rfl), rfl⟩ dX9_bound_21
    · refine wf_bipush (-6) dX9_bound_15 (by decide) ?_
      refine wf_goto 21 dX9_bound_17 (by decide) ?_
      exact wf_iret .int rfl (vp_nar_int _) ⟨rfl, rfl⟩ ⟨congrArg (fun z => some (Value.int z)) (by unfold eBd; rw [if_neg (Int32.not_lt.mpr c2), if_pos (Int32.not_le.mp c12)]), rfl⟩ dX9_bound_21
  · refine wf_bipush (-4) dX9_bound_5 (by decide) ?_
    refine wf_goto 21 dX9_bound_7 (by decide) ?_
    exact wf_iret .int rfl (vp_nar_int _) ⟨rfl, rfl⟩ ⟨congrArg (fun z => some (Value.int z)) (by unfold eBd; rw [if_pos (Int32.not_le.mp c2)]), rfl⟩ dX9_bound_21
abbrev rmX9_isInk : Room := { frames := 1, cells := 0, slots := 0, locals := 22 }
set_option maxHeartbeats 4000000 in
set_option maxRecDepth 100000 in
theorem c_X9_isInk {l : Launch} {E : Ev} {r : va_W} {x : Int32}  : CT l E yX9_isInk cX9_isInk 1 (some .boolean) rmX9_isInk [.int x] (r) (IS (some (.int (bI (eHas x 3)))) r) := by
  refine CT.of (lv := [(0, .int x)]) false (by decide +kernel) (by decide) (Nat.le_of_ble_eq_true rfl) rfl ?_
  refine wf_iload_n 0 dX9_isInk_0 rfl ?_
  refine wf_iconst (nI 0) dX9_isInk_1 (by decide) ?_
  refine wf_iconst (nI 2) dX9_isInk_2 (by decide) ?_
  refine wf_callSD (As := [.int x, .int (nI 0), .int (nI 2)]) (rest := []) (c_X9_isIn) kS_X9_87 rfl (by decide) (by decide) (Nat.le_of_ble_eq_true rfl) rfl dX9_isInk_3 ?_
  exact wf_iret .boolean rfl (bI_nar _) ⟨rfl, rfl⟩ ⟨congrArg (fun z => some (Value.int z)) (by rw [show nI 2 = nI (3 - 1) from rfl, eHas_in (by decide) (by decide)]), rfl⟩ dX9_isInk_6
abbrev rmX9_no : Room := { frames := 0, cells := 0, slots := 0, locals := 0 }
set_option maxHeartbeats 4000000 in
set_option maxRecDepth 100000 in
theorem c_X9_no {l : Launch} {E : Ev} {k : Nat} {g y j : Gd} {td : Nat → Int32} {am : Nat → Nat} {r : va_W} (hk : 1 ≤ k ∧ k ≤ 6) : CT l E yX9_no cX9_no 2 (some .int) rmX9_no [.ref (am 0), .int (-nI k)] (wm E am g y j td ++ r) (IS (some (.int (-nI k))) (wm E am g (bmp y k) j td ++ r)) := by
  refine CT.of (lv := [(0, .ref (am 0)), (1, .int (-nI k))]) false (by decide +kernel) (by decide) (Nat.le_of_ble_eq_true rfl) rfl ?_
  refine wf_aload_n 0 dX9_no_0 rfl ?_
  refine wf_getf (C := RX9) (T := TX9) (N := 27) (v := .ref (am 1)) 0 0 in_X9 rfl rfl (by decide) fl_X9_7 rfl dX9_no_1 ?_
  refine wf_iload_n 1 dX9_no_4 rfl ?_
  refine wf_ineg (nI k) dX9_no_5 (nn_k k) ?_
  refine wf_dup2 dX9_no_6 rfl rfl ?_
  refine wf_iald_n (nI (rfz y k)) 1 rfl (by omega) (by decide) rfl dX9_no_7 ?_
  refine wf_top (y := .int (nI (y 3 (k - 1)))) (by rw [rfz_k hk.1]) ?_
  refine wf_iconst (nI 1) dX9_no_8 (by decide) ?_
  refine wf_iadd (nI ((y 3 (k - 1)) + 1)) dX9_no_9 (nI_add (y 3 (k - 1)) 1) ?_
  refine wf_iast_n (wm E am g (gs y 3 (k - 1) ((y 3 (k - 1)) + 1)) j td ++ r) 1 rfl (by omega) (by decide) (sf 1 (Nat.le_of_ble_eq_true rfl) (wm_setr k ((y 3 (k - 1)) + 1) (by omega))) dX9_no_10 ?_
  refine wf_iload_n 1 dX9_no_11 rfl ?_
  exact wf_iret .int rfl (vp_nar_int _) ⟨rfl, rfl⟩ ⟨congrArg (fun z => some (Value.int z)) (rfl), rfl⟩ dX9_no_12
abbrev rmX9_lower : Room := { frames := 0, cells := 0, slots := 0, locals := 0 }
set_option maxHeartbeats 4000000 in
set_option maxRecDepth 100000 in
theorem c_X9_lower {l : Launch} {E : Ev} {k : Nat} {g y j : Gd} {td : Nat → Int32} {am : Nat → Nat} {r : va_W} (hk : 1 ≤ k ∧ k ≤ 6) : CT l E yX9_lower cX9_lower 2 (some .int) rmX9_lower [.ref (am 0), .int (-nI k)] (wm E am g y j td ++ r) (IS (some (.int (nI 1000000000 - (-nI k)))) (wm E am g (bmp y k) j td ++ r)) := by
  refine CT.of (lv := [(0, .ref (am 0)), (1, .int (-nI k))]) false (by decide +kernel) (by decide) (Nat.le_of_ble_eq_true rfl) rfl ?_
  refine wf_aload_n 0 dX9_lower_0 rfl ?_
  refine wf_getf (C := RX9) (T := TX9) (N := 27) (v := .ref (am 1)) 0 0 in_X9 rfl rfl (by decide) fl_X9_7 rfl dX9_lower_1 ?_
  refine wf_iload_n 1 dX9_lower_4 rfl ?_
  refine wf_ineg (nI k) dX9_lower_5 (nn_k k) ?_
  refine wf_dup2 dX9_lower_6 rfl rfl ?_
  refine wf_iald_n (nI (rfz y k)) 1 rfl (by omega) (by decide) rfl dX9_lower_7 ?_
  refine wf_top (y := .int (nI (y 3 (k - 1)))) (by rw [rfz_k hk.1]) ?_
  refine wf_iconst (nI 1) dX9_lower_8 (by decide) ?_
  refine wf_iadd (nI ((y 3 (k - 1)) + 1)) dX9_lower_9 (nI_add (y 3 (k - 1)) 1) ?_
  refine wf_iast_n (wm E am g (gs y 3 (k - 1) ((y 3 (k - 1)) + 1)) j td ++ r) 1 rfl (by omega) (by decide) (sf 1 (Nat.le_of_ble_eq_true rfl) (wm_setr k ((y 3 (k - 1)) + 1) (by omega))) dX9_lower_10 ?_
  refine wf_ldc (v := (nI 1000000000)) con_X9_58 dX9_lower_11 ?_
  refine wf_iload_n 1 dX9_lower_13 rfl ?_
  refine wf_isub ((nI 1000000000) - (-nI k)) dX9_lower_14 rfl ?_
  exact wf_iret .int rfl (vp_nar_int _) ⟨rfl, rfl⟩ ⟨congrArg (fun z => some (Value.int z)) (rfl), rfl⟩ dX9_lower_15
abbrev rmX9_isWord : Room := { frames := 0, cells := 0, slots := 0, locals := 0 }
set_option maxHeartbeats 4000000 in
set_option maxRecDepth 100000 in
theorem c_X9_isWord {l : Launch} {E : Ev} {x : Int32} {g y j : Gd} {td : Nat → Int32} {am : Nat → Nat} {r : va_W}  : CT l E yX9_isWord cX9_isWord 2 (some .boolean) rmX9_isWord [.ref (am 0), .int x] (wm E am g y j td ++ r) (IS (some (.int (bI (eHas x (g 9 0))))) (wm E am g y j td ++ r)) := by
  refine CT.of (lv := [(0, .ref (am 0)), (1, .int x)]) false (by decide +kernel) (by decide) (Nat.le_of_ble_eq_true rfl) rfl ?_
  refine wf_iload_n 1 dX9_isWord_0 rfl ?_
  refine wf_if_lt 16 dX9_isWord_1 (by decide) (fun c1 => ?_) (fun c1 => ?_)
  · refine wf_iconst (nI 0) dX9_isWord_16 (by decide) ?_
    exact wf_iret .boolean rfl (by decide) ⟨rfl, rfl⟩ ⟨congrArg (fun z => some (Value.int z)) (b1_zero (by unfold eHas; rw [decide_eq_false (fun z => Int32.not_lt.mpr z c1), Bool.false_and])), rfl⟩ dX9_isWord_17
  · refine wf_iload_n 1 dX9_isWord_4 rfl ?_
    refine wf_aload_n 0 dX9_isWord_5 rfl ?_
    refine wf_getf (C := RX9) (T := TX9) (N := 27) (v := .int (nI (g 9 0))) 0 10 in_X9 rfl rfl (by decide) fl_X9_59 rfl dX9_isWord_6 ?_
    refine wf_icmp_ge 16 dX9_isWord_9 (by decide) (fun c9 => ?_) (fun c9 => ?_)
    · refine wf_iconst (nI 0) dX9_isWord_16 (by decide) ?_
      exact wf_iret .boolean rfl (by decide) ⟨rfl, rfl⟩ ⟨congrArg (fun z => some (Value.int z)) (b1_zero (by unfold eHas; rw [decide_eq_false (fun z => Int32.not_le.mpr z c9), Bool.and_false])), rfl⟩ dX9_isWord_17
    · refine wf_iconst (nI 1) dX9_isWord_12 (by decide) ?_
      refine wf_goto 17 dX9_isWord_13 (by decide) ?_
      exact wf_iret .boolean rfl (by decide) ⟨rfl, rfl⟩ ⟨congrArg (fun z => some (Value.int z)) (b1_one (by unfold eHas; rw [decide_eq_true (Int32.not_lt.mp c1), decide_eq_true (Int32.not_le.mp c9)]; rfl)), rfl⟩ dX9_isWord_17
abbrev rmX9_isBird : Room := { frames := 0, cells := 0, slots := 0, locals := 0 }
set_option maxHeartbeats 4000000 in
set_option maxRecDepth 100000 in
theorem c_X9_isBird {l : Launch} {E : Ev} {x : Int32} {g y j : Gd} {td : Nat → Int32} {am : Nat → Nat} {r : va_W}  : CT l E yX9_isBird cX9_isBird 2 (some .boolean) rmX9_isBird [.ref (am 0), .int x] (wm E am g y j td ++ r) (IS (some (.int (bI (eHas x (g 9 1))))) (wm E am g y j td ++ r)) := by
  refine CT.of (lv := [(0, .ref (am 0)), (1, .int x)]) false (by decide +kernel) (by decide) (Nat.le_of_ble_eq_true rfl) rfl ?_
  refine wf_iload_n 1 dX9_isBird_0 rfl ?_
  refine wf_if_lt 16 dX9_isBird_1 (by decide) (fun c1 => ?_) (fun c1 => ?_)
  · refine wf_iconst (nI 0) dX9_isBird_16 (by decide) ?_
    exact wf_iret .boolean rfl (by decide) ⟨rfl, rfl⟩ ⟨congrArg (fun z => some (Value.int z)) (b1_zero (by unfold eHas; rw [decide_eq_false (fun z => Int32.not_lt.mpr z c1), Bool.false_and])), rfl⟩ dX9_isBird_17
  · refine wf_iload_n 1 dX9_isBird_4 rfl ?_
    refine wf_aload_n 0 dX9_isBird_5 rfl ?_
    refine wf_getf (C := RX9) (T := TX9) (N := 27) (v := .int (nI (g 9 1))) 0 11 in_X9 rfl rfl (by decide) fl_X9_63 rfl dX9_isBird_6 ?_
    refine wf_icmp_ge 16 dX9_isBird_9 (by decide) (fun c9 => ?_) (fun c9 => ?_)
    · refine wf_iconst (nI 0) dX9_isBird_16 (by decide) ?_
      exact wf_iret .boolean rfl (by decide) ⟨rfl, rfl⟩ ⟨congrArg (fun z => some (Value.int z)) (b1_zero (by unfold eHas; rw [decide_eq_false (fun z => Int32.not_le.mpr z c9), Bool.and_false])), rfl⟩ dX9_isBird_17
    · refine wf_iconst (nI 1) dX9_isBird_12 (by decide) ?_
      refine wf_goto 17 dX9_isBird_13 (by decide) ?_
      exact wf_iret .boolean rfl (by decide) ⟨rfl, rfl⟩ ⟨congrArg (fun z => some (Value.int z)) (b1_one (by unfold eHas; rw [decide_eq_true (Int32.not_lt.mp c1), decide_eq_true (Int32.not_le.mp c9)]; rfl)), rfl⟩ dX9_isBird_17
abbrev rmX9_areWords : Room := { frames := 0, cells := 0, slots := 0, locals := 0 }
set_option maxHeartbeats 4000000 in
set_option maxRecDepth 100000 in
theorem c_X9_areWords {l : Launch} {E : Ev} {x : Int32} {g y j : Gd} {td : Nat → Int32} {am : Nat → Nat} {r : va_W} (hI : Inv g) : CT l E yX9_areWords cX9_areWords 2 (some .boolean) rmX9_areWords [.ref (am 0), .int x] (wm E am g y j td ++ r) (IS (some (.int (bI (eHasS g x)))) (wm E am g y j td ++ r)) := by
  refine CT.of (lv := [(0, .ref (am 0)), (1, .int x)]) false (by decide +kernel) (by decide) (Nat.le_of_ble_eq_true rfl) rfl ?_
  have f0 := hI.words
  have f4 := hI.all
  refine wf_iload_n 1 dX9_areWords_0 rfl ?_
  refine wf_if_lt 17 dX9_areWords_1 (by decide) (fun c1 => ?_) (fun c1 => ?_)
  · refine wf_iconst (nI 0) dX9_areWords_17 (by decide) ?_
    exact wf_iret .boolean rfl (by decide) ⟨rfl, rfl⟩ ⟨congrArg (fun z => some (Value.int z)) (b1_zero (by unfold eHasS; rw [decide_eq_false (fun z => Int32.not_lt.mpr z c1), Bool.false_and])), rfl⟩ dX9_areWords_18
  · obtain ⟨n, hn, rfl⟩ := nI_of c1
    refine wf_iload_n 1 dX9_areWords_4 rfl ?_
    refine wf_aload_n 0 dX9_areWords_5 rfl ?_
    refine wf_getf (C := RX9) (T := TX9) (N := 27) (v := .int (nI (g 9 0))) 0 10 in_X9 rfl rfl (by decide) fl_X9_59 rfl dX9_areWords_6 ?_
    refine wf_ishr (nI (n >>> (g 9 0))) dX9_areWords_9 (nI_shr hn (by omega)) ?_
    refine wf_if_ne_n 17 dX9_areWords_10 (by decide) (Nat.lt_of_le_of_lt (Nat.shiftRight_le _ _) (by omega)) (fun c10 => ?_) (fun c10 => ?_)
    · refine wf_iconst (nI 0) dX9_areWords_17 (by decide) ?_
      exact wf_iret .boolean rfl (by decide) ⟨rfl, rfl⟩ ⟨congrArg (fun z => some (Value.int z)) (b1_zero (by unfold eHasS; rw [decide_eq_false (fun z => c10 ((areW hI hn).mpr ((nI_leI hn (by omega)).mp z))), Bool.and_false])), rfl⟩ dX9_areWords_18
    · refine wf_iconst (nI 1) dX9_areWords_13 (by decide) ?_
      refine wf_goto 18 dX9_areWords_14 (by decide) ?_
      exact wf_iret .boolean rfl (by decide) ⟨rfl, rfl⟩ ⟨congrArg (fun z => some (Value.int z)) (b1_one (by unfold eHasS; rw [decide_eq_true (nI_pos' hn), decide_eq_true (nI_le ((areW hI hn).mp c10) (by omega))]; rfl)), rfl⟩ dX9_areWords_18
abbrev rmX9_isGone : Room := { frames := 0, cells := 0, slots := 0, locals := 0 }
set_option maxHeartbeats 4000000 in
set_option maxRecDepth 100000 in
theorem c_X9_isGone {l : Launch} {E : Ev} {w : Nat} {g y j : Gd} {td : Nat → Int32} {am : Nat → Nat} {r : va_W} (hI : Inv g) (hw : w < 10) : CT l E yX9_isGone cX9_isGone 2 (some .boolean) rmX9_isGone [.ref (am 0), .int (nI w)] (wm E am g y j td ++ r) (IS (some (.int (bI (eGone g w)))) (wm E am g y j td ++ r)) := by
  refine CT.of (lv := [(0, .ref (am 0)), (1, .int (nI w))]) false (by decide +kernel) (by decide) (Nat.le_of_ble_eq_true rfl) rfl ?_
  have f0 := hI.words
  have f1 := hI.birds
  have f2 := hI.gone
  have f3 := hI.hour
  refine wf_aload_n 0 dX9_isGone_0 rfl ?_
  refine wf_getf (C := RX9) (T := TX9) (N := 27) (v := .int (nI (g 9 2))) 0 13 in_X9 rfl rfl (by decide) fl_X9_142 rfl dX9_isGone_1 ?_
  refine wf_iload_n 1 dX9_isGone_4 rfl ?_
  refine wf_ishr (nI ((g 9 2) >>> w)) dX9_isGone_5 (nI_shr (by omega) (by omega)) ?_
  refine wf_iconst (nI 1) dX9_isGone_6 (by decide) ?_
  refine wf_iand (nI (((g 9 2) >>> w) &&& 1)) dX9_isGone_7 (nI_land (Nat.lt_of_le_of_lt (Nat.shiftRight_le _ _) (by omega)) (by decide)) ?_
  refine wf_iconst (nI 1) dX9_isGone_8 (by decide) ?_
  refine wf_icmp_ne_n 16 dX9_isGone_9 (by decide) (Nat.lt_trans (and1 _) (by decide)) (by decide) (fun c9 => ?_) (fun c9 => ?_)
  · refine wf_iconst (nI 0) dX9_isGone_16 (by decide) ?_
    exact wf_iret .boolean rfl (by decide) ⟨rfl, rfl⟩ ⟨congrArg (fun z => some (Value.int z)) (b1_zero (decide_eq_false c9)), rfl⟩ dX9_isGone_17
  · refine wf_iconst (nI 1) dX9_isGone_12 (by decide) ?_
    refine wf_goto 17 dX9_isGone_13 (by decide) ?_
    exact wf_iret .boolean rfl (by decide) ⟨rfl, rfl⟩ ⟨congrArg (fun z => some (Value.int z)) (b1_one (decide_eq_true c9)), rfl⟩ dX9_isGone_17
abbrev rmX9_strengthOf : Room := { frames := 0, cells := 0, slots := 0, locals := 0 }
set_option maxHeartbeats 4000000 in
set_option maxRecDepth 100000 in
theorem c_X9_strengthOf {l : Launch} {E : Ev} {w : Nat} {g y j : Gd} {td : Nat → Int32} {am : Nat → Nat} {r : va_W} (hI : Inv g) (hw : w < 10) : CT l E yX9_strengthOf cX9_strengthOf 2 (some .int) rmX9_strengthOf [.ref (am 0), .int (nI w)] (wm E am g y j td ++ r) (IS (some (.int (nI (eStr g w)))) (wm E am g y j td ++ r)) := by
  refine CT.of (lv := [(0, .ref (am 0)), (1, .int (nI w))]) false (by decide +kernel) (by decide) (Nat.le_of_ble_eq_true rfl) rfl ?_
  have f0 := hI.words
  have f1 := hI.birds
  have f2 := hI.gone
  have f3 := hI.hour
  have f4 := hI.sweet w
  have f5 := hI.ink w
  have f6 := hI.bitter (g 1 w)
  refine wf_aload_n 0 dX9_strengthOf_0 rfl ?_
  refine wf_getf (C := RX9) (T := TX9) (N := 27) (v := .ref (am 2)) 0 1 in_X9 rfl rfl (by decide) fl_X9_13 rfl dX9_strengthOf_1 ?_
  refine wf_iload_n 1 dX9_strengthOf_4 rfl ?_
  refine wf_iald_n (nI (g 0 w)) 2 rfl (by omega) (by decide) rfl dX9_strengthOf_5 ?_
  refine wf_aload_n 0 dX9_strengthOf_6 rfl ?_
  refine wf_getf (C := RX9) (T := TX9) (N := 27) (v := .ref (am 9)) 0 8 in_X9 rfl rfl (by decide) fl_X9_34 rfl dX9_strengthOf_7 ?_
  refine wf_aload_n 0 dX9_strengthOf_10 rfl ?_
  refine wf_getf (C := RX9) (T := TX9) (N := 27) (v := .ref (am 3)) 0 2 in_X9 rfl rfl (by decide) fl_X9_16 rfl dX9_strengthOf_11 ?_
  refine wf_iload_n 1 dX9_strengthOf_14 rfl ?_
  refine wf_iald_n (nI (g 1 w)) 3 rfl (by omega) (by decide) rfl dX9_strengthOf_15 ?_
  refine wf_iald_n (nI (g 7 (g 1 w))) 9 rfl (by omega) (by decide) rfl dX9_strengthOf_16 ?_
  refine wf_icmp_le_n 41 dX9_strengthOf_17 (by decide) (by omega) (by omega) (fun c17 => ?_) (fun c17 => ?_)
  · refine wf_iconst (nI 0) dX9_strengthOf_41 (by decide) ?_
    exact wf_iret .int rfl (vp_nar_int _) ⟨rfl, rfl⟩ ⟨congrArg (fun z => some (Value.int z)) (by unfold eStr; rw [Nat.sub_eq_zero_of_le c17]), rfl⟩ dX9_strengthOf_42
  · refine wf_aload_n 0 dX9_strengthOf_20 rfl ?_
    refine wf_getf (C := RX9) (T := TX9) (N := 27) (v := .ref (am 2)) 0 1 in_X9 rfl rfl (by decide) fl_X9_13 rfl dX9_strengthOf_21 ?_
    refine wf_iload_n 1 dX9_strengthOf_24 rfl ?_
    refine wf_iald_n (nI (g 0 w)) 2 rfl (by omega) (by decide) rfl dX9_strengthOf_25 ?_
    refine wf_aload_n 0 dX9_strengthOf_26 rfl ?_
    refine wf_getf (C := RX9) (T := TX9) (N := 27) (v := .ref (am 9)) 0 8 in_X9 rfl rfl (by decide) fl_X9_34 rfl dX9_strengthOf_27 ?_
    refine wf_aload_n 0 dX9_strengthOf_30 rfl ?_
    refine wf_getf (C := RX9) (T := TX9) (N := 27) (v := .ref (am 3)) 0 2 in_X9 rfl rfl (by decide) fl_X9_16 rfl dX9_strengthOf_31 ?_
    refine wf_iload_n 1 dX9_strengthOf_34 rfl ?_
    refine wf_iald_n (nI (g 1 w)) 3 rfl (by omega) (by decide) rfl dX9_strengthOf_35 ?_
    refine wf_iald_n (nI (g 7 (g 1 w))) 9 rfl (by omega) (by decide) rfl dX9_strengthOf_36 ?_
    refine wf_isub (nI ((g 0 w) - (g 7 (g 1 w)))) dX9_strengthOf_37 (pk_sub (by omega)) ?_
    refine wf_goto 42 dX9_strengthOf_38 (by decide) ?_
    exact wf_iret .int rfl (vp_nar_int _) ⟨rfl, rfl⟩ ⟨congrArg (fun z => some (Value.int z)) (rfl), rfl⟩ dX9_strengthOf_42
