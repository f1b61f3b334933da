abbrev rmJ0_isLatin1_aae02 : Room := { frames := 0, cells := 0, slots := 0, locals := 0 }
set_option maxHeartbeats 4000000 in
set_option maxRecDepth 100000 in
theorem c_J0_isLatin1_aae02 {l : Launch} {E : Ev} {r : va_W} {i0 : Nat} (hi : i0 < 5) : CT l E yJ0_isLatin1_aae02 cJ0_isLatin1_aae02 1 (some .boolean) rmJ0_isLatin1_aae02 [.ref (E.2.2.1 i0)] (r) (IS (some (.int (nI 1))) r) := by
  refine CT.of (lv := [(0, .ref (E.2.2.1 i0))]) false (by decide +kernel) (by decide) (Nat.le_of_ble_eq_true rfl) rfl ?_
  refine wf_compact fl_J0_38 dJ0_isLatin1_aae02_0 ?_
  refine wf_if_eq_n 17 dJ0_isLatin1_aae02_3 (by decide) (by decide) (fun c3 => ?_) (fun c3 => ?_)
  · exact absurd c3 (by decide)
  · refine wf_aload_n 0 dJ0_isLatin1_aae02_6 rfl ?_
    refine wf_strcoder (i0 := i0) hi fl_J0_15 dJ0_isLatin1_aae02_7 ?_
    refine wf_if_ne_n 17 dJ0_isLatin1_aae02_10 (by decide) (by decide) (fun c10 => ?_) (fun c10 => ?_)
    · exact absurd rfl c10
    · refine wf_iconst (nI 1) dJ0_isLatin1_aae02_13 (by decide) ?_
      refine wf_goto 18 dJ0_isLatin1_aae02_14 (by decide) ?_
      exact wf_iret .boolean rfl (by decide) ⟨rfl, rfl⟩ ⟨congrArg (fun z => some (Value.int z)) (rfl), rfl⟩ dJ0_isLatin1_aae02_18
abbrev rmJ0_coder_7d493 : Room := { frames := 0, cells := 0, slots := 0, locals := 0 }
set_option maxHeartbeats 4000000 in
set_option maxRecDepth 100000 in
theorem c_J0_coder_7d493 {l : Launch} {E : Ev} {r : va_W} {i0 : Nat} (hi : i0 < 5) : CT l E yJ0_coder_7d493 cJ0_coder_7d493 1 (some .byte) rmJ0_coder_7d493 [.ref (E.2.2.1 i0)] (r) (IS (some (.int (nI 0))) r) := by
  refine CT.of (lv := [(0, .ref (E.2.2.1 i0))]) false (by decide +kernel) (by decide) (Nat.le_of_ble_eq_true rfl) rfl ?_
  refine wf_compact fl_J0_38 dJ0_coder_7d493_0 ?_
  refine wf_if_eq_n 13 dJ0_coder_7d493_3 (by decide) (by decide) (fun c3 => ?_) (fun c3 => ?_)
  · exact absurd c3 (by decide)
  · refine wf_aload_n 0 dJ0_coder_7d493_6 rfl ?_
    refine wf_strcoder (i0 := i0) hi fl_J0_15 dJ0_coder_7d493_7 ?_
    refine wf_goto 14 dJ0_coder_7d493_10 (by decide) ?_
    exact wf_iret .byte rfl (by decide) ⟨rfl, rfl⟩ ⟨congrArg (fun z => some (Value.int z)) (rfl), rfl⟩ dJ0_coder_7d493_14
abbrev rmJ0_length_8abf5 : Room := { frames := 1, cells := 0, slots := 0, locals := 20 }
set_option maxHeartbeats 4000000 in
set_option maxRecDepth 100000 in
theorem c_J0_length_8abf5 {l : Launch} {E : Ev} {r : va_W} {i0 : Nat} (hi : i0 < 5) : CT l E yJ0_length_8abf5 cJ0_length_8abf5 1 (some .int) rmJ0_length_8abf5 [.ref (E.2.2.1 i0)] (r) (IS (some (.int (nI (lenS.getD i0 0)))) r) := by
  refine CT.of (lv := [(0, .ref (E.2.2.1 i0))]) false (by decide +kernel) (by decide) (Nat.le_of_ble_eq_true rfl) rfl ?_
  have hL := lenS_le i0 hi
  refine wf_aload_n 0 dJ0_length_8abf5_0 rfl ?_
  refine wf_strval (i0 := i0) hi fl_J0_9 dJ0_length_8abf5_1 ?_
  refine wf_strlen (i0 := i0) (nI (lenS.getD i0 0)) hi rfl dJ0_length_8abf5_4 ?_
  refine wf_aload_n 0 dJ0_length_8abf5_5 rfl ?_
  refine wf_callStrD (As := []) (rest := [.int (nI (lenS.getD i0 0))]) hi (c_J0_coder_7d493 hi) kV_J0_335 rfl (by decide) (by decide) (Nat.le_of_ble_eq_true rfl) rfl rfl dJ0_length_8abf5_6 ?_
  refine wf_ishr (nI (lenS.getD i0 0)) dJ0_length_8abf5_9 (shr_0 (by omega)) ?_
  exact wf_iret .int rfl (vp_nar_int _) ⟨rfl, rfl⟩ ⟨congrArg (fun z => some (Value.int z)) (rfl), rfl⟩ dJ0_length_8abf5_10
abbrev rmJ0_isEmpty_aae02 : Room := { frames := 0, cells := 0, slots := 0, locals := 0 }
set_option maxHeartbeats 4000000 in
set_option maxRecDepth 100000 in
theorem c_J0_isEmpty_aae02 {l : Launch} {E : Ev} {r : va_W} {i0 : Nat} (hi : i0 < 5) : CT l E yJ0_isEmpty_aae02 cJ0_isEmpty_aae02 1 (some .boolean) rmJ0_isEmpty_aae02 [.ref (E.2.2.1 i0)] (r) (IS (some (.int (bI (decide (lenS.getD i0 0 = 0))))) r) := by
  refine CT.of (lv := [(0, .ref (E.2.2.1 i0))]) false (by decide +kernel) (by decide) (Nat.le_of_ble_eq_true rfl) rfl ?_
  have hL := lenS_le i0 hi
  refine wf_aload_n 0 dJ0_isEmpty_aae02_0 rfl ?_
  refine wf_strval (i0 := i0) hi fl_J0_9 dJ0_isEmpty_aae02_1 ?_
  refine wf_strlen (i0 := i0) (nI (lenS.getD i0 0)) hi rfl dJ0_isEmpty_aae02_4 ?_
  refine wf_if_ne_n 12 dJ0_isEmpty_aae02_5 (by decide) (by omega) (fun c5 => ?_) (fun c5 => ?_)
  · refine wf_iconst (nI 0) dJ0_isEmpty_aae02_12 (by decide) ?_
    exact wf_iret .boolean rfl (by decide) ⟨rfl, rfl⟩ ⟨congrArg (fun z => some (Value.int z)) (b1_zero (decide_eq_false c5)), rfl⟩ dJ0_isEmpty_aae02_13
  · refine wf_iconst (nI 1) dJ0_isEmpty_aae02_8 (by decide) ?_
    refine wf_goto 13 dJ0_isEmpty_aae02_9 (by decide) ?_
    exact wf_iret .boolean rfl (by decide) ⟨rfl, rfl⟩ ⟨congrArg (fun z => some (Value.int z)) (b1_one (decide_eq_true c5)), rfl⟩ dJ0_isEmpty_aae02_13
abbrev rmJ3_checkIndex_8e157 : Room := { frames := 0, cells := 0, slots := 0, locals := 0 }
set_option maxHeartbeats 4000000 in
set_option maxRecDepth 100000 in
theorem c_J3_checkIndex_z {l : Launch} {E : Ev} {r : va_W} {i n : Nat} (hi : i < n) (hn : n < 1000) : CT l E yJ3_checkIndex_8e157 cJ3_checkIndex_8e157 3 (some .int) rmJ3_checkIndex_8e157 [.int (nI i), .int (nI n), .null] (r) (IS (some (.int (nI i))) r) := by
  refine CT.of (lv := [(0, .int (nI i)), (1, .int (nI n)), (2, .null)]) false (by decide +kernel) (by decide) (Nat.le_of_ble_eq_true rfl) rfl ?_
  refine wf_iload_n 0 dJ3_checkIndex_8e157_0 rfl ?_
  refine wf_if_lt 9 dJ3_checkIndex_8e157_1 (by decide) (fun c1 => ?_) (fun c1 => ?_)
  · exact absurd c1 (nI_pos (by omega))
  · refine wf_iload_n 0 dJ3_checkIndex_8e157_4 rfl ?_
    refine wf_iload_n 1 dJ3_checkIndex_8e157_5 rfl ?_
    refine wf_icmp_lt_n 16 dJ3_checkIndex_8e157_6 (by decide) (by omega) (by omega) (fun c6 => ?_) (fun c6 => ?_)
    · refine wf_iload_n 0 dJ3_checkIndex_8e157_16 rfl ?_
      exact wf_iret .int rfl (vp_nar_int _) ⟨rfl, rfl⟩ ⟨congrArg (fun z => some (Value.int z)) (rfl), rfl⟩ dJ3_checkIndex_8e157_17
    · exact absurd c6 (by omega)
set_option maxHeartbeats 4000000 in
set_option maxRecDepth 100000 in
theorem c_J3_checkIndex_q {l : Launch} {E : Ev} {r : va_W} {i n : Nat} {q : Nat} (hi : i < n) (hn : n < 1000) : CT l E yJ3_checkIndex_8e157 cJ3_checkIndex_8e157 3 (some .int) rmJ3_checkIndex_8e157 [.int (nI i), .int (nI n), .ref q] (r) (IS (some (.int (nI i))) r) := by
  refine CT.of (lv := [(0, .int (nI i)), (1, .int (nI n)), (2, .ref q)]) false (by decide +kernel) (by decide) (Nat.le_of_ble_eq_true rfl) rfl ?_
  refine wf_iload_n 0 dJ3_checkIndex_8e157_0 rfl ?_
  refine wf_if_lt 9 dJ3_checkIndex_8e157_1 (by decide) (fun c1 => ?_) (fun c1 => ?_)
  · exact absurd c1 (nI_pos (by omega))
  · refine wf_iload_n 0 dJ3_checkIndex_8e157_4 rfl ?_
    refine wf_iload_n 1 dJ3_checkIndex_8e157_5 rfl ?_
    refine wf_icmp_lt_n 16 dJ3_checkIndex_8e157_6 (by decide) (by omega) (by omega) (fun c6 => ?_) (fun c6 => ?_)
    · refine wf_iload_n 0 dJ3_checkIndex_8e157_16 rfl ?_
      exact wf_iret .int rfl (vp_nar_int _) ⟨rfl, rfl⟩ ⟨congrArg (fun z => some (Value.int z)) (rfl), rfl⟩ dJ3_checkIndex_8e157_17
    · exact absurd c6 (by omega)
abbrev rmJ0_checkIndex_df160 : Room := { frames := 1, cells := 0, slots := 0, locals := 22 }
set_option maxHeartbeats 4000000 in
set_option maxRecDepth 100000 in
theorem c_J0_checkIndex_df160 {l : Launch} {E : Ev} {r : va_W} {i n : Nat} (hi : i < n) (hn : n < 1000) : CT l E yJ0_checkIndex_df160 cJ0_checkIndex_df160 2 none rmJ0_checkIndex_df160 [.int (nI i), .int (nI n)] (r) (IS (none) r) := by
  refine CT.of (lv := [(0, .int (nI i)), (1, .int (nI n))]) false (by decide +kernel) (by decide) (Nat.le_of_ble_eq_true rfl) rfl ?_
  refine wf_iload_n 0 dJ0_checkIndex_df160_0 rfl ?_
  refine wf_iload_n 1 dJ0_checkIndex_df160_1 rfl ?_
  refine wf_formatter fl_J0_1053 dJ0_checkIndex_df160_2 ?_ (fun q => ?_)
  · refine wf_callSD (As := [.int (nI i), .int (nI n), .null]) (rest := []) (c_J3_checkIndex_z hi hn) kS_J0_1059 rfl (by decide) (by decide) (Nat.le_of_ble_eq_true rfl) rfl dJ0_checkIndex_df160_5 ?_
    refine wf_pop dJ0_checkIndex_df160_8 rfl ?_
    exact wf_vret rfl ⟨rfl, rfl⟩ ⟨rfl, rfl⟩ dJ0_checkIndex_df160_9
  · refine wf_callSD (As := [.int (nI i), .int (nI n), .ref q]) (rest := []) (c_J3_checkIndex_q hi hn) kS_J0_1059 rfl (by decide) (by decide) (Nat.le_of_ble_eq_true rfl) rfl dJ0_checkIndex_df160_5 ?_
    refine wf_pop dJ0_checkIndex_df160_8 rfl ?_
    exact wf_vret rfl ⟨rfl, rfl⟩ ⟨rfl, rfl⟩ dJ0_checkIndex_df160_9
abbrev rmJ1_charAt_3b067 : Room := { frames := 2, cells := 0, slots := 0, locals := 43 }
set_option maxHeartbeats 4000000 in
set_option maxRecDepth 100000 in
theorem c_J1_charAt_3b067 {l : Launch} {E : Ev} {r : va_W} {i0 : Nat} {j : Nat} (hi : i0 < 5) (hj : j < lenS.getD i0 0) : CT l E yJ1_charAt_3b067 cJ1_charAt_3b067 2 (some .char) rmJ1_charAt_3b067 [.ref (E.2.2.2 i0), .int (nI j)] (r) (IS (some (.int (nI (chS i0 j)))) r) := by
  refine CT.of (lv := [(0, .ref (E.2.2.2 i0)), (1, .int (nI j))]) false (by decide +kernel) (by decide) (Nat.le_of_ble_eq_true rfl) rfl ?_
  have hL := lenS_le i0 hi
  have hc := chS_lt i0 hi j hj
  refine wf_iload_n 1 dJ1_charAt_3b067_0 rfl ?_
  refine wf_aload_n 0 dJ1_charAt_3b067_1 rfl ?_
  refine wf_strlen (i0 := i0) (nI (lenS.getD i0 0)) hi rfl dJ1_charAt_3b067_2 ?_
  refine wf_callSv (As := [.int (nI j), .int (nI (lenS.getD i0 0))]) (rest := []) (c_J0_checkIndex_df160 (by omega) (by omega)) kS_J1_9 rfl (by decide) (by decide) (Nat.le_of_ble_eq_true rfl) rfl dJ1_charAt_3b067_3 ?_
  refine wf_aload_n 0 dJ1_charAt_3b067_6 rfl ?_
  refine wf_iload_n 1 dJ1_charAt_3b067_7 rfl ?_
  refine wf_strbyte (i0 := i0) (nI (chS i0 j)) hi hj (by omega) (chS_b i0 hi j hj) dJ1_charAt_3b067_8 ?_
  refine wf_sipush (nI 255) dJ1_charAt_3b067_9 (by decide) ?_
  refine wf_iand (nI (chS i0 j)) dJ1_charAt_3b067_12 (by rw [nI_land (by omega) (by decide), and255 _ hc]) ?_
  refine wf_i2c (nI (chS i0 j)) dJ1_charAt_3b067_13 (i2c_n (by omega)) ?_
  exact wf_iret .char rfl (pk_charN (by omega)).1 ⟨rfl, rfl⟩ ⟨congrArg (fun z => some (Value.int z)) (rfl), rfl⟩ dJ1_charAt_3b067_14
abbrev rmJ0_charAt_5068e : Room := { frames := 3, cells := 0, slots := 0, locals := 64 }
set_option maxHeartbeats 4000000 in
set_option maxRecDepth 100000 in
theorem c_J0_charAt_5068e {l : Launch} {E : Ev} {r : va_W} {i0 : Nat} {j : Nat} (hi : i0 < 5) (hj : j < lenS.getD i0 0) : CT l E yJ0_charAt_5068e cJ0_charAt_5068e 2 (some .char) rmJ0_charAt_5068e [.ref (E.2.2.1 i0), .int (nI j)] (r) (IS (some (.int (nI (chS i0 j)))) r) := by
  refine CT.of (lv := [(0, .ref (E.2.2.1 i0)), (1, .int (nI j))]) false (by decide +kernel) (by decide) (Nat.le_of_ble_eq_true rfl) rfl ?_
  have hc := chS_lt i0 hi j hj
  refine wf_aload_n 0 dJ0_charAt_5068e_0 rfl ?_
  refine wf_callStrD (As := []) (rest := []) hi (c_J0_isLatin1_aae02 hi) kV_J0_492 rfl (by decide) (by decide) (Nat.le_of_ble_eq_true rfl) rfl rfl dJ0_charAt_5068e_1 ?_
  refine wf_if_eq_n 16 dJ0_charAt_5068e_4 (by decide) (by decide) (fun c4 => ?_) (fun c4 => ?_)
  · exact absurd c4 (by decide)
  · refine wf_aload_n 0 dJ0_charAt_5068e_7 rfl ?_
    refine wf_strval (i0 := i0) hi fl_J0_9 dJ0_charAt_5068e_8 ?_
    refine wf_iload_n 1 dJ0_charAt_5068e_11 rfl ?_
    refine wf_callSD (As := [.ref (E.2.2.2 i0), .int (nI j)]) (rest := []) (c_J1_charAt_3b067 hi hj) kS_J0_495 rfl (by decide) (by decide) (Nat.le_of_ble_eq_true rfl) rfl dJ0_charAt_5068e_12 ?_
    exact wf_iret .char rfl (pk_charN (by omega)).1 ⟨rfl, rfl⟩ ⟨congrArg (fun z => some (Value.int z)) (rfl), rfl⟩ dJ0_charAt_5068e_15
abbrev rmJ1_canEncode_9a6ad : Room := { frames := 0, cells := 0, slots := 0, locals := 0 }
set_option maxHeartbeats 4000000 in
set_option maxRecDepth 100000 in
theorem c_J1_canEncode_9a6ad {l : Launch} {E : Ev} {r : va_W} {c : Nat} (hc : c < 256) : CT l E yJ1_canEncode_9a6ad cJ1_canEncode_9a6ad 1 (some .boolean) rmJ1_canEncode_9a6ad [.int (nI c)] (r) (IS (some (.int (nI 1))) r) := by
  refine CT.of (lv := [(0, .int (nI c))]) false (by decide +kernel) (by decide) (Nat.le_of_ble_eq_true rfl) rfl ?_
  refine wf_iload_n 0 dJ1_canEncode_9a6ad_0 rfl ?_
  refine wf_if_lt 15 dJ1_canEncode_9a6ad_1 (by decide) (fun c1 => ?_) (fun c1 => ?_)
  · exact absurd c1 (nI_pos (by omega))
  · refine wf_iload_n 0 dJ1_canEncode_9a6ad_4 rfl ?_
    refine wf_sipush (nI 255) dJ1_canEncode_9a6ad_5 (by decide) ?_
    refine wf_icmp_gt_n 15 dJ1_canEncode_9a6ad_8 (by decide) (by omega) (by omega) (fun c8 => ?_) (fun c8 => ?_)
    · exact absurd c8 (by omega)
    · refine wf_iconst (nI 1) dJ1_canEncode_9a6ad_11 (by decide) ?_
      refine wf_goto 16 dJ1_canEncode_9a6ad_12 (by decide) ?_
      exact wf_iret .boolean rfl (by decide) ⟨rfl, rfl⟩ ⟨congrArg (fun z => some (Value.int z)) (rfl), rfl⟩ dJ1_canEncode_9a6ad_16
abbrev rmJ1_indexOfChar_4cfef : Room := { frames := 0, cells := 0, slots := 0, locals := 0 }
set_option maxHeartbeats 4000000 in
set_option maxRecDepth 100000 in
theorem c_J1_indexOfChar_4cfef {l : Launch} {E : Ev} {r : va_W} {c : Nat} (hc : c < 256) : CT l E yJ1_indexOfChar_4cfef cJ1_indexOfChar_4cfef 6 (some .int) rmJ1_indexOfChar_4cfef [.ref (E.2.2.2 4), .int (nI c), .int (nI 0), .int (nI 6)] (r) (IS (some (.int (eM (kixO c)))) r) := by
  refine CT.of (lv := [(0, .ref (E.2.2.2 4)), (1, .int (nI c)), (2, .int (nI 0)), (3, .int (nI 6))]) false (by decide +kernel) (by decide) (Nat.le_of_ble_eq_true rfl) rfl ?_
  refine wf_iload_n 1 dJ1_indexOfChar_4cfef_0 rfl ?_
  refine wf_i2b ((nI c).toInt8.toInt32) dJ1_indexOfChar_4cfef_1 rfl ?_
  refine wf_istore [(4, .int ((nI c).toInt8.toInt32)), (0, .ref (E.2.2.2 4)), (1, .int (nI c)), (2, .int (nI 0)), (3, .int (nI 6))] dJ1_indexOfChar_4cfef_2 (by decide) rfl ?_
  refine wf_iload_n 3 dJ1_indexOfChar_4cfef_4 rfl ?_
  refine wf_istore [(5, .int (nI 0)), (4, .int ((nI c).toInt8.toInt32)), (0, .ref (E.2.2.2 4)), (1, .int (nI c)), (2, .int (nI 0)), (3, .int (nI 6))] dJ1_indexOfChar_4cfef_5 (by decide) rfl ?_
  refine wf_iload 0 dJ1_indexOfChar_4cfef_7 rfl ?_
  refine wf_iload_n 5 dJ1_indexOfChar_4cfef_9 rfl ?_
  refine wf_icmp_ge_n 31 dJ1_indexOfChar_4cfef_10 (by decide) (by omega) (by omega) (fun c10 => ?_) (fun c10 => ?_)
  · exact absurd c10 (by decide)
  · refine wf_aload_n 2 dJ1_indexOfChar_4cfef_13 rfl ?_
    refine wf_iload 0 dJ1_indexOfChar_4cfef_14 rfl ?_
    refine wf_strbyte (i0 := 4) (nI 115) (by decide) (by decide) (by omega) (by decide) dJ1_indexOfChar_4cfef_16 ?_
    refine wf_iload 1 dJ1_indexOfChar_4cfef_17 rfl ?_
    refine wf_icmp_ne 25 dJ1_indexOfChar_4cfef_19 (by decide) (fun z115 => ?_) (fun z115 => ?_)
    · replace z115 := fun e => z115 ((k8 c hc 115 (by decide)).mpr e)
      refine wf_iinc (nI 1) 0 [(5, .int (nI 1)), (4, .int ((nI c).toInt8.toInt32)), (0, .ref (E.2.2.2 4)), (1, .int (nI c)), (2, .int (nI 0)), (3, .int (nI 6))] dJ1_indexOfChar_4cfef_25 rfl (by decide) (by decide) rfl ?_
      refine wf_goto 7 dJ1_indexOfChar_4cfef_28 (by decide) ?_
      refine wf_iload 0 dJ1_indexOfChar_4cfef_7 rfl ?_
      refine wf_iload_n 5 dJ1_indexOfChar_4cfef_9 rfl ?_
      refine wf_icmp_ge_n 31 dJ1_indexOfChar_4cfef_10 (by decide) (by omega) (by omega) (fun c10 => ?_) (fun c10 => ?_)
      · exact absurd c10 (by decide)
      · refine wf_aload_n 2 dJ1_indexOfChar_4cfef_13 rfl ?_
        refine wf_iload 0 dJ1_indexOfChar_4cfef_14 rfl ?_
        refine wf_strbyte (i0 := 4) (nI 116) (by decide) (by decide) (by omega) (by decide) dJ1_indexOfChar_4cfef_16 ?_
        refine wf_iload 1 dJ1_indexOfChar_4cfef_17 rfl ?_
        refine wf_icmp_ne 25 dJ1_indexOfChar_4cfef_19 (by decide) (fun z116 => ?_) (fun z116 => ?_)
        · replace z116 := fun e => z116 ((k8 c hc 116 (by decide)).mpr e)
          refine wf_iinc (nI 2) 0 [(5, .int (nI 2)), (4, .int ((nI c).toInt8.toInt32)), (0, .ref (E.2.2.2 4)), (1, .int (nI c)), (2, .int (nI 0)), (3, .int (nI 6))] dJ1_indexOfChar_4cfef_25 rfl (by decide) (by decide) rfl ?_
          refine wf_goto 7 dJ1_indexOfChar_4cfef_28 (by decide) ?_
          refine wf_iload 0 dJ1_indexOfChar_4cfef_7 rfl ?_
          refine wf_iload_n 5 dJ1_indexOfChar_4cfef_9 rfl ?_
          refine wf_icmp_ge_n 31 dJ1_indexOfChar_4cfef_10 (by decide) (by omega) (by omega) (fun c10 => ?_) (fun c10 => ?_)
          · exact absurd c10 (by decide)
          · refine wf_aload_n 2 dJ1_indexOfChar_4cfef_13 rfl ?_
            refine wf_iload 0 dJ1_indexOfChar_4cfef_14 rfl ?_
            refine wf_strbyte (i0 := 4) (nI 99) (by decide) (by decide) (by omega) (by decide) dJ1_indexOfChar_4cfef_16 ?_
            refine wf_iload 1 dJ1_indexOfChar_4cfef_17 rfl ?_
            refine wf_icmp_ne 25 dJ1_indexOfChar_4cfef_19 (by decide) (fun z99 => ?_) (fun z99 => ?_)
            · replace z99 := fun e => z99 ((k8 c hc 99 (by decide)).mpr e)
              refine wf_iinc (nI 3) 0 [(5, .int (nI 3)), (4, .int ((nI c).toInt8.toInt32)), (0, .ref (E.2.2.2 4)), (1, .int (nI c)), (2, .int (nI 0)), (3, .int (nI 6))] dJ1_indexOfChar_4cfef_25 rfl (by decide) (by decide) rfl ?_
              refine wf_goto 7 dJ1_indexOfChar_4cfef_28 (by decide) ?_
              refine wf_iload 0 dJ1_indexOfChar_4cfef_7 rfl ?_
              refine wf_iload_n 5 dJ1_indexOfChar_4cfef_9 rfl ?_
              refine wf_icmp_ge_n 31 dJ1_indexOfChar_4cfef_10 (by decide) (by omega) (by omega) (fun c10 => ?_) (fun c10 => ?_)
              · exact absurd c10 (by decide)
              · refine wf_aload_n 2 dJ1_indexOfChar_4cfef_13 rfl ?_
                refine wf_iload 0 dJ1_indexOfChar_4cfef_14 rfl ?_
                refine wf_strbyte (i0 := 4) (nI 111) (by decide) (by decide) (by omega) (by decide) dJ1_indexOfChar_4cfef_16 ?_
                refine wf_iload 1 dJ1_indexOfChar_4cfef_17 rfl ?_
                refine wf_icmp_ne 25 dJ1_indexOfChar_4cfef_19 (by decide) (fun z111 => ?_) (fun z111 => ?_)
                · replace z111 := fun e => z111 ((k8 c hc 111 (by decide)).mpr e)
                  refine wf_iinc (nI 4) 0 [(5, .int (nI 4)), (4, .int ((nI c).toInt8.toInt32)), (0, .ref (E.2.2.2 4)), (1, .int (nI c)), (2, .int (nI 0)), (3, .int (nI 6))] dJ1_indexOfChar_4cfef_25 rfl (by decide) (by decide) rfl ?_
                  refine wf_goto 7 dJ1_indexOfChar_4cfef_28 (by decide) ?_
                  refine wf_iload 0 dJ1_indexOfChar_4cfef_7 rfl ?_
                  refine wf_iload_n 5 dJ1_indexOfChar_4cfef_9 rfl ?_
                  refine wf_icmp_ge_n 31 dJ1_indexOfChar_4cfef_10 (by decide) (by omega) (by omega) (fun c10 => ?_) (fun c10 => ?_)
                  · exact absurd c10 (by decide)
                  · refine wf_aload_n 2 dJ1_indexOfChar_4cfef_13 rfl ?_
                    refine wf_iload 0 dJ1_indexOfChar_4cfef_14 rfl ?_
                    refine wf_strbyte (i0 := 4) (nI 103) (by decide) (by decide) (by omega) (by decide) dJ1_indexOfChar_4cfef_16 ?_
                    refine wf_iload 1 dJ1_indexOfChar_4cfef_17 rfl ?_
                    refine wf_icmp_ne 25 dJ1_indexOfChar_4cfef_19 (by decide) (fun z103 => ?_) (fun z103 => ?_)
                    · replace z103 := fun e => z103 ((k8 c hc 103 (by decide)).mpr e)
                      refine wf_iinc (nI 5) 0 [(5, .int (nI 5)), (4, .int ((nI c).toInt8.toInt32)), (0, .ref (E.2.2.2 4)), (1, .int (nI c)), (2, .int (nI 0)), (3, .int (nI 6))] dJ1_indexOfChar_4cfef_25 rfl (by decide) (by decide) rfl ?_
                      refine wf_goto 7 dJ1_indexOfChar_4cfef_28 (by decide) ?_
                      refine wf_iload 0 dJ1_indexOfChar_4cfef_7 rfl ?_
                      refine wf_iload_n 5 dJ1_indexOfChar_4cfef_9 rfl ?_
                      refine wf_icmp_ge_n 31 dJ1_indexOfChar_4cfef_10 (by decide) (by omega) (by omega) (fun c10 => ?_) (fun c10 => ?_)
                      · exact absurd c10 (by decide)
                      · refine wf_aload_n 2 dJ1_indexOfChar_4cfef_13 rfl ?_
                        refine wf_iload 0 dJ1_indexOfChar_4cfef_14 rfl ?_
                        refine wf_strbyte (i0 := 4) (nI 102) (by decide) (by decide) (by omega) (by decide) dJ1_indexOfChar_4cfef_16 ?_
                        refine wf_iload 1 dJ1_indexOfChar_4cfef_17 rfl ?_
                        refine wf_icmp_ne 25 dJ1_indexOfChar_4cfef_19 (by decide) (fun z102 => ?_) (fun z102 => ?_)
                        · replace z102 := fun e => z102 ((k8 c hc 102 (by decide)).mpr e)
                          refine wf_iinc (nI 6) 0 [(5, .int (nI 6)), (4, .int ((nI c).toInt8.toInt32)), (0, .ref (E.2.2.2 4)), (1, .int (nI c)), (2, .int (nI 0)), (3, .int (nI 6))] dJ1_indexOfChar_4cfef_25 rfl (by decide) (by decide) rfl ?_
                          refine wf_goto 7 dJ1_indexOfChar_4cfef_28 (by decide) ?_
                          refine wf_iload 0 dJ1_indexOfChar_4cfef_7 rfl ?_
                          refine wf_iload_n 5 dJ1_indexOfChar_4cfef_9 rfl ?_
                          refine wf_icmp_ge_n 31 dJ1_indexOfChar_4cfef_10 (by decide) (by omega) (by omega) (fun c10 => ?_) (fun c10 => ?_)
                          · refine wf_iconst (-1) dJ1_indexOfChar_4cfef_31 (by decide) ?_
                            exact wf_iret .int rfl (vp_nar_int _) ⟨rfl, rfl⟩ ⟨congrArg (fun z => some (Value.int z)) (by unfold kixO; rw [if_neg z115, if_neg z116, if_neg z99, if_neg z111, if_neg z103, if_neg z102]; rfl), rfl⟩ dJ1_indexOfChar_4cfef_32
                          · exact absurd c10 (by decide)
                        · replace z102 := (k8 c hc 102 (by decide)).mp z102
                          refine wf_iload 0 dJ1_indexOfChar_4cfef_22 rfl ?_
                          exact wf_iret .int rfl (vp_nar_int _) ⟨rfl, rfl⟩ ⟨congrArg (fun z => some (Value.int z)) (by unfold kixO; rw [if_neg z115, if_neg z116, if_neg z99, if_neg z111, if_neg z103, if_pos z102]; rfl), rfl⟩ dJ1_indexOfChar_4cfef_24
                    · replace z103 := (k8 c hc 103 (by decide)).mp z103
                      refine wf_iload 0 dJ1_indexOfChar_4cfef_22 rfl ?_
                      exact wf_iret .int rfl (vp_nar_int _) ⟨rfl, rfl⟩ ⟨congrArg (fun z => some (Value.int z)) (by unfold kixO; rw [if_neg z115, if_neg z116, if_neg z99, if_neg z111, if_pos z103]; rfl), rfl⟩ dJ1_indexOfChar_4cfef_24
                · replace z111 := (k8 c hc 111 (by decide)).mp z111
                  refine wf_iload 0 dJ1_indexOfChar_4cfef_22 rfl ?_
                  exact wf_iret .int rfl (vp_nar_int _) ⟨rfl, rfl⟩ ⟨congrArg (fun z => some (Value.int z)) (by unfold kixO; rw [if_neg z115, if_neg z116, if_neg z99, if_pos z111]; rfl), rfl⟩ dJ1_indexOfChar_4cfef_24
            · replace z99 := (k8 c hc 99 (by decide)).mp z99
              refine wf_iload 0 dJ1_indexOfChar_4cfef_22 rfl ?_
              exact wf_iret .int rfl (vp_nar_int _) ⟨rfl, rfl⟩ ⟨congrArg (fun z => some (Value.int z)) (by unfold kixO; rw [if_neg z115, if_neg z116, if_pos z99]; rfl), rfl⟩ dJ1_indexOfChar_4cfef_24
        · replace z116 := (k8 c hc 116 (by decide)).mp z116
          refine wf_iload 0 dJ1_indexOfChar_4cfef_22 rfl ?_
          exact wf_iret .int rfl (vp_nar_int _) ⟨rfl, rfl⟩ ⟨congrArg (fun z => some (Value.int z)) (by unfold kixO; rw [if_neg z115, if_pos z116]; rfl), rfl⟩ dJ1_indexOfChar_4cfef_24
    · replace z115 := (k8 c hc 115 (by decide)).mp z115
      refine wf_iload 0 dJ1_indexOfChar_4cfef_22 rfl ?_
      exact wf_iret .int rfl (vp_nar_int _) ⟨rfl, rfl⟩ ⟨congrArg (fun z => some (Value.int z)) (by unfold kixO; rw [if_pos z115]; rfl), rfl⟩ dJ1_indexOfChar_4cfef_24
abbrev rmJ1_indexOf_4cfef : Room := { frames := 1, cells := 0, slots := 0, locals := 25 }
set_option maxHeartbeats 4000000 in
set_option maxRecDepth 100000 in
theorem c_J1_indexOf_4cfef {l : Launch} {E : Ev} {r : va_W} {c : Nat} (hc : c < 256) : CT l E yJ1_indexOf_4cfef cJ1_indexOf_4cfef 4 (some .int) rmJ1_indexOf_4cfef [.ref (E.2.2.2 4), .int (nI c), .int (nI 0), .int (nI 6)] (r) (IS (some (.int (eM (kixO c)))) r) := by
  refine CT.of (lv := [(0, .ref (E.2.2.2 4)), (1, .int (nI c)), (2, .int (nI 0)), (3, .int (nI 6))]) false (by decide +kernel) (by decide) (Nat.le_of_ble_eq_true rfl) rfl ?_
  refine wf_iload_n 1 dJ1_indexOf_4cfef_0 rfl ?_
  refine wf_callSD (As := [.int (nI c)]) (rest := []) (c_J1_canEncode_9a6ad hc) kS_J1_88 rfl (by decide) (by decide) (Nat.le_of_ble_eq_true rfl) rfl dJ1_indexOf_4cfef_1 ?_
  refine wf_if_ne_n 9 dJ1_indexOf_4cfef_4 (by decide) (by decide) (fun c4 => ?_) (fun c4 => ?_)
  · refine wf_iload_n 2 dJ1_indexOf_4cfef_9 rfl ?_
    refine wf_iconst (nI 0) dJ1_indexOf_4cfef_10 (by decide) ?_
    refine wf_math_max (nI 0) km_J1_92 (by decide) (by decide) (by decide) (by decide) dJ1_indexOf_4cfef_11 ?_
    refine wf_istore_n [(2, .int (nI 0)), (0, .ref (E.2.2.2 4)), (1, .int (nI c)), (3, .int (nI 6))] dJ1_indexOf_4cfef_14 rfl (by decide) rfl ?_
    refine wf_iload_n 3 dJ1_indexOf_4cfef_15 rfl ?_
    refine wf_aload_n 1 dJ1_indexOf_4cfef_16 rfl ?_
    refine wf_strlen (i0 := 4) (nI 6) (by decide) rfl dJ1_indexOf_4cfef_17 ?_
    refine wf_math_min (nI 6) km_J1_38 (by decide) (by decide) (by decide) (by decide) dJ1_indexOf_4cfef_18 ?_
    refine wf_istore_n [(3, .int (nI 6)), (2, .int (nI 0)), (0, .ref (E.2.2.2 4)), (1, .int (nI c))] dJ1_indexOf_4cfef_21 rfl (by decide) rfl ?_
    refine wf_iload_n 1 dJ1_indexOf_4cfef_22 rfl ?_
    refine wf_iload_n 0 dJ1_indexOf_4cfef_23 rfl ?_
    refine wf_icmp_lt_n 29 dJ1_indexOf_4cfef_24 (by decide) (by omega) (by omega) (fun c24 => ?_) (fun c24 => ?_)
    · refine wf_aload_n 2 dJ1_indexOf_4cfef_29 rfl ?_
      refine wf_iload_n 3 dJ1_indexOf_4cfef_30 rfl ?_
      refine wf_iload_n 1 dJ1_indexOf_4cfef_31 rfl ?_
      refine wf_iload_n 0 dJ1_indexOf_4cfef_32 rfl ?_
      refine wf_callSD (As := [.ref (E.2.2.2 4), .int (nI c), .int (nI 0), .int (nI 6)]) (rest := []) (c_J1_indexOfChar_4cfef hc) kS_J1_95 rfl (by decide) (by decide) (Nat.le_of_ble_eq_true rfl) rfl dJ1_indexOf_4cfef_33 ?_
      exact wf_iret .int rfl (vp_nar_int _) ⟨rfl, rfl⟩ ⟨congrArg (fun z => some (Value.int z)) (rfl), rfl⟩ dJ1_indexOf_4cfef_36
    · exact absurd c24 (by decide)
  · exact absurd c4 (by decide)
abbrev rmJ0_indexOf_7cf53 : Room := { frames := 2, cells := 0, slots := 0, locals := 48 }
set_option maxHeartbeats 4000000 in
set_option maxRecDepth 100000 in
theorem c_J0_indexOf_7cf53 {l : Launch} {E : Ev} {r : va_W} {c : Nat} (hc : c < 256) : CT l E yJ0_indexOf_7cf53 cJ0_indexOf_7cf53 3 (some .int) rmJ0_indexOf_7cf53 [.ref (E.2.2.1 4), .int (nI c), .int (nI 0)] (r) (IS (some (.int (eM (kixO c)))) r) := by
  refine CT.of (lv := [(0, .ref (E.2.2.1 4)), (1, .int (nI c)), (2, .int (nI 0))]) false (by decide +kernel) (by decide) (Nat.le_of_ble_eq_true rfl) rfl ?_
  refine wf_aload_n 0 dJ0_indexOf_7cf53_0 rfl ?_
  refine wf_callStrD (As := []) (rest := []) (by decide) (c_J0_isLatin1_aae02 (by decide)) kV_J0_492 rfl (by decide) (by decide) (Nat.le_of_ble_eq_true rfl) rfl rfl dJ0_indexOf_7cf53_1 ?_
  refine wf_if_eq_n 23 dJ0_indexOf_7cf53_4 (by decide) (by decide) (fun c4 => ?_) (fun c4 => ?_)
  · exact absurd c4 (by decide)
  · refine wf_aload_n 0 dJ0_indexOf_7cf53_7 rfl ?_
    refine wf_strval (i0 := 4) (by decide) fl_J0_9 dJ0_indexOf_7cf53_8 ?_
    refine wf_iload_n 1 dJ0_indexOf_7cf53_11 rfl ?_
    refine wf_iload_n 2 dJ0_indexOf_7cf53_12 rfl ?_
    refine wf_aload_n 0 dJ0_indexOf_7cf53_13 rfl ?_
    refine wf_callStrD (As := []) (rest := [.int (nI 0), .int (nI c), .ref (E.2.2.2 4)]) (by decide) (c_J0_length_8abf5 (by decide)) kV_J0_505 rfl (by decide) (by decide) (Nat.le_of_ble_eq_true rfl) rfl rfl dJ0_indexOf_7cf53_14 ?_
    refine wf_top (y := .int (nI 6)) rfl ?_
    refine wf_callSD (As := [.ref (E.2.2.2 4), .int (nI c), .int (nI 0), .int (nI 6)]) (rest := []) (c_J1_indexOf_4cfef hc) kS_J0_637 rfl (by decide) (by decide) (Nat.le_of_ble_eq_true rfl) rfl dJ0_indexOf_7cf53_17 ?_
    refine wf_goto 36 dJ0_indexOf_7cf53_20 (by decide) ?_
    exact wf_iret .int rfl (vp_nar_int _) ⟨rfl, rfl⟩ ⟨congrArg (fun z => some (Value.int z)) (rfl), rfl⟩ dJ0_indexOf_7cf53_36
abbrev rmJ0_indexOf_0f7a4 : Room := { frames := 3, cells := 0, slots := 0, locals := 70 }
set_option maxHeartbeats 4000000 in
set_option maxRecDepth 100000 in
theorem c_J0_indexOf_0f7a4 {l : Launch} {E : Ev} {r : va_W} {c : Nat} (hc : c < 256) : CT l E yJ0_indexOf_0f7a4 cJ0_indexOf_0f7a4 2 (some .int) rmJ0_indexOf_0f7a4 [.ref (E.2.2.1 4), .int (nI c)] (r) (IS (some (.int (eM (kixO c)))) r) := by
  refine CT.of (lv := [(0, .ref (E.2.2.1 4)), (1, .int (nI c))]) false (by decide +kernel) (by decide) (Nat.le_of_ble_eq_true rfl) rfl ?_
  refine wf_aload_n 0 dJ0_indexOf_0f7a4_0 rfl ?_
  refine wf_iload_n 1 dJ0_indexOf_0f7a4_1 rfl ?_
  refine wf_iconst (nI 0) dJ0_indexOf_0f7a4_2 (by decide) ?_
  refine wf_callStrD (As := [.int (nI c), .int (nI 0)]) (rest := []) (by decide) (c_J0_indexOf_7cf53 hc) kV_J0_633 rfl (by decide) (by decide) (Nat.le_of_ble_eq_true rfl) rfl rfl dJ0_indexOf_0f7a4_3 ?_
  exact wf_iret .int rfl (vp_nar_int _) ⟨rfl, rfl⟩ ⟨congrArg (fun z => some (Value.int z)) (rfl), rfl⟩ dJ0_indexOf_0f7a4_6
