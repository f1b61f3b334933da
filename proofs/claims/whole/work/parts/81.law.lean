/-! the law -/
theorem lw_retA {p : Program} {l : Launch} {e : Env} {s : State} {m : MethodId} {args : Array Value} {below : List Frame} {meth : Method} {c : Code} (hx : p.tables.exec = Jvm.exec) (hb : c.code = code) (hr : meth.sig.returnType = ret) (hlocks : meth.locks = false) {pc : Nat} {H : Heap} {ls : Array Slot} (hdg : decode code pc = .ok (.ireturn, 1)) : W p l e room_1 s m args below meth c H [] 59 986 (lw_Z below args s) (F0 m pc ls [.int 1]) := by
  intro T hT X
  obtain ⟨fs, hret, hrun, hended, hW, hframe⟩ := X.leave (v := some (.int 1)) (hlocks := hlocks) (fun h => by rw [hr] at h; cases h)
  have hmeth' : T.vm.method? m = some meth := X.method'
  refine ⟨T.setFrames fs, ?_, .returned (some (.int 1)), hrun, hended, rfl, ⟨_, rfl⟩, hW, hframe⟩
  jvm_step X.here [X.here.top, hx, hb, hdg, hmeth', hr, ret, narrow_b1]
  (try refine ⟨rfl, ?_⟩); (try refine ⟨rfl, ?_⟩)
  first | (intro acts; rw [hret _ acts rfl rfl rfl]) | rw [hret _ _ rfl rfl rfl]
  exact Steps.refl _
def XtL (b L : Nat) (xs : Nat → Int32) (s : State) : Prop := va_X b L xs s s.heap ∧ b < s.heap.size
theorem nA {b sz : Nat} (h : b < sz) : ¬ va_A [] sz b := by
  intro z
  rcases z with ⟨k, e, hk⟩ | h2
  · simp at hk
  · exact absurd h (Nat.not_lt.mpr h2)
section LAW
variable {l : Launch} {E : Ev} {own : String} {cc : ByteArray} {nL : Nat} {re : Option FieldType} {rm : Room} {ini : Bool} {QQ : Qe} {ce sl pc : Nat} {lv : List (Nat × Value)} {st : List Value} {w : va_W} {b L : Nat} {xs : Nat → Int32}
theorem wf_slen (d : decode cc pc = .ok (.arraylength, 1)) (k : WF l E own cc nL re rm ini (XtL b L xs) QQ [] ce sl (pc + 1) lv (.int (nI L) :: st) w) : WF l E own cc nL re rm ini (XtL b L xs) QQ [] ce sl pc lv (.ref b :: st) w := by
  intro p e s m args below meth c H locs ls hC hl hP hD hS
  obtain ⟨hx, hb, hml, hown, hts, hr, hlk, hEK, hES, hin, hX, hbl⟩ := id hC
  exact va_slen hx hb hX hbl (nA hbl) hS d (k p e s m args below meth c H locs ls hC hl hP hD hS)
theorem wf_sld {j : Nat} (v : Int32) (hj : j < L) (hL : L ≤ 4096) (hv : xs j = v) (d : decode cc pc = .ok (.iaload, 1)) (k : WF l E own cc nL re rm ini (XtL b L xs) QQ [] ce sl (pc + 1) lv (.int v :: st) w) : WF l E own cc nL re rm ini (XtL b L xs) QQ [] ce sl pc lv (.int (nI j) :: .ref b :: st) w := by
  intro p e s m args below meth c H locs ls hC hl hP hD hS
  obtain ⟨hx, hb, hml, hown, hts, hr, hlk, hEK, hES, hin, hX, hbl⟩ := id hC
  subst hv
  have ej : (nI j).toNatClampNeg = j := nI_clamp (by omega)
  refine va_sld hx hb hX hbl (nA hbl) hS (vp_in_nI hj (by omega)) d ?_
  rw [ej]
  exact k p e s m args below meth c H locs ls hC hl hP hD hS
theorem wf_lend (d : decode code pc = .ok (.ireturn, 1)) : WF l E own code nL ret room_1 ini (XtL b L xs) lw_Z [] 59 986 pc lv [.int 1] w := by
  intro p e s m args below meth c H locs ls hC hl hP hD hS
  obtain ⟨hx, hb, hml, hown, hts, hr, hlk, hEK, hES, hin, hX, hbl⟩ := id hC
  refine va_forget (fun q hq => ?_) (lw_retA hx hb hr hlk d)
  rcases hS.2.2 q hq with ⟨k, e, hk⟩ | h2
  · simp at hk
  · exact h2
end LAW
theorem i4 {i L : Nat} (hi : i ≤ 2048) (hL : L ≤ 2048) (h : ¬ nI L - nI 4 < nI i) : i + 4 ≤ L := by
  rw [Int32.lt_iff_toInt_lt, pk_sub_toInt (by omega) (by omega), nI_toInt (by omega)] at h
  omega
theorem t28 {q : Nat} (h : ¬ q < 29) (h2 : q < 32) : (28 : Int) < (nI q).toInt := by
  rw [nI_toInt (by omega)]; omega
set_option maxHeartbeats 4000000 in
set_option maxRecDepth 100000 in
theorem law_c0 {l : Launch} {E : Ev} {b L : Nat} {xs : Nat → Int32} {kk a b2 c al ax am : Nat → Nat} {g gm gi y j : Gd} {td : Nat → Int32} {i : Nat} (hi : i + 4 ≤ L) (hL : L ≤ 2048) (hI : Inv g) (hM : Inv gm) (hG : Inv gi) (hy : YI y) (hJ : IH j gi) (K : ∀ (g gm gi y j : Gd) (td : Nat → Int32), Inv g → Inv gm → Inv gi → YI y → IH j gi → WF l E RL cL_law 4 ret room_1 false (XtL b L xs) lw_Z [] 59 986 821 [(3, .int (nI i)), (2, .ref (am 0)), (1, .ref (ax 0)), (0, .ref b)] [] (wX E kk a b2 c al ax g gm gi y (wm E am g y j td))) : WF l E RL cL_law 4 ret room_1 false (XtL b L xs) lw_Z [] 59 986 164 [(3, .int (nI i)), (2, .ref (am 0)), (1, .ref (ax 0)), (0, .ref b)] [] (wX E kk a b2 c al ax g gm gi y (wm E am g y j td)) := by
  refine wf_aload_n 2 dL_law_164 rfl ?_
  refine wf_aload_n 3 dL_law_165 rfl ?_
  refine wf_iload_n 0 dL_law_166 rfl ?_
  refine wf_iconst (nI 1) dL_law_167 (by decide) ?_
  refine wf_iadd (nI (i + 1)) dL_law_168 (nI_add i 1) ?_
  refine wf_sld (xs (i + 1)) (by omega) (by omega) rfl dL_law_169 ?_
  refine wf_callV (As := [.int (xs (i + 1))]) (rest := []) 19 (c_X8_letter hI hM hG hy) kV_L_13 rfl (by decide) (by decide) (Nat.le_of_ble_eq_true rfl) rfl rfl rfl dL_law_170 (fun v w2 hp => ?_)
  obtain ⟨rfl, gm2, hM2, rfl⟩ := hp
  refine wf_st [.int (sp_letter g y (xs (i + 1))).1] rfl ?_
  refine wf_cs (ce2 := 59) (sl2 := 986) rfl rfl ?_
  refine wf_perm (w' := wm E am g y j td ++ wX E kk a b2 c al ax (sp_letter g y (xs (i + 1))).2.1 gm2 gi (sp_letter g y (xs (i + 1))).2.2 []) pm_xm ?_
  refine wf_aload_n 1 dL_law_173 rfl ?_
  refine wf_aload_n 3 dL_law_174 rfl ?_
  refine wf_iload_n 0 dL_law_175 rfl ?_
  refine wf_iconst (nI 1) dL_law_176 (by decide) ?_
  refine wf_iadd (nI (i + 1)) dL_law_177 (nI_add i 1) ?_
  refine wf_sld (xs (i + 1)) (by omega) (by omega) rfl dL_law_178 ?_
  refine wf_callV (As := [.int (xs (i + 1))]) (rest := [.int (sp_letter g y (xs (i + 1))).1]) 0 (c_X9_letter hI hJ hy) kV_L_17 rfl (by decide) (by decide) (Nat.le_of_ble_eq_true rfl) rfl rfl rfl dL_law_179 (fun v w2 hp => ?_)
  obtain ⟨rfl, j2, td2, hJ2, rfl⟩ := hp
  refine wf_st [.int (sp_letter g y (xs (i + 1))).1, .int (sp_letter g y (xs (i + 1))).1] rfl ?_
  refine wf_cs (ce2 := 59) (sl2 := 986) rfl rfl ?_
  refine wf_perm (w' := wX E kk a b2 c al ax (sp_letter g y (xs (i + 1))).2.1 gm2 gi (sp_letter g y (xs (i + 1))).2.2 (wm E am (sp_letter g y (xs (i + 1))).2.1 (sp_letter g y (xs (i + 1))).2.2 j2 td2)) pm_mx ?_
  refine wf_icmp_eq 821 dL_law_182 (by decide) (fun _ => ?_) (fun h => absurd rfl h)
  exact K _ _ _ _ _ _ (ok_letter hI hy).1 hM2 hG (ok_letter hI hy).2 hJ2
set_option maxHeartbeats 4000000 in
set_option maxRecDepth 100000 in
theorem law_c1 {l : Launch} {E : Ev} {b L : Nat} {xs : Nat → Int32} {kk a b2 c al ax am : Nat → Nat} {g gm gi y j : Gd} {td : Nat → Int32} {i : Nat} (hi : i + 4 ≤ L) (hL : L ≤ 2048) (hI : Inv g) (hM : Inv gm) (hG : Inv gi) (hy : YI y) (hJ : IH j gi) (K : ∀ (g gm gi y j : Gd) (td : Nat → Int32), Inv g → Inv gm → Inv gi → YI y → IH j gi → WF l E RL cL_law 4 ret room_1 false (XtL b L xs) lw_Z [] 59 986 821 [(3, .int (nI i)), (2, .ref (am 0)), (1, .ref (ax 0)), (0, .ref b)] [] (wX E kk a b2 c al ax g gm gi y (wm E am g y j td))) : WF l E RL cL_law 4 ret room_1 false (XtL b L xs) lw_Z [] 59 986 187 [(3, .int (nI i)), (2, .ref (am 0)), (1, .ref (ax 0)), (0, .ref b)] [] (wX E kk a b2 c al ax g gm gi y (wm E am g y j td)) := by
  refine wf_aload_n 2 dL_law_187 rfl ?_
  refine wf_callV (As := []) (rest := []) 19 (c_X8_text hI hM hG hy) kV_L_18 rfl (by decide) (by decide) (Nat.le_of_ble_eq_true rfl) rfl rfl rfl dL_law_188 (fun v w2 hp => ?_)
  obtain ⟨rfl, gm2, hM2, rfl⟩ := hp
  refine wf_st [.int (sp_text g y).1] rfl ?_
  refine wf_cs (ce2 := 59) (sl2 := 986) rfl rfl ?_
  refine wf_perm (w' := wm E am g y j td ++ wX E kk a b2 c al ax (sp_text g y).2.1 gm2 gi (sp_text g y).2.2 []) pm_xm ?_
  refine wf_aload_n 1 dL_law_191 rfl ?_
  refine wf_callV (As := []) (rest := [.int (sp_text g y).1]) 0 (c_X9_text hI hJ hy) kV_L_22 rfl (by decide) (by decide) (Nat.le_of_ble_eq_true rfl) rfl rfl rfl dL_law_192 (fun v w2 hp => ?_)
  obtain ⟨rfl, j2, td2, hJ2, rfl⟩ := hp
  refine wf_st [.int (sp_text g y).1, .int (sp_text g y).1] rfl ?_
  refine wf_cs (ce2 := 59) (sl2 := 986) rfl rfl ?_
  refine wf_perm (w' := wX E kk a b2 c al ax (sp_text g y).2.1 gm2 gi (sp_text g y).2.2 (wm E am (sp_text g y).2.1 (sp_text g y).2.2 j2 td2)) pm_mx ?_
  refine wf_icmp_eq 821 dL_law_195 (by decide) (fun _ => ?_) (fun h => absurd rfl h)
  exact K _ _ _ _ _ _ (ok_text hI hy).1 hM2 hG (ok_text hI hy).2 hJ2
set_option maxHeartbeats 4000000 in
set_option maxRecDepth 100000 in
theorem law_c2 {l : Launch} {E : Ev} {b L : Nat} {xs : Nat → Int32} {kk a b2 c al ax am : Nat → Nat} {g gm gi y j : Gd} {td : Nat → Int32} {i : Nat} (hi : i + 4 ≤ L) (hL : L ≤ 2048) (hI : Inv g) (hM : Inv gm) (hG : Inv gi) (hy : YI y) (hJ : IH j gi) (K : ∀ (g gm gi y j : Gd) (td : Nat → Int32), Inv g → Inv gm → Inv gi → YI y → IH j gi → WF l E RL cL_law 4 ret room_1 false (XtL b L xs) lw_Z [] 59 986 821 [(3, .int (nI i)), (2, .ref (am 0)), (1, .ref (ax 0)), (0, .ref b)] [] (wX E kk a b2 c al ax g gm gi y (wm E am g y j td))) : WF l E RL cL_law 4 ret room_1 false (XtL b L xs) lw_Z [] 59 986 200 [(3, .int (nI i)), (2, .ref (am 0)), (1, .ref (ax 0)), (0, .ref b)] [] (wX E kk a b2 c al ax g gm gi y (wm E am g y j td)) := by
  refine wf_aload_n 2 dL_law_200 rfl ?_
  refine wf_aload_n 3 dL_law_201 rfl ?_
  refine wf_iload_n 0 dL_law_202 rfl ?_
  refine wf_iconst (nI 1) dL_law_203 (by decide) ?_
  refine wf_iadd (nI (i + 1)) dL_law_204 (nI_add i 1) ?_
  refine wf_sld (xs (i + 1)) (by omega) (by omega) rfl dL_law_205 ?_
  refine wf_aload_n 3 dL_law_206 rfl ?_
  refine wf_iload_n 0 dL_law_207 rfl ?_
  refine wf_iconst (nI 2) dL_law_208 (by decide) ?_
  refine wf_iadd (nI (i + 2)) dL_law_209 (nI_add i 2) ?_
  refine wf_sld (xs (i + 2)) (by omega) (by omega) rfl dL_law_210 ?_
  refine wf_callV (As := [.int (xs (i + 1)), .int (xs (i + 2))]) (rest := []) 19 (c_X8_word hI hM hG hy) kV_L_23 rfl (by decide) (by decide) (Nat.le_of_ble_eq_true rfl) rfl rfl rfl dL_law_211 (fun v w2 hp => ?_)
  obtain ⟨rfl, gm2, hM2, rfl⟩ := hp
  refine wf_st [.int (sp_word g y (xs (i + 1)) (xs (i + 2))).1] rfl ?_
  refine wf_cs (ce2 := 59) (sl2 := 986) rfl rfl ?_
  refine wf_perm (w' := wm E am g y j td ++ wX E kk a b2 c al ax (sp_word g y (xs (i + 1)) (xs (i + 2))).2.1 gm2 gi (sp_word g y (xs (i + 1)) (xs (i + 2))).2.2 []) pm_xm ?_
  refine wf_aload_n 1 dL_law_214 rfl ?_
  refine wf_aload_n 3 dL_law_215 rfl ?_
  refine wf_iload_n 0 dL_law_216 rfl ?_
  refine wf_iconst (nI 1) dL_law_217 (by decide) ?_
  refine wf_iadd (nI (i + 1)) dL_law_218 (nI_add i 1) ?_
  refine wf_sld (xs (i + 1)) (by omega) (by omega) rfl dL_law_219 ?_
  refine wf_aload_n 3 dL_law_220 rfl ?_
  refine wf_iload_n 0 dL_law_221 rfl ?_
  refine wf_iconst (nI 2) dL_law_222 (by decide) ?_
  refine wf_iadd (nI (i + 2)) dL_law_223 (nI_add i 2) ?_
  refine wf_sld (xs (i + 2)) (by omega) (by omega) rfl dL_law_224 ?_
  refine wf_callV (As := [.int (xs (i + 1)), .int (xs (i + 2))]) (rest := [.int (sp_word g y (xs (i + 1)) (xs (i + 2))).1]) 0 (c_X9_word hI hJ hy) kV_L_27 rfl (by decide) (by decide) (Nat.le_of_ble_eq_true rfl) rfl rfl rfl dL_law_225 (fun v w2 hp => ?_)
  obtain ⟨rfl, j2, td2, hJ2, rfl⟩ := hp
  refine wf_st [.int (sp_word g y (xs (i + 1)) (xs (i + 2))).1, .int (sp_word g y (xs (i + 1)) (xs (i + 2))).1] rfl ?_
  refine wf_cs (ce2 := 59) (sl2 := 986) rfl rfl ?_
  refine wf_perm (w' := wX E kk a b2 c al ax (sp_word g y (xs (i + 1)) (xs (i + 2))).2.1 gm2 gi (sp_word g y (xs (i + 1)) (xs (i + 2))).2.2 (wm E am (sp_word g y (xs (i + 1)) (xs (i + 2))).2.1 (sp_word g y (xs (i + 1)) (xs (i + 2))).2.2 j2 td2)) pm_mx ?_
  refine wf_icmp_eq 821 dL_law_228 (by decide) (fun _ => ?_) (fun h => absurd rfl h)
  exact K _ _ _ _ _ _ (ok_word hI hy).1 hM2 hG (ok_word hI hy).2 hJ2
set_option maxHeartbeats 4000000 in
set_option maxRecDepth 100000 in
theorem law_c3 {l : Launch} {E : Ev} {b L : Nat} {xs : Nat → Int32} {kk a b2 c al ax am : Nat → Nat} {g gm gi y j : Gd} {td : Nat → Int32} {i : Nat} (hi : i + 4 ≤ L) (hL : L ≤ 2048) (hI : Inv g) (hM : Inv gm) (hG : Inv gi) (hy : YI y) (hJ : IH j gi) (K : ∀ (g gm gi y j : Gd) (td : Nat → Int32), Inv g → Inv gm → Inv gi → YI y → IH j gi → WF l E RL cL_law 4 ret room_1 false (XtL b L xs) lw_Z [] 59 986 821 [(3, .int (nI i)), (2, .ref (am 0)), (1, .ref (ax 0)), (0, .ref b)] [] (wX E kk a b2 c al ax g gm gi y (wm E am g y j td))) : WF l E RL cL_law 4 ret room_1 false (XtL b L xs) lw_Z [] 59 986 233 [(3, .int (nI i)), (2, .ref (am 0)), (1, .ref (ax 0)), (0, .ref b)] [] (wX E kk a b2 c al ax g gm gi y (wm E am g y j td)) := by
  refine wf_aload_n 2 dL_law_233 rfl ?_
  refine wf_aload_n 3 dL_law_234 rfl ?_
  refine wf_iload_n 0 dL_law_235 rfl ?_
  refine wf_iconst (nI 1) dL_law_236 (by decide) ?_
  refine wf_iadd (nI (i + 1)) dL_law_237 (nI_add i 1) ?_
  refine wf_sld (xs (i + 1)) (by omega) (by omega) rfl dL_law_238 ?_
  refine wf_aload_n 3 dL_law_239 rfl ?_
  refine wf_iload_n 0 dL_law_240 rfl ?_
  refine wf_iconst (nI 2) dL_law_241 (by decide) ?_
  refine wf_iadd (nI (i + 2)) dL_law_242 (nI_add i 2) ?_
  refine wf_sld (xs (i + 2)) (by omega) (by omega) rfl dL_law_243 ?_
  refine wf_callV (As := [.int (xs (i + 1)), .int (xs (i + 2))]) (rest := []) 19 (c_X8_bird hI hM hG hy) kV_L_28 rfl (by decide) (by decide) (Nat.le_of_ble_eq_true rfl) rfl rfl rfl dL_law_244 (fun v w2 hp => ?_)
  obtain ⟨rfl, gm2, hM2, rfl⟩ := hp
  refine wf_st [.int (sp_bird g y (xs (i + 1)) (xs (i + 2))).1] rfl ?_
  refine wf_cs (ce2 := 59) (sl2 := 986) rfl rfl ?_
  refine wf_perm (w' := wm E am g y j td ++ wX E kk a b2 c al ax (sp_bird g y (xs (i + 1)) (xs (i + 2))).2.1 gm2 gi (sp_bird g y (xs (i + 1)) (xs (i + 2))).2.2 []) pm_xm ?_
  refine wf_aload_n 1 dL_law_247 rfl ?_
  refine wf_aload_n 3 dL_law_248 rfl ?_
  refine wf_iload_n 0 dL_law_249 rfl ?_
  refine wf_iconst (nI 1) dL_law_250 (by decide) ?_
  refine wf_iadd (nI (i + 1)) dL_law_251 (nI_add i 1) ?_
  refine wf_sld (xs (i + 1)) (by omega) (by omega) rfl dL_law_252 ?_
  refine wf_aload_n 3 dL_law_253 rfl ?_
  refine wf_iload_n 0 dL_law_254 rfl ?_
  refine wf_iconst (nI 2) dL_law_255 (by decide) ?_
  refine wf_iadd (nI (i + 2)) dL_law_256 (nI_add i 2) ?_
  refine wf_sld (xs (i + 2)) (by omega) (by omega) rfl dL_law_257 ?_
  refine wf_callV (As := [.int (xs (i + 1)), .int (xs (i + 2))]) (rest := [.int (sp_bird g y (xs (i + 1)) (xs (i + 2))).1]) 0 (c_X9_bird hI hJ hy) kV_L_31 rfl (by decide) (by decide) (Nat.le_of_ble_eq_true rfl) rfl rfl rfl dL_law_258 (fun v w2 hp => ?_)
  obtain ⟨rfl, j2, td2, hJ2, rfl⟩ := hp
  refine wf_st [.int (sp_bird g y (xs (i + 1)) (xs (i + 2))).1, .int (sp_bird g y (xs (i + 1)) (xs (i + 2))).1] rfl ?_
  refine wf_cs (ce2 := 59) (sl2 := 986) rfl rfl ?_
  refine wf_perm (w' := wX E kk a b2 c al ax (sp_bird g y (xs (i + 1)) (xs (i + 2))).2.1 gm2 gi (sp_bird g y (xs (i + 1)) (xs (i + 2))).2.2 (wm E am (sp_bird g y (xs (i + 1)) (xs (i + 2))).2.1 (sp_bird g y (xs (i + 1)) (xs (i + 2))).2.2 j2 td2)) pm_mx ?_
  refine wf_icmp_eq 821 dL_law_261 (by decide) (fun _ => ?_) (fun h => absurd rfl h)
  exact K _ _ _ _ _ _ (ok_bird hI hy).1 hM2 hG (ok_bird hI hy).2 hJ2
set_option maxHeartbeats 4000000 in
set_option maxRecDepth 100000 in
theorem law_c4 {l : Launch} {E : Ev} {b L : Nat} {xs : Nat → Int32} {kk a b2 c al ax am : Nat → Nat} {g gm gi y j : Gd} {td : Nat → Int32} {i : Nat} (hi : i + 4 ≤ L) (hL : L ≤ 2048) (hI : Inv g) (hM : Inv gm) (hG : Inv gi) (hy : YI y) (hJ : IH j gi) (K : ∀ (g gm gi y j : Gd) (td : Nat → Int32), Inv g → Inv gm → Inv gi → YI y → IH j gi → WF l E RL cL_law 4 ret room_1 false (XtL b L xs) lw_Z [] 59 986 821 [(3, .int (nI i)), (2, .ref (am 0)), (1, .ref (ax 0)), (0, .ref b)] [] (wX E kk a b2 c al ax g gm gi y (wm E am g y j td))) : WF l E RL cL_law 4 ret room_1 false (XtL b L xs) lw_Z [] 59 986 266 [(3, .int (nI i)), (2, .ref (am 0)), (1, .ref (ax 0)), (0, .ref b)] [] (wX E kk a b2 c al ax g gm gi y (wm E am g y j td)) := by
  refine wf_aload_n 2 dL_law_266 rfl ?_
  refine wf_aload_n 3 dL_law_267 rfl ?_
  refine wf_iload_n 0 dL_law_268 rfl ?_
  refine wf_iconst (nI 1) dL_law_269 (by decide) ?_
  refine wf_iadd (nI (i + 1)) dL_law_270 (nI_add i 1) ?_
  refine wf_sld (xs (i + 1)) (by omega) (by omega) rfl dL_law_271 ?_
  refine wf_aload_n 3 dL_law_272 rfl ?_
  refine wf_iload_n 0 dL_law_273 rfl ?_
  refine wf_iconst (nI 2) dL_law_274 (by decide) ?_
  refine wf_iadd (nI (i + 2)) dL_law_275 (nI_add i 2) ?_
  refine wf_sld (xs (i + 2)) (by omega) (by omega) rfl dL_law_276 ?_
  refine wf_callV (As := [.int (xs (i + 1)), .int (xs (i + 2))]) (rest := []) 19 (c_X8_bitter hI hM hG hy) kV_L_32 rfl (by decide) (by decide) (Nat.le_of_ble_eq_true rfl) rfl rfl rfl dL_law_277 (fun v w2 hp => ?_)
  obtain ⟨rfl, gm2, hM2, rfl⟩ := hp
  refine wf_st [.int (sp_bitter g y (xs (i + 1)) (xs (i + 2))).1] rfl ?_
  refine wf_cs (ce2 := 59) (sl2 := 986) rfl rfl ?_
  refine wf_perm (w' := wm E am g y j td ++ wX E kk a b2 c al ax (sp_bitter g y (xs (i + 1)) (xs (i + 2))).2.1 gm2 gi (sp_bitter g y (xs (i + 1)) (xs (i + 2))).2.2 []) pm_xm ?_
  refine wf_aload_n 1 dL_law_280 rfl ?_
  refine wf_aload_n 3 dL_law_281 rfl ?_
  refine wf_iload_n 0 dL_law_282 rfl ?_
  refine wf_iconst (nI 1) dL_law_283 (by decide) ?_
  refine wf_iadd (nI (i + 1)) dL_law_284 (nI_add i 1) ?_
  refine wf_sld (xs (i + 1)) (by omega) (by omega) rfl dL_law_285 ?_
  refine wf_aload_n 3 dL_law_286 rfl ?_
  refine wf_iload_n 0 dL_law_287 rfl ?_
  refine wf_iconst (nI 2) dL_law_288 (by decide) ?_
  refine wf_iadd (nI (i + 2)) dL_law_289 (nI_add i 2) ?_
  refine wf_sld (xs (i + 2)) (by omega) (by omega) rfl dL_law_290 ?_
  refine wf_callV (As := [.int (xs (i + 1)), .int (xs (i + 2))]) (rest := [.int (sp_bitter g y (xs (i + 1)) (xs (i + 2))).1]) 0 (c_X9_bitter hI hJ hy) kV_L_35 rfl (by decide) (by decide) (Nat.le_of_ble_eq_true rfl) rfl rfl rfl dL_law_291 (fun v w2 hp => ?_)
  obtain ⟨rfl, j2, td2, hJ2, rfl⟩ := hp
  refine wf_st [.int (sp_bitter g y (xs (i + 1)) (xs (i + 2))).1, .int (sp_bitter g y (xs (i + 1)) (xs (i + 2))).1] rfl ?_
  refine wf_cs (ce2 := 59) (sl2 := 986) rfl rfl ?_
  refine wf_perm (w' := wX E kk a b2 c al ax (sp_bitter g y (xs (i + 1)) (xs (i + 2))).2.1 gm2 gi (sp_bitter g y (xs (i + 1)) (xs (i + 2))).2.2 (wm E am (sp_bitter g y (xs (i + 1)) (xs (i + 2))).2.1 (sp_bitter g y (xs (i + 1)) (xs (i + 2))).2.2 j2 td2)) pm_mx ?_
  refine wf_icmp_eq 821 dL_law_294 (by decide) (fun _ => ?_) (fun h => absurd rfl h)
  exact K _ _ _ _ _ _ (ok_bitter hI hy).1 hM2 hG (ok_bitter hI hy).2 hJ2
set_option maxHeartbeats 4000000 in
set_option maxRecDepth 100000 in
theorem law_c5 {l : Launch} {E : Ev} {b L : Nat} {xs : Nat → Int32} {kk a b2 c al ax am : Nat → Nat} {g gm gi y j : Gd} {td : Nat → Int32} {i : Nat} (hi : i + 4 ≤ L) (hL : L ≤ 2048) (hI : Inv g) (hM : Inv gm) (hG : Inv gi) (hy : YI y) (hJ : IH j gi) (K : ∀ (g gm gi y j : Gd) (td : Nat → Int32), Inv g → Inv gm → Inv gi → YI y → IH j gi → WF l E RL cL_law 4 ret room_1 false (XtL b L xs) lw_Z [] 59 986 821 [(3, .int (nI i)), (2, .ref (am 0)), (1, .ref (ax 0)), (0, .ref b)] [] (wX E kk a b2 c al ax g gm gi y (wm E am g y j td))) : WF l E RL cL_law 4 ret room_1 false (XtL b L xs) lw_Z [] 59 986 299 [(3, .int (nI i)), (2, .ref (am 0)), (1, .ref (ax 0)), (0, .ref b)] [] (wX E kk a b2 c al ax g gm gi y (wm E am g y j td)) := by
  refine wf_aload_n 2 dL_law_299 rfl ?_
  refine wf_aload_n 3 dL_law_300 rfl ?_
  refine wf_iload_n 0 dL_law_301 rfl ?_
  refine wf_iconst (nI 1) dL_law_302 (by decide) ?_
  refine wf_iadd (nI (i + 1)) dL_law_303 (nI_add i 1) ?_
  refine wf_sld (xs (i + 1)) (by omega) (by omega) rfl dL_law_304 ?_
  refine wf_aload_n 3 dL_law_305 rfl ?_
  refine wf_iload_n 0 dL_law_306 rfl ?_
  refine wf_iconst (nI 2) dL_law_307 (by decide) ?_
  refine wf_iadd (nI (i + 2)) dL_law_308 (nI_add i 2) ?_
  refine wf_sld (xs (i + 2)) (by omega) (by omega) rfl dL_law_309 ?_
  refine wf_callV (As := [.int (xs (i + 1)), .int (xs (i + 2))]) (rest := []) 19 (c_X8_ink hI hM hG hy) kV_L_36 rfl (by decide) (by decide) (Nat.le_of_ble_eq_true rfl) rfl rfl rfl dL_law_310 (fun v w2 hp => ?_)
  obtain ⟨rfl, gm2, hM2, rfl⟩ := hp
  refine wf_st [.int (sp_ink g y (xs (i + 1)) (xs (i + 2))).1] rfl ?_
  refine wf_cs (ce2 := 59) (sl2 := 986) rfl rfl ?_
  refine wf_perm (w' := wm E am g y j td ++ wX E kk a b2 c al ax (sp_ink g y (xs (i + 1)) (xs (i + 2))).2.1 gm2 gi (sp_ink g y (xs (i + 1)) (xs (i + 2))).2.2 []) pm_xm ?_
  refine wf_aload_n 1 dL_law_313 rfl ?_
  refine wf_aload_n 3 dL_law_314 rfl ?_
  refine wf_iload_n 0 dL_law_315 rfl ?_
  refine wf_iconst (nI 1) dL_law_316 (by decide) ?_
  refine wf_iadd (nI (i + 1)) dL_law_317 (nI_add i 1) ?_
  refine wf_sld (xs (i + 1)) (by omega) (by omega) rfl dL_law_318 ?_
  refine wf_aload_n 3 dL_law_319 rfl ?_
  refine wf_iload_n 0 dL_law_320 rfl ?_
  refine wf_iconst (nI 2) dL_law_321 (by decide) ?_
  refine wf_iadd (nI (i + 2)) dL_law_322 (nI_add i 2) ?_
  refine wf_sld (xs (i + 2)) (by omega) (by omega) rfl dL_law_323 ?_
  refine wf_callV (As := [.int (xs (i + 1)), .int (xs (i + 2))]) (rest := [.int (sp_ink g y (xs (i + 1)) (xs (i + 2))).1]) 0 (c_X9_ink hI hJ hy) kV_L_39 rfl (by decide) (by decide) (Nat.le_of_ble_eq_true rfl) rfl rfl rfl dL_law_324 (fun v w2 hp => ?_)
  obtain ⟨rfl, j2, td2, hJ2, rfl⟩ := hp
  refine wf_st [.int (sp_ink g y (xs (i + 1)) (xs (i + 2))).1, .int (sp_ink g y (xs (i + 1)) (xs (i + 2))).1] rfl ?_
  refine wf_cs (ce2 := 59) (sl2 := 986) rfl rfl ?_
  refine wf_perm (w' := wX E kk a b2 c al ax (sp_ink g y (xs (i + 1)) (xs (i + 2))).2.1 gm2 gi (sp_ink g y (xs (i + 1)) (xs (i + 2))).2.2 (wm E am (sp_ink g y (xs (i + 1)) (xs (i + 2))).2.1 (sp_ink g y (xs (i + 1)) (xs (i + 2))).2.2 j2 td2)) pm_mx ?_
  refine wf_icmp_eq 821 dL_law_327 (by decide) (fun _ => ?_) (fun h => absurd rfl h)
  exact K _ _ _ _ _ _ (ok_ink hI hy).1 hM2 hG (ok_ink hI hy).2 hJ2
set_option maxHeartbeats 4000000 in
set_option maxRecDepth 100000 in
theorem law_c6 {l : Launch} {E : Ev} {b L : Nat} {xs : Nat → Int32} {kk a b2 c al ax am : Nat → Nat} {g gm gi y j : Gd} {td : Nat → Int32} {i : Nat} (hi : i + 4 ≤ L) (hL : L ≤ 2048) (hI : Inv g) (hM : Inv gm) (hG : Inv gi) (hy : YI y) (hJ : IH j gi) (K : ∀ (g gm gi y j : Gd) (td : Nat → Int32), Inv g → Inv gm → Inv gi → YI y → IH j gi → WF l E RL cL_law 4 ret room_1 false (XtL b L xs) lw_Z [] 59 986 821 [(3, .int (nI i)), (2, .ref (am 0)), (1, .ref (ax 0)), (0, .ref b)] [] (wX E kk a b2 c al ax g gm gi y (wm E am g y j td))) : WF l E RL cL_law 4 ret room_1 false (XtL b L xs) lw_Z [] 59 986 332 [(3, .int (nI i)), (2, .ref (am 0)), (1, .ref (ax 0)), (0, .ref b)] [] (wX E kk a b2 c al ax g gm gi y (wm E am g y j td)) := by
  refine wf_aload_n 2 dL_law_332 rfl ?_
  refine wf_aload_n 3 dL_law_333 rfl ?_
  refine wf_iload_n 0 dL_law_334 rfl ?_
  refine wf_iconst (nI 1) dL_law_335 (by decide) ?_
  refine wf_iadd (nI (i + 1)) dL_law_336 (nI_add i 1) ?_
  refine wf_sld (xs (i + 1)) (by omega) (by omega) rfl dL_law_337 ?_
  refine wf_aload_n 3 dL_law_338 rfl ?_
  refine wf_iload_n 0 dL_law_339 rfl ?_
  refine wf_iconst (nI 2) dL_law_340 (by decide) ?_
  refine wf_iadd (nI (i + 2)) dL_law_341 (nI_add i 2) ?_
  refine wf_sld (xs (i + 2)) (by omega) (by omega) rfl dL_law_342 ?_
  refine wf_aload_n 3 dL_law_343 rfl ?_
  refine wf_iload_n 0 dL_law_344 rfl ?_
  refine wf_iconst (nI 3) dL_law_345 (by decide) ?_
  refine wf_iadd (nI (i + 3)) dL_law_346 (nI_add i 3) ?_
  refine wf_sld (xs (i + 3)) (by omega) (by omega) rfl dL_law_347 ?_
  refine wf_callV (As := [.int (xs (i + 1)), .int (xs (i + 2)), .int (xs (i + 3))]) (rest := []) 19 (c_X8_watch hI hM hG hy) kV_L_40 rfl (by decide) (by decide) (Nat.le_of_ble_eq_true rfl) rfl rfl rfl dL_law_348 (fun v w2 hp => ?_)
  obtain ⟨rfl, gm2, hM2, rfl⟩ := hp
  refine wf_st [.int (sp_watch g y (xs (i + 1)) (xs (i + 2)) (xs (i + 3))).1] rfl ?_
  refine wf_cs (ce2 := 59) (sl2 := 986) rfl rfl ?_
  refine wf_perm (w' := wm E am g y j td ++ wX E kk a b2 c al ax (sp_watch g y (xs (i + 1)) (xs (i + 2)) (xs (i + 3))).2.1 gm2 gi (sp_watch g y (xs (i + 1)) (xs (i + 2)) (xs (i + 3))).2.2 []) pm_xm ?_
  refine wf_aload_n 1 dL_law_351 rfl ?_
  refine wf_aload_n 3 dL_law_352 rfl ?_
  refine wf_iload_n 0 dL_law_353 rfl ?_
  refine wf_iconst (nI 1) dL_law_354 (by decide) ?_
  refine wf_iadd (nI (i + 1)) dL_law_355 (nI_add i 1) ?_
  refine wf_sld (xs (i + 1)) (by omega) (by omega) rfl dL_law_356 ?_
  refine wf_aload_n 3 dL_law_357 rfl ?_
  refine wf_iload_n 0 dL_law_358 rfl ?_
  refine wf_iconst (nI 2) dL_law_359 (by decide) ?_
  refine wf_iadd (nI (i + 2)) dL_law_360 (nI_add i 2) ?_
  refine wf_sld (xs (i + 2)) (by omega) (by omega) rfl dL_law_361 ?_
  refine wf_aload_n 3 dL_law_362 rfl ?_
  refine wf_iload_n 0 dL_law_363 rfl ?_
  refine wf_iconst (nI 3) dL_law_364 (by decide) ?_
  refine wf_iadd (nI (i + 3)) dL_law_365 (nI_add i 3) ?_
  refine wf_sld (xs (i + 3)) (by omega) (by omega) rfl dL_law_366 ?_
  refine wf_callV (As := [.int (xs (i + 1)), .int (xs (i + 2)), .int (xs (i + 3))]) (rest := [.int (sp_watch g y (xs (i + 1)) (xs (i + 2)) (xs (i + 3))).1]) 0 (c_X9_watch hI hJ hy) kV_L_44 rfl (by decide) (by decide) (Nat.le_of_ble_eq_true rfl) rfl rfl rfl dL_law_367 (fun v w2 hp => ?_)
  obtain ⟨rfl, j2, td2, hJ2, rfl⟩ := hp
  refine wf_st [.int (sp_watch g y (xs (i + 1)) (xs (i + 2)) (xs (i + 3))).1, .int (sp_watch g y (xs (i + 1)) (xs (i + 2)) (xs (i + 3))).1] rfl ?_
  refine wf_cs (ce2 := 59) (sl2 := 986) rfl rfl ?_
  refine wf_perm (w' := wX E kk a b2 c al ax (sp_watch g y (xs (i + 1)) (xs (i + 2)) (xs (i + 3))).2.1 gm2 gi (sp_watch g y (xs (i + 1)) (xs (i + 2)) (xs (i + 3))).2.2 (wm E am (sp_watch g y (xs (i + 1)) (xs (i + 2)) (xs (i + 3))).2.1 (sp_watch g y (xs (i + 1)) (xs (i + 2)) (xs (i + 3))).2.2 j2 td2)) pm_mx ?_
  refine wf_icmp_eq 821 dL_law_370 (by decide) (fun _ => ?_) (fun h => absurd rfl h)
  exact K _ _ _ _ _ _ (ok_watch hI hy).1 hM2 hG (ok_watch hI hy).2 hJ2
set_option maxHeartbeats 4000000 in
set_option maxRecDepth 100000 in
theorem law_c7 {l : Launch} {E : Ev} {b L : Nat} {xs : Nat → Int32} {kk a b2 c al ax am : Nat → Nat} {g gm gi y j : Gd} {td : Nat → Int32} {i : Nat} (hi : i + 4 ≤ L) (hL : L ≤ 2048) (hI : Inv g) (hM : Inv gm) (hG : Inv gi) (hy : YI y) (hJ : IH j gi) (K : ∀ (g gm gi y j : Gd) (td : Nat → Int32), Inv g → Inv gm → Inv gi → YI y → IH j gi → WF l E RL cL_law 4 ret room_1 false (XtL b L xs) lw_Z [] 59 986 821 [(3, .int (nI i)), (2, .ref (am 0)), (1, .ref (ax 0)), (0, .ref b)] [] (wX E kk a b2 c al ax g gm gi y (wm E am g y j td))) : WF l E RL cL_law 4 ret room_1 false (XtL b L xs) lw_Z [] 59 986 375 [(3, .int (nI i)), (2, .ref (am 0)), (1, .ref (ax 0)), (0, .ref b)] [] (wX E kk a b2 c al ax g gm gi y (wm E am g y j td)) := by
  refine wf_aload_n 2 dL_law_375 rfl ?_
  refine wf_callV (As := []) (rest := []) 19 (c_X8_hour hI hM hG hy) kV_L_45 rfl (by decide) (by decide) (Nat.le_of_ble_eq_true rfl) rfl rfl rfl dL_law_376 (fun v w2 hp => ?_)
  obtain ⟨rfl, gm2, hM2, rfl⟩ := hp
  refine wf_st [.int (sp_hour g y).1] rfl ?_
  refine wf_cs (ce2 := 59) (sl2 := 986) rfl rfl ?_
  refine wf_perm (w' := wm E am g y j td ++ wX E kk a b2 c al ax (sp_hour g y).2.1 gm2 gi (sp_hour g y).2.2 []) pm_xm ?_
  refine wf_aload_n 1 dL_law_379 rfl ?_
  refine wf_callV (As := []) (rest := [.int (sp_hour g y).1]) 0 (c_X9_hour hI hJ hy) kV_L_48 rfl (by decide) (by decide) (Nat.le_of_ble_eq_true rfl) rfl rfl rfl dL_law_380 (fun v w2 hp => ?_)
  obtain ⟨rfl, j2, td2, hJ2, rfl⟩ := hp
  refine wf_st [.int (sp_hour g y).1, .int (sp_hour g y).1] rfl ?_
  refine wf_cs (ce2 := 59) (sl2 := 986) rfl rfl ?_
  refine wf_perm (w' := wX E kk a b2 c al ax (sp_hour g y).2.1 gm2 gi (sp_hour g y).2.2 (wm E am (sp_hour g y).2.1 (sp_hour g y).2.2 j2 td2)) pm_mx ?_
  refine wf_icmp_eq 821 dL_law_383 (by decide) (fun _ => ?_) (fun h => absurd rfl h)
  exact K _ _ _ _ _ _ (ok_hour hI hy).1 hM2 hG (ok_hour hI hy).2 hJ2
set_option maxHeartbeats 4000000 in
set_option maxRecDepth 100000 in
theorem law_c8 {l : Launch} {E : Ev} {b L : Nat} {xs : Nat → Int32} {kk a b2 c al ax am : Nat → Nat} {g gm gi y j : Gd} {td : Nat → Int32} {i : Nat} (hi : i + 4 ≤ L) (hL : L ≤ 2048) (hI : Inv g) (hM : Inv gm) (hG : Inv gi) (hy : YI y) (hJ : IH j gi) (K : ∀ (g gm gi y j : Gd) (td : Nat → Int32), Inv g → Inv gm → Inv gi → YI y → IH j gi → WF l E RL cL_law 4 ret room_1 false (XtL b L xs) lw_Z [] 59 986 821 [(3, .int (nI i)), (2, .ref (am 0)), (1, .ref (ax 0)), (0, .ref b)] [] (wX E kk a b2 c al ax g gm gi y (wm E am g y j td))) : WF l E RL cL_law 4 ret room_1 false (XtL b L xs) lw_Z [] 59 986 388 [(3, .int (nI i)), (2, .ref (am 0)), (1, .ref (ax 0)), (0, .ref b)] [] (wX E kk a b2 c al ax g gm gi y (wm E am g y j td)) := by
  refine wf_aload_n 2 dL_law_388 rfl ?_
  refine wf_callV (As := []) (rest := []) 19 (c_X8_anew hI hM hG hy) kV_L_49 rfl (by decide) (by decide) (Nat.le_of_ble_eq_true rfl) rfl rfl rfl dL_law_389 (fun v w2 hp => ?_)
  obtain ⟨rfl, gm2, hM2, rfl⟩ := hp
  refine wf_st [.int (sp_anew g y).1] rfl ?_
  refine wf_cs (ce2 := 59) (sl2 := 986) rfl rfl ?_
  refine wf_perm (w' := wm E am g y j td ++ wX E kk a b2 c al ax (sp_anew g y).2.1 gm2 gi (sp_anew g y).2.2 []) pm_xm ?_
  refine wf_aload_n 1 dL_law_392 rfl ?_
  refine wf_callV (As := []) (rest := [.int (sp_anew g y).1]) 0 (c_X9_anew hI hJ hy) kV_L_52 rfl (by decide) (by decide) (Nat.le_of_ble_eq_true rfl) rfl rfl rfl dL_law_393 (fun v w2 hp => ?_)
  obtain ⟨rfl, j2, td2, hJ2, rfl⟩ := hp
  refine wf_st [.int (sp_anew g y).1, .int (sp_anew g y).1] rfl ?_
  refine wf_cs (ce2 := 59) (sl2 := 986) rfl rfl ?_
  refine wf_perm (w' := wX E kk a b2 c al ax (sp_anew g y).2.1 gm2 gi (sp_anew g y).2.2 (wm E am (sp_anew g y).2.1 (sp_anew g y).2.2 j2 td2)) pm_mx ?_
  refine wf_icmp_eq 821 dL_law_396 (by decide) (fun _ => ?_) (fun h => absurd rfl h)
  exact K _ _ _ _ _ _ (ok_anew hI hy).1 hM2 hG (ok_anew hI hy).2 hJ2
set_option maxHeartbeats 4000000 in
set_option maxRecDepth 100000 in
theorem law_c9 {l : Launch} {E : Ev} {b L : Nat} {xs : Nat → Int32} {kk a b2 c al ax am : Nat → Nat} {g gm gi y j : Gd} {td : Nat → Int32} {i : Nat} (hi : i + 4 ≤ L) (hL : L ≤ 2048) (hI : Inv g) (hM : Inv gm) (hG : Inv gi) (hy : YI y) (hJ : IH j gi) (K : ∀ (g gm gi y j : Gd) (td : Nat → Int32), Inv g → Inv gm → Inv gi → YI y → IH j gi → WF l E RL cL_law 4 ret room_1 false (XtL b L xs) lw_Z [] 59 986 821 [(3, .int (nI i)), (2, .ref (am 0)), (1, .ref (ax 0)), (0, .ref b)] [] (wX E kk a b2 c al ax g gm gi y (wm E am g y j td))) : WF l E RL cL_law 4 ret room_1 false (XtL b L xs) lw_Z [] 59 986 401 [(3, .int (nI i)), (2, .ref (am 0)), (1, .ref (ax 0)), (0, .ref b)] [] (wX E kk a b2 c al ax g gm gi y (wm E am g y j td)) := by
  refine wf_aload_n 2 dL_law_401 rfl ?_
  refine wf_aload_n 3 dL_law_402 rfl ?_
  refine wf_iload_n 0 dL_law_403 rfl ?_
  refine wf_iconst (nI 1) dL_law_404 (by decide) ?_
  refine wf_iadd (nI (i + 1)) dL_law_405 (nI_add i 1) ?_
  refine wf_sld (xs (i + 1)) (by omega) (by omega) rfl dL_law_406 ?_
  refine wf_callV (As := [.int (xs (i + 1))]) (rest := []) 19 (c_X8_left hI hM hG hy) kV_L_53 rfl (by decide) (by decide) (Nat.le_of_ble_eq_true rfl) rfl rfl rfl dL_law_407 (fun v w2 hp => ?_)
  obtain ⟨rfl, gm2, hM2, rfl⟩ := hp
  refine wf_st [.int (sp_left g y (xs (i + 1))).1] rfl ?_
  refine wf_cs (ce2 := 59) (sl2 := 986) rfl rfl ?_
  refine wf_perm (w' := wm E am g y j td ++ wX E kk a b2 c al ax (sp_left g y (xs (i + 1))).2.1 gm2 gi (sp_left g y (xs (i + 1))).2.2 []) pm_xm ?_
  refine wf_aload_n 1 dL_law_410 rfl ?_
  refine wf_aload_n 3 dL_law_411 rfl ?_
  refine wf_iload_n 0 dL_law_412 rfl ?_
  refine wf_iconst (nI 1) dL_law_413 (by decide) ?_
  refine wf_iadd (nI (i + 1)) dL_law_414 (nI_add i 1) ?_
  refine wf_sld (xs (i + 1)) (by omega) (by omega) rfl dL_law_415 ?_
  refine wf_callV (As := [.int (xs (i + 1))]) (rest := [.int (sp_left g y (xs (i + 1))).1]) 0 (c_X9_left hI hJ hy) kV_L_56 rfl (by decide) (by decide) (Nat.le_of_ble_eq_true rfl) rfl rfl rfl dL_law_416 (fun v w2 hp => ?_)
  obtain ⟨rfl, j2, td2, hJ2, rfl⟩ := hp
  refine wf_st [.int (sp_left g y (xs (i + 1))).1, .int (sp_left g y (xs (i + 1))).1] rfl ?_
  refine wf_cs (ce2 := 59) (sl2 := 986) rfl rfl ?_
  refine wf_perm (w' := wX E kk a b2 c al ax (sp_left g y (xs (i + 1))).2.1 gm2 gi (sp_left g y (xs (i + 1))).2.2 (wm E am (sp_left g y (xs (i + 1))).2.1 (sp_left g y (xs (i + 1))).2.2 j2 td2)) pm_mx ?_
  refine wf_icmp_eq 821 dL_law_419 (by decide) (fun _ => ?_) (fun h => absurd rfl h)
  exact K _ _ _ _ _ _ (ok_left hI hy).1 hM2 hG (ok_left hI hy).2 hJ2
set_option maxHeartbeats 4000000 in
set_option maxRecDepth 100000 in
theorem law_c10 {l : Launch} {E : Ev} {b L : Nat} {xs : Nat → Int32} {kk a b2 c al ax am : Nat → Nat} {g gm gi y j : Gd} {td : Nat → Int32} {i : Nat} (hi : i + 4 ≤ L) (hL : L ≤ 2048) (hI : Inv g) (hM : Inv gm) (hG : Inv gi) (hy : YI y) (hJ : IH j gi) (K : ∀ (g gm gi y j : Gd) (td : Nat → Int32), Inv g → Inv gm → Inv gi → YI y → IH j gi → WF l E RL cL_law 4 ret room_1 false (XtL b L xs) lw_Z [] 59 986 821 [(3, .int (nI i)), (2, .ref (am 0)), (1, .ref (ax 0)), (0, .ref b)] [] (wX E kk a b2 c al ax g gm gi y (wm E am g y j td))) : WF l E RL cL_law 4 ret room_1 false (XtL b L xs) lw_Z [] 59 986 424 [(3, .int (nI i)), (2, .ref (am 0)), (1, .ref (ax 0)), (0, .ref b)] [] (wX E kk a b2 c al ax g gm gi y (wm E am g y j td)) := by
  refine wf_aload_n 2 dL_law_424 rfl ?_
  refine wf_aload_n 3 dL_law_425 rfl ?_
  refine wf_iload_n 0 dL_law_426 rfl ?_
  refine wf_iconst (nI 1) dL_law_427 (by decide) ?_
  refine wf_iadd (nI (i + 1)) dL_law_428 (nI_add i 1) ?_
  refine wf_sld (xs (i + 1)) (by omega) (by omega) rfl dL_law_429 ?_
  refine wf_callV (As := [.int (xs (i + 1))]) (rest := []) 19 (c_X8_eaten hI hM hG hy) kV_L_57 rfl (by decide) (by decide) (Nat.le_of_ble_eq_true rfl) rfl rfl rfl dL_law_430 (fun v w2 hp => ?_)
  obtain ⟨rfl, gm2, hM2, rfl⟩ := hp
  refine wf_st [.int (sp_eaten g y (xs (i + 1))).1] rfl ?_
  refine wf_cs (ce2 := 59) (sl2 := 986) rfl rfl ?_
  refine wf_perm (w' := wm E am g y j td ++ wX E kk a b2 c al ax (sp_eaten g y (xs (i + 1))).2.1 gm2 gi (sp_eaten g y (xs (i + 1))).2.2 []) pm_xm ?_
  refine wf_aload_n 1 dL_law_433 rfl ?_
  refine wf_aload_n 3 dL_law_434 rfl ?_
  refine wf_iload_n 0 dL_law_435 rfl ?_
  refine wf_iconst (nI 1) dL_law_436 (by decide) ?_
  refine wf_iadd (nI (i + 1)) dL_law_437 (nI_add i 1) ?_
  refine wf_sld (xs (i + 1)) (by omega) (by omega) rfl dL_law_438 ?_
  refine wf_callV (As := [.int (xs (i + 1))]) (rest := [.int (sp_eaten g y (xs (i + 1))).1]) 0 (c_X9_eaten hI hJ hy) kV_L_60 rfl (by decide) (by decide) (Nat.le_of_ble_eq_true rfl) rfl rfl rfl dL_law_439 (fun v w2 hp => ?_)
  obtain ⟨rfl, j2, td2, hJ2, rfl⟩ := hp
  refine wf_st [.int (sp_eaten g y (xs (i + 1))).1, .int (sp_eaten g y (xs (i + 1))).1] rfl ?_
  refine wf_cs (ce2 := 59) (sl2 := 986) rfl rfl ?_
  refine wf_perm (w' := wX E kk a b2 c al ax (sp_eaten g y (xs (i + 1))).2.1 gm2 gi (sp_eaten g y (xs (i + 1))).2.2 (wm E am (sp_eaten g y (xs (i + 1))).2.1 (sp_eaten g y (xs (i + 1))).2.2 j2 td2)) pm_mx ?_
  refine wf_icmp_eq 821 dL_law_442 (by decide) (fun _ => ?_) (fun h => absurd rfl h)
  exact K _ _ _ _ _ _ (ok_eaten hI hy).1 hM2 hG (ok_eaten hI hy).2 hJ2
set_option maxHeartbeats 4000000 in
set_option maxRecDepth 100000 in
theorem law_c11 {l : Launch} {E : Ev} {b L : Nat} {xs : Nat → Int32} {kk a b2 c al ax am : Nat → Nat} {g gm gi y j : Gd} {td : Nat → Int32} {i : Nat} (hi : i + 4 ≤ L) (hL : L ≤ 2048) (hI : Inv g) (hM : Inv gm) (hG : Inv gi) (hy : YI y) (hJ : IH j gi) (K : ∀ (g gm gi y j : Gd) (td : Nat → Int32), Inv g → Inv gm → Inv gi → YI y → IH j gi → WF l E RL cL_law 4 ret room_1 false (XtL b L xs) lw_Z [] 59 986 821 [(3, .int (nI i)), (2, .ref (am 0)), (1, .ref (ax 0)), (0, .ref b)] [] (wX E kk a b2 c al ax g gm gi y (wm E am g y j td))) : WF l E RL cL_law 4 ret room_1 false (XtL b L xs) lw_Z [] 59 986 447 [(3, .int (nI i)), (2, .ref (am 0)), (1, .ref (ax 0)), (0, .ref b)] [] (wX E kk a b2 c al ax g gm gi y (wm E am g y j td)) := by
  refine wf_aload_n 2 dL_law_447 rfl ?_
  refine wf_callV (As := []) (rest := []) 19 (c_X8_meanings hI hM hG hy) kV_L_61 rfl (by decide) (by decide) (Nat.le_of_ble_eq_true rfl) rfl rfl rfl dL_law_448 (fun v w2 hp => ?_)
  obtain ⟨rfl, gm2, hM2, rfl⟩ := hp
  refine wf_st [.int (sp_meanings g y).1] rfl ?_
  refine wf_cs (ce2 := 59) (sl2 := 986) rfl rfl ?_
  refine wf_perm (w' := wm E am g y j td ++ wX E kk a b2 c al ax (sp_meanings g y).2.1 gm2 gi (sp_meanings g y).2.2 []) pm_xm ?_
  refine wf_aload_n 1 dL_law_451 rfl ?_
  refine wf_callV (As := []) (rest := [.int (sp_meanings g y).1]) 0 (c_X9_meanings hI hJ hy) kV_L_64 rfl (by decide) (by decide) (Nat.le_of_ble_eq_true rfl) rfl rfl rfl dL_law_452 (fun v w2 hp => ?_)
  obtain ⟨rfl, j2, td2, hJ2, rfl⟩ := hp
  refine wf_st [.int (sp_meanings g y).1, .int (sp_meanings g y).1] rfl ?_
  refine wf_cs (ce2 := 59) (sl2 := 986) rfl rfl ?_
  refine wf_perm (w' := wX E kk a b2 c al ax (sp_meanings g y).2.1 gm2 gi (sp_meanings g y).2.2 (wm E am (sp_meanings g y).2.1 (sp_meanings g y).2.2 j2 td2)) pm_mx ?_
  refine wf_icmp_eq 821 dL_law_455 (by decide) (fun _ => ?_) (fun h => absurd rfl h)
  exact K _ _ _ _ _ _ (ok_meanings hI hy).1 hM2 hG (ok_meanings hI hy).2 hJ2
set_option maxHeartbeats 4000000 in
set_option maxRecDepth 100000 in
theorem law_c12 {l : Launch} {E : Ev} {b L : Nat} {xs : Nat → Int32} {kk a b2 c al ax am : Nat → Nat} {g gm gi y j : Gd} {td : Nat → Int32} {i : Nat} (hi : i + 4 ≤ L) (hL : L ≤ 2048) (hI : Inv g) (hM : Inv gm) (hG : Inv gi) (hy : YI y) (hJ : IH j gi) (K : ∀ (g gm gi y j : Gd) (td : Nat → Int32), Inv g → Inv gm → Inv gi → YI y → IH j gi → WF l E RL cL_law 4 ret room_1 false (XtL b L xs) lw_Z [] 59 986 821 [(3, .int (nI i)), (2, .ref (am 0)), (1, .ref (ax 0)), (0, .ref b)] [] (wX E kk a b2 c al ax g gm gi y (wm E am g y j td))) : WF l E RL cL_law 4 ret room_1 false (XtL b L xs) lw_Z [] 59 986 460 [(3, .int (nI i)), (2, .ref (am 0)), (1, .ref (ax 0)), (0, .ref b)] [] (wX E kk a b2 c al ax g gm gi y (wm E am g y j td)) := by
  refine wf_aload_n 2 dL_law_460 rfl ?_
  refine wf_callV (As := []) (rest := []) 19 (c_X8_remain hI hM hG hy) kV_L_65 rfl (by decide) (by decide) (Nat.le_of_ble_eq_true rfl) rfl rfl rfl dL_law_461 (fun v w2 hp => ?_)
  obtain ⟨rfl, gm2, hM2, rfl⟩ := hp
  refine wf_st [.int (sp_remain g y).1] rfl ?_
  refine wf_cs (ce2 := 59) (sl2 := 986) rfl rfl ?_
  refine wf_perm (w' := wm E am g y j td ++ wX E kk a b2 c al ax (sp_remain g y).2.1 gm2 gi (sp_remain g y).2.2 []) pm_xm ?_
  refine wf_aload_n 1 dL_law_464 rfl ?_
  refine wf_callV (As := []) (rest := [.int (sp_remain g y).1]) 0 (c_X9_remain hI hJ hy) kV_L_68 rfl (by decide) (by decide) (Nat.le_of_ble_eq_true rfl) rfl rfl rfl dL_law_465 (fun v w2 hp => ?_)
  obtain ⟨rfl, j2, td2, hJ2, rfl⟩ := hp
  refine wf_st [.int (sp_remain g y).1, .int (sp_remain g y).1] rfl ?_
  refine wf_cs (ce2 := 59) (sl2 := 986) rfl rfl ?_
  refine wf_perm (w' := wX E kk a b2 c al ax (sp_remain g y).2.1 gm2 gi (sp_remain g y).2.2 (wm E am (sp_remain g y).2.1 (sp_remain g y).2.2 j2 td2)) pm_mx ?_
  refine wf_icmp_eq 821 dL_law_468 (by decide) (fun _ => ?_) (fun h => absurd rfl h)
  exact K _ _ _ _ _ _ (ok_remain hI hy).1 hM2 hG (ok_remain hI hy).2 hJ2
set_option maxHeartbeats 4000000 in
set_option maxRecDepth 100000 in
theorem law_c13 {l : Launch} {E : Ev} {b L : Nat} {xs : Nat → Int32} {kk a b2 c al ax am : Nat → Nat} {g gm gi y j : Gd} {td : Nat → Int32} {i : Nat} (hi : i + 4 ≤ L) (hL : L ≤ 2048) (hI : Inv g) (hM : Inv gm) (hG : Inv gi) (hy : YI y) (hJ : IH j gi) (K : ∀ (g gm gi y j : Gd) (td : Nat → Int32), Inv g → Inv gm → Inv gi → YI y → IH j gi → WF l E RL cL_law 4 ret room_1 false (XtL b L xs) lw_Z [] 59 986 821 [(3, .int (nI i)), (2, .ref (am 0)), (1, .ref (ax 0)), (0, .ref b)] [] (wX E kk a b2 c al ax g gm gi y (wm E am g y j td))) : WF l E RL cL_law 4 ret room_1 false (XtL b L xs) lw_Z [] 59 986 473 [(3, .int (nI i)), (2, .ref (am 0)), (1, .ref (ax 0)), (0, .ref b)] [] (wX E kk a b2 c al ax g gm gi y (wm E am g y j td)) := by
  refine wf_aload_n 2 dL_law_473 rfl ?_
  refine wf_aload_n 3 dL_law_474 rfl ?_
  refine wf_iload_n 0 dL_law_475 rfl ?_
  refine wf_iconst (nI 1) dL_law_476 (by decide) ?_
  refine wf_iadd (nI (i + 1)) dL_law_477 (nI_add i 1) ?_
  refine wf_sld (xs (i + 1)) (by omega) (by omega) rfl dL_law_478 ?_
  refine wf_callV (As := [.int (xs (i + 1))]) (rest := []) 19 (c_X8_holds hI hM hG hy) kV_L_69 rfl (by decide) (by decide) (Nat.le_of_ble_eq_true rfl) rfl rfl rfl dL_law_479 (fun v w2 hp => ?_)
  obtain ⟨rfl, gm2, hM2, rfl⟩ := hp
  refine wf_st [.int (sp_holds g y (xs (i + 1))).1] rfl ?_
  refine wf_cs (ce2 := 59) (sl2 := 986) rfl rfl ?_
  refine wf_perm (w' := wm E am g y j td ++ wX E kk a b2 c al ax (sp_holds g y (xs (i + 1))).2.1 gm2 gi (sp_holds g y (xs (i + 1))).2.2 []) pm_xm ?_
  refine wf_aload_n 1 dL_law_482 rfl ?_
  refine wf_aload_n 3 dL_law_483 rfl ?_
  refine wf_iload_n 0 dL_law_484 rfl ?_
  refine wf_iconst (nI 1) dL_law_485 (by decide) ?_
  refine wf_iadd (nI (i + 1)) dL_law_486 (nI_add i 1) ?_
  refine wf_sld (xs (i + 1)) (by omega) (by omega) rfl dL_law_487 ?_
  refine wf_callV (As := [.int (xs (i + 1))]) (rest := [.int (sp_holds g y (xs (i + 1))).1]) 0 (c_X9_holds hI hJ hy) kV_L_72 rfl (by decide) (by decide) (Nat.le_of_ble_eq_true rfl) rfl rfl rfl dL_law_488 (fun v w2 hp => ?_)
  obtain ⟨rfl, j2, td2, hJ2, rfl⟩ := hp
  refine wf_st [.int (sp_holds g y (xs (i + 1))).1, .int (sp_holds g y (xs (i + 1))).1] rfl ?_
  refine wf_cs (ce2 := 59) (sl2 := 986) rfl rfl ?_
  refine wf_perm (w' := wX E kk a b2 c al ax (sp_holds g y (xs (i + 1))).2.1 gm2 gi (sp_holds g y (xs (i + 1))).2.2 (wm E am (sp_holds g y (xs (i + 1))).2.1 (sp_holds g y (xs (i + 1))).2.2 j2 td2)) pm_mx ?_
  refine wf_icmp_eq 821 dL_law_491 (by decide) (fun _ => ?_) (fun h => absurd rfl h)
  exact K _ _ _ _ _ _ (ok_holds hI hy).1 hM2 hG (ok_holds hI hy).2 hJ2
set_option maxHeartbeats 4000000 in
set_option maxRecDepth 100000 in
theorem law_c14 {l : Launch} {E : Ev} {b L : Nat} {xs : Nat → Int32} {kk a b2 c al ax am : Nat → Nat} {g gm gi y j : Gd} {td : Nat → Int32} {i : Nat} (hi : i + 4 ≤ L) (hL : L ≤ 2048) (hI : Inv g) (hM : Inv gm) (hG : Inv gi) (hy : YI y) (hJ : IH j gi) (K : ∀ (g gm gi y j : Gd) (td : Nat → Int32), Inv g → Inv gm → Inv gi → YI y → IH j gi → WF l E RL cL_law 4 ret room_1 false (XtL b L xs) lw_Z [] 59 986 821 [(3, .int (nI i)), (2, .ref (am 0)), (1, .ref (ax 0)), (0, .ref b)] [] (wX E kk a b2 c al ax g gm gi y (wm E am g y j td))) : WF l E RL cL_law 4 ret room_1 false (XtL b L xs) lw_Z [] 59 986 496 [(3, .int (nI i)), (2, .ref (am 0)), (1, .ref (ax 0)), (0, .ref b)] [] (wX E kk a b2 c al ax g gm gi y (wm E am g y j td)) := by
  refine wf_aload_n 2 dL_law_496 rfl ?_
  refine wf_aload_n 3 dL_law_497 rfl ?_
  refine wf_iload_n 0 dL_law_498 rfl ?_
  refine wf_iconst (nI 1) dL_law_499 (by decide) ?_
  refine wf_iadd (nI (i + 1)) dL_law_500 (nI_add i 1) ?_
  refine wf_sld (xs (i + 1)) (by omega) (by omega) rfl dL_law_501 ?_
  refine wf_callV (As := [.int (xs (i + 1))]) (rest := []) 19 (c_X8_boys hI hM hG hy) kV_L_73 rfl (by decide) (by decide) (Nat.le_of_ble_eq_true rfl) rfl rfl rfl dL_law_502 (fun v w2 hp => ?_)
  obtain ⟨rfl, gm2, hM2, rfl⟩ := hp
  refine wf_st [.int (sp_boys g y (xs (i + 1))).1] rfl ?_
  refine wf_cs (ce2 := 59) (sl2 := 986) rfl rfl ?_
  refine wf_perm (w' := wm E am g y j td ++ wX E kk a b2 c al ax (sp_boys g y (xs (i + 1))).2.1 gm2 gi (sp_boys g y (xs (i + 1))).2.2 []) pm_xm ?_
  refine wf_aload_n 1 dL_law_505 rfl ?_
  refine wf_aload_n 3 dL_law_506 rfl ?_
  refine wf_iload_n 0 dL_law_507 rfl ?_
  refine wf_iconst (nI 1) dL_law_508 (by decide) ?_
  refine wf_iadd (nI (i + 1)) dL_law_509 (nI_add i 1) ?_
  refine wf_sld (xs (i + 1)) (by omega) (by omega) rfl dL_law_510 ?_
  refine wf_callV (As := [.int (xs (i + 1))]) (rest := [.int (sp_boys g y (xs (i + 1))).1]) 0 (c_X9_boys hI hJ hy) kV_L_76 rfl (by decide) (by decide) (Nat.le_of_ble_eq_true rfl) rfl rfl rfl dL_law_511 (fun v w2 hp => ?_)
  obtain ⟨rfl, j2, td2, hJ2, rfl⟩ := hp
  refine wf_st [.int (sp_boys g y (xs (i + 1))).1, .int (sp_boys g y (xs (i + 1))).1] rfl ?_
  refine wf_cs (ce2 := 59) (sl2 := 986) rfl rfl ?_
  refine wf_perm (w' := wX E kk a b2 c al ax (sp_boys g y (xs (i + 1))).2.1 gm2 gi (sp_boys g y (xs (i + 1))).2.2 (wm E am (sp_boys g y (xs (i + 1))).2.1 (sp_boys g y (xs (i + 1))).2.2 j2 td2)) pm_mx ?_
  refine wf_icmp_eq 821 dL_law_514 (by decide) (fun _ => ?_) (fun h => absurd rfl h)
  exact K _ _ _ _ _ _ (ok_boys hI hy).1 hM2 hG (ok_boys hI hy).2 hJ2
set_option maxHeartbeats 4000000 in
set_option maxRecDepth 100000 in
theorem law_c15 {l : Launch} {E : Ev} {b L : Nat} {xs : Nat → Int32} {kk a b2 c al ax am : Nat → Nat} {g gm gi y j : Gd} {td : Nat → Int32} {i : Nat} (hi : i + 4 ≤ L) (hL : L ≤ 2048) (hI : Inv g) (hM : Inv gm) (hG : Inv gi) (hy : YI y) (hJ : IH j gi) (K : ∀ (g gm gi y j : Gd) (td : Nat → Int32), Inv g → Inv gm → Inv gi → YI y → IH j gi → WF l E RL cL_law 4 ret room_1 false (XtL b L xs) lw_Z [] 59 986 821 [(3, .int (nI i)), (2, .ref (am 0)), (1, .ref (ax 0)), (0, .ref b)] [] (wX E kk a b2 c al ax g gm gi y (wm E am g y j td))) : WF l E RL cL_law 4 ret room_1 false (XtL b L xs) lw_Z [] 59 986 519 [(3, .int (nI i)), (2, .ref (am 0)), (1, .ref (ax 0)), (0, .ref b)] [] (wX E kk a b2 c al ax g gm gi y (wm E am g y j td)) := by
  refine wf_aload_n 2 dL_law_519 rfl ?_
  refine wf_callV (As := []) (rest := []) 19 (c_X8_guard hI hM hG hy) kV_L_77 rfl (by decide) (by decide) (Nat.le_of_ble_eq_true rfl) rfl rfl rfl dL_law_520 (fun v w2 hp => ?_)
  obtain ⟨rfl, gm2, hM2, rfl⟩ := hp
  refine wf_st [.int (sp_guard g y).1] rfl ?_
  refine wf_cs (ce2 := 59) (sl2 := 986) rfl rfl ?_
  refine wf_perm (w' := wm E am g y j td ++ wX E kk a b2 c al ax (sp_guard g y).2.1 gm2 gi (sp_guard g y).2.2 []) pm_xm ?_
  refine wf_aload_n 1 dL_law_523 rfl ?_
  refine wf_callV (As := []) (rest := [.int (sp_guard g y).1]) 0 (c_X9_guard hI hJ hy) kV_L_80 rfl (by decide) (by decide) (Nat.le_of_ble_eq_true rfl) rfl rfl rfl dL_law_524 (fun v w2 hp => ?_)
  obtain ⟨rfl, j2, td2, hJ2, rfl⟩ := hp
  refine wf_st [.int (sp_guard g y).1, .int (sp_guard g y).1] rfl ?_
  refine wf_cs (ce2 := 59) (sl2 := 986) rfl rfl ?_
  refine wf_perm (w' := wX E kk a b2 c al ax (sp_guard g y).2.1 gm2 gi (sp_guard g y).2.2 (wm E am (sp_guard g y).2.1 (sp_guard g y).2.2 j2 td2)) pm_mx ?_
  refine wf_icmp_eq 821 dL_law_527 (by decide) (fun _ => ?_) (fun h => absurd rfl h)
  exact K _ _ _ _ _ _ (ok_guard hI hy).1 hM2 hG (ok_guard hI hy).2 hJ2
set_option maxHeartbeats 4000000 in
set_option maxRecDepth 100000 in
theorem law_c16 {l : Launch} {E : Ev} {b L : Nat} {xs : Nat → Int32} {kk a b2 c al ax am : Nat → Nat} {g gm gi y j : Gd} {td : Nat → Int32} {i : Nat} (hi : i + 4 ≤ L) (hL : L ≤ 2048) (hI : Inv g) (hM : Inv gm) (hG : Inv gi) (hy : YI y) (hJ : IH j gi) (K : ∀ (g gm gi y j : Gd) (td : Nat → Int32), Inv g → Inv gm → Inv gi → YI y → IH j gi → WF l E RL cL_law 4 ret room_1 false (XtL b L xs) lw_Z [] 59 986 821 [(3, .int (nI i)), (2, .ref (am 0)), (1, .ref (ax 0)), (0, .ref b)] [] (wX E kk a b2 c al ax g gm gi y (wm E am g y j td))) : WF l E RL cL_law 4 ret room_1 false (XtL b L xs) lw_Z [] 59 986 532 [(3, .int (nI i)), (2, .ref (am 0)), (1, .ref (ax 0)), (0, .ref b)] [] (wX E kk a b2 c al ax g gm gi y (wm E am g y j td)) := by
  refine wf_aload_n 2 dL_law_532 rfl ?_
  refine wf_aload_n 3 dL_law_533 rfl ?_
  refine wf_iload_n 0 dL_law_534 rfl ?_
  refine wf_iconst (nI 1) dL_law_535 (by decide) ?_
  refine wf_iadd (nI (i + 1)) dL_law_536 (nI_add i 1) ?_
  refine wf_sld (xs (i + 1)) (by omega) (by omega) rfl dL_law_537 ?_
  refine wf_callV (As := [.int (xs (i + 1))]) (rest := []) 19 (c_X8_winter hI hM hG hy) kV_L_81 rfl (by decide) (by decide) (Nat.le_of_ble_eq_true rfl) rfl rfl rfl dL_law_538 (fun v w2 hp => ?_)
  obtain ⟨rfl, gm2, hM2, rfl⟩ := hp
  refine wf_st [.int (sp_winter g y (xs (i + 1))).1] rfl ?_
  refine wf_cs (ce2 := 59) (sl2 := 986) rfl rfl ?_
  refine wf_perm (w' := wm E am g y j td ++ wX E kk a b2 c al ax (sp_winter g y (xs (i + 1))).2.1 gm2 gi (sp_winter g y (xs (i + 1))).2.2 []) pm_xm ?_
  refine wf_aload_n 1 dL_law_541 rfl ?_
  refine wf_aload_n 3 dL_law_542 rfl ?_
  refine wf_iload_n 0 dL_law_543 rfl ?_
  refine wf_iconst (nI 1) dL_law_544 (by decide) ?_
  refine wf_iadd (nI (i + 1)) dL_law_545 (nI_add i 1) ?_
  refine wf_sld (xs (i + 1)) (by omega) (by omega) rfl dL_law_546 ?_
  refine wf_callV (As := [.int (xs (i + 1))]) (rest := [.int (sp_winter g y (xs (i + 1))).1]) 0 (c_X9_winter hI hJ hy) kV_L_84 rfl (by decide) (by decide) (Nat.le_of_ble_eq_true rfl) rfl rfl rfl dL_law_547 (fun v w2 hp => ?_)
  obtain ⟨rfl, j2, td2, hJ2, rfl⟩ := hp
  refine wf_st [.int (sp_winter g y (xs (i + 1))).1, .int (sp_winter g y (xs (i + 1))).1] rfl ?_
  refine wf_cs (ce2 := 59) (sl2 := 986) rfl rfl ?_
  refine wf_perm (w' := wX E kk a b2 c al ax (sp_winter g y (xs (i + 1))).2.1 gm2 gi (sp_winter g y (xs (i + 1))).2.2 (wm E am (sp_winter g y (xs (i + 1))).2.1 (sp_winter g y (xs (i + 1))).2.2 j2 td2)) pm_mx ?_
  refine wf_icmp_eq 821 dL_law_550 (by decide) (fun _ => ?_) (fun h => absurd rfl h)
  exact K _ _ _ _ _ _ (ok_winter hI hy).1 hM2 hG (ok_winter hI hy).2 hJ2
set_option maxHeartbeats 4000000 in
set_option maxRecDepth 100000 in
theorem law_c17 {l : Launch} {E : Ev} {b L : Nat} {xs : Nat → Int32} {kk a b2 c al ax am : Nat → Nat} {g gm gi y j : Gd} {td : Nat → Int32} {i : Nat} (hi : i + 4 ≤ L) (hL : L ≤ 2048) (hI : Inv g) (hM : Inv gm) (hG : Inv gi) (hy : YI y) (hJ : IH j gi) (K : ∀ (g gm gi y j : Gd) (td : Nat → Int32), Inv g → Inv gm → Inv gi → YI y → IH j gi → WF l E RL cL_law 4 ret room_1 false (XtL b L xs) lw_Z [] 59 986 821 [(3, .int (nI i)), (2, .ref (am 0)), (1, .ref (ax 0)), (0, .ref b)] [] (wX E kk a b2 c al ax g gm gi y (wm E am g y j td))) : WF l E RL cL_law 4 ret room_1 false (XtL b L xs) lw_Z [] 59 986 555 [(3, .int (nI i)), (2, .ref (am 0)), (1, .ref (ax 0)), (0, .ref b)] [] (wX E kk a b2 c al ax g gm gi y (wm E am g y j td)) := by
  refine wf_aload_n 2 dL_law_555 rfl ?_
  refine wf_callV (As := []) (rest := []) 19 (c_X8_becomes hI hM hG hy) kV_L_85 rfl (by decide) (by decide) (Nat.le_of_ble_eq_true rfl) rfl rfl rfl dL_law_556 (fun v w2 hp => ?_)
  obtain ⟨rfl, gm2, hM2, rfl⟩ := hp
  refine wf_st [.int (sp_becomes g y).1] rfl ?_
  refine wf_cs (ce2 := 59) (sl2 := 986) rfl rfl ?_
  refine wf_perm (w' := wm E am g y j td ++ wX E kk a b2 c al ax (sp_becomes g y).2.1 gm2 gi (sp_becomes g y).2.2 []) pm_xm ?_
  refine wf_aload_n 1 dL_law_559 rfl ?_
  refine wf_callV (As := []) (rest := [.int (sp_becomes g y).1]) 0 (c_X9_becomes hI hJ hy) kV_L_88 rfl (by decide) (by decide) (Nat.le_of_ble_eq_true rfl) rfl rfl rfl dL_law_560 (fun v w2 hp => ?_)
  obtain ⟨rfl, j2, td2, hJ2, rfl⟩ := hp
  refine wf_st [.int (sp_becomes g y).1, .int (sp_becomes g y).1] rfl ?_
  refine wf_cs (ce2 := 59) (sl2 := 986) rfl rfl ?_
  refine wf_perm (w' := wX E kk a b2 c al ax (sp_becomes g y).2.1 gm2 gi (sp_becomes g y).2.2 (wm E am (sp_becomes g y).2.1 (sp_becomes g y).2.2 j2 td2)) pm_mx ?_
  refine wf_icmp_eq 821 dL_law_563 (by decide) (fun _ => ?_) (fun h => absurd rfl h)
  exact K _ _ _ _ _ _ (ok_becomes hI hy).1 hM2 hG (ok_becomes hI hy).2 hJ2
set_option maxHeartbeats 4000000 in
set_option maxRecDepth 100000 in
theorem law_c18 {l : Launch} {E : Ev} {b L : Nat} {xs : Nat → Int32} {kk a b2 c al ax am : Nat → Nat} {g gm gi y j : Gd} {td : Nat → Int32} {i : Nat} (hi : i + 4 ≤ L) (hL : L ≤ 2048) (hI : Inv g) (hM : Inv gm) (hG : Inv gi) (hy : YI y) (hJ : IH j gi) (K : ∀ (g gm gi y j : Gd) (td : Nat → Int32), Inv g → Inv gm → Inv gi → YI y → IH j gi → WF l E RL cL_law 4 ret room_1 false (XtL b L xs) lw_Z [] 59 986 821 [(3, .int (nI i)), (2, .ref (am 0)), (1, .ref (ax 0)), (0, .ref b)] [] (wX E kk a b2 c al ax g gm gi y (wm E am g y j td))) : WF l E RL cL_law 4 ret room_1 false (XtL b L xs) lw_Z [] 59 986 568 [(3, .int (nI i)), (2, .ref (am 0)), (1, .ref (ax 0)), (0, .ref b)] [] (wX E kk a b2 c al ax g gm gi y (wm E am g y j td)) := by
  refine wf_aload_n 2 dL_law_568 rfl ?_
  refine wf_callV (As := []) (rest := []) 19 (c_X8_danger hI hM hG hy) kV_L_89 rfl (by decide) (by decide) (Nat.le_of_ble_eq_true rfl) rfl rfl rfl dL_law_569 (fun v w2 hp => ?_)
  obtain ⟨rfl, gm2, hM2, rfl⟩ := hp
  refine wf_st [.int (sp_danger g y).1] rfl ?_
  refine wf_cs (ce2 := 59) (sl2 := 986) rfl rfl ?_
  refine wf_perm (w' := wm E am g y j td ++ wX E kk a b2 c al ax (sp_danger g y).2.1 gm2 gi (sp_danger g y).2.2 []) pm_xm ?_
  refine wf_aload_n 1 dL_law_572 rfl ?_
  refine wf_callV (As := []) (rest := [.int (sp_danger g y).1]) 0 (c_X9_danger hI hJ hy) kV_L_92 rfl (by decide) (by decide) (Nat.le_of_ble_eq_true rfl) rfl rfl rfl dL_law_573 (fun v w2 hp => ?_)
  obtain ⟨rfl, j2, td2, hJ2, rfl⟩ := hp
  refine wf_st [.int (sp_danger g y).1, .int (sp_danger g y).1] rfl ?_
  refine wf_cs (ce2 := 59) (sl2 := 986) rfl rfl ?_
  refine wf_perm (w' := wX E kk a b2 c al ax (sp_danger g y).2.1 gm2 gi (sp_danger g y).2.2 (wm E am (sp_danger g y).2.1 (sp_danger g y).2.2 j2 td2)) pm_mx ?_
  refine wf_icmp_eq 821 dL_law_576 (by decide) (fun _ => ?_) (fun h => absurd rfl h)
  exact K _ _ _ _ _ _ (ok_danger hI hy).1 hM2 hG (ok_danger hI hy).2 hJ2
set_option maxHeartbeats 4000000 in
set_option maxRecDepth 100000 in
theorem law_c19 {l : Launch} {E : Ev} {b L : Nat} {xs : Nat → Int32} {kk a b2 c al ax am : Nat → Nat} {g gm gi y j : Gd} {td : Nat → Int32} {i : Nat} (hi : i + 4 ≤ L) (hL : L ≤ 2048) (hI : Inv g) (hM : Inv gm) (hG : Inv gi) (hy : YI y) (hJ : IH j gi) (K : ∀ (g gm gi y j : Gd) (td : Nat → Int32), Inv g → Inv gm → Inv gi → YI y → IH j gi → WF l E RL cL_law 4 ret room_1 false (XtL b L xs) lw_Z [] 59 986 821 [(3, .int (nI i)), (2, .ref (am 0)), (1, .ref (ax 0)), (0, .ref b)] [] (wX E kk a b2 c al ax g gm gi y (wm E am g y j td))) : WF l E RL cL_law 4 ret room_1 false (XtL b L xs) lw_Z [] 59 986 581 [(3, .int (nI i)), (2, .ref (am 0)), (1, .ref (ax 0)), (0, .ref b)] [] (wX E kk a b2 c al ax g gm gi y (wm E am g y j td)) := by
  refine wf_aload_n 2 dL_law_581 rfl ?_
  refine wf_aload_n 3 dL_law_582 rfl ?_
  refine wf_iload_n 0 dL_law_583 rfl ?_
  refine wf_iconst (nI 1) dL_law_584 (by decide) ?_
  refine wf_iadd (nI (i + 1)) dL_law_585 (nI_add i 1) ?_
  refine wf_sld (xs (i + 1)) (by omega) (by omega) rfl dL_law_586 ?_
  refine wf_callV (As := [.int (xs (i + 1))]) (rest := []) 19 (c_X8_lasts hI hM hG hy) kV_L_93 rfl (by decide) (by decide) (Nat.le_of_ble_eq_true rfl) rfl rfl rfl dL_law_587 (fun v w2 hp => ?_)
  obtain ⟨rfl, gm2, hM2, rfl⟩ := hp
  refine wf_st [.int (sp_lasts g y (xs (i + 1))).1] rfl ?_
  refine wf_cs (ce2 := 59) (sl2 := 986) rfl rfl ?_
  refine wf_perm (w' := wm E am g y j td ++ wX E kk a b2 c al ax (sp_lasts g y (xs (i + 1))).2.1 gm2 gi (sp_lasts g y (xs (i + 1))).2.2 []) pm_xm ?_
  refine wf_aload_n 1 dL_law_590 rfl ?_
  refine wf_aload_n 3 dL_law_591 rfl ?_
  refine wf_iload_n 0 dL_law_592 rfl ?_
  refine wf_iconst (nI 1) dL_law_593 (by decide) ?_
  refine wf_iadd (nI (i + 1)) dL_law_594 (nI_add i 1) ?_
  refine wf_sld (xs (i + 1)) (by omega) (by omega) rfl dL_law_595 ?_
  refine wf_callV (As := [.int (xs (i + 1))]) (rest := [.int (sp_lasts g y (xs (i + 1))).1]) 0 (c_X9_lasts hI hJ hy) kV_L_96 rfl (by decide) (by decide) (Nat.le_of_ble_eq_true rfl) rfl rfl rfl dL_law_596 (fun v w2 hp => ?_)
  obtain ⟨rfl, j2, td2, hJ2, rfl⟩ := hp
  refine wf_st [.int (sp_lasts g y (xs (i + 1))).1, .int (sp_lasts g y (xs (i + 1))).1] rfl ?_
  refine wf_cs (ce2 := 59) (sl2 := 986) rfl rfl ?_
  refine wf_perm (w' := wX E kk a b2 c al ax (sp_lasts g y (xs (i + 1))).2.1 gm2 gi (sp_lasts g y (xs (i + 1))).2.2 (wm E am (sp_lasts g y (xs (i + 1))).2.1 (sp_lasts g y (xs (i + 1))).2.2 j2 td2)) pm_mx ?_
  refine wf_icmp_eq 821 dL_law_599 (by decide) (fun _ => ?_) (fun h => absurd rfl h)
  exact K _ _ _ _ _ _ (ok_lasts hI hy).1 hM2 hG (ok_lasts hI hy).2 hJ2
set_option maxHeartbeats 4000000 in
set_option maxRecDepth 100000 in
theorem law_c20 {l : Launch} {E : Ev} {b L : Nat} {xs : Nat → Int32} {kk a b2 c al ax am : Nat → Nat} {g gm gi y j : Gd} {td : Nat → Int32} {i : Nat} (hi : i + 4 ≤ L) (hL : L ≤ 2048) (hI : Inv g) (hM : Inv gm) (hG : Inv gi) (hy : YI y) (hJ : IH j gi) (K : ∀ (g gm gi y j : Gd) (td : Nat → Int32), Inv g → Inv gm → Inv gi → YI y → IH j gi → WF l E RL cL_law 4 ret room_1 false (XtL b L xs) lw_Z [] 59 986 821 [(3, .int (nI i)), (2, .ref (am 0)), (1, .ref (ax 0)), (0, .ref b)] [] (wX E kk a b2 c al ax g gm gi y (wm E am g y j td))) : WF l E RL cL_law 4 ret room_1 false (XtL b L xs) lw_Z [] 59 986 604 [(3, .int (nI i)), (2, .ref (am 0)), (1, .ref (ax 0)), (0, .ref b)] [] (wX E kk a b2 c al ax g gm gi y (wm E am g y j td)) := by
  refine wf_aload_n 2 dL_law_604 rfl ?_
  refine wf_aload_n 3 dL_law_605 rfl ?_
  refine wf_iload_n 0 dL_law_606 rfl ?_
  refine wf_iconst (nI 1) dL_law_607 (by decide) ?_
  refine wf_iadd (nI (i + 1)) dL_law_608 (nI_add i 1) ?_
  refine wf_sld (xs (i + 1)) (by omega) (by omega) rfl dL_law_609 ?_
  refine wf_aload_n 3 dL_law_610 rfl ?_
  refine wf_iload_n 0 dL_law_611 rfl ?_
  refine wf_iconst (nI 2) dL_law_612 (by decide) ?_
  refine wf_iadd (nI (i + 2)) dL_law_613 (nI_add i 2) ?_
  refine wf_sld (xs (i + 2)) (by omega) (by omega) rfl dL_law_614 ?_
  refine wf_callV (As := [.int (xs (i + 1)), .int (xs (i + 2))]) (rest := []) 19 (c_X8_mixed hI hM hG hy) kV_L_97 rfl (by decide) (by decide) (Nat.le_of_ble_eq_true rfl) rfl rfl rfl dL_law_615 (fun v w2 hp => ?_)
  obtain ⟨rfl, gm2, hM2, rfl⟩ := hp
  refine wf_st [.int (sp_mixed g y (xs (i + 1)) (xs (i + 2))).1] rfl ?_
  refine wf_cs (ce2 := 59) (sl2 := 986) rfl rfl ?_
  refine wf_perm (w' := wm E am g y j td ++ wX E kk a b2 c al ax (sp_mixed g y (xs (i + 1)) (xs (i + 2))).2.1 gm2 gi (sp_mixed g y (xs (i + 1)) (xs (i + 2))).2.2 []) pm_xm ?_
  refine wf_aload_n 1 dL_law_618 rfl ?_
  refine wf_aload_n 3 dL_law_619 rfl ?_
  refine wf_iload_n 0 dL_law_620 rfl ?_
  refine wf_iconst (nI 1) dL_law_621 (by decide) ?_
  refine wf_iadd (nI (i + 1)) dL_law_622 (nI_add i 1) ?_
  refine wf_sld (xs (i + 1)) (by omega) (by omega) rfl dL_law_623 ?_
  refine wf_aload_n 3 dL_law_624 rfl ?_
  refine wf_iload_n 0 dL_law_625 rfl ?_
  refine wf_iconst (nI 2) dL_law_626 (by decide) ?_
  refine wf_iadd (nI (i + 2)) dL_law_627 (nI_add i 2) ?_
  refine wf_sld (xs (i + 2)) (by omega) (by omega) rfl dL_law_628 ?_
  refine wf_callV (As := [.int (xs (i + 1)), .int (xs (i + 2))]) (rest := [.int (sp_mixed g y (xs (i + 1)) (xs (i + 2))).1]) 0 (c_X9_mixed hI hJ hy) kV_L_100 rfl (by decide) (by decide) (Nat.le_of_ble_eq_true rfl) rfl rfl rfl dL_law_629 (fun v w2 hp => ?_)
  obtain ⟨rfl, j2, td2, hJ2, rfl⟩ := hp
  refine wf_st [.int (sp_mixed g y (xs (i + 1)) (xs (i + 2))).1, .int (sp_mixed g y (xs (i + 1)) (xs (i + 2))).1] rfl ?_
  refine wf_cs (ce2 := 59) (sl2 := 986) rfl rfl ?_
  refine wf_perm (w' := wX E kk a b2 c al ax (sp_mixed g y (xs (i + 1)) (xs (i + 2))).2.1 gm2 gi (sp_mixed g y (xs (i + 1)) (xs (i + 2))).2.2 (wm E am (sp_mixed g y (xs (i + 1)) (xs (i + 2))).2.1 (sp_mixed g y (xs (i + 1)) (xs (i + 2))).2.2 j2 td2)) pm_mx ?_
  refine wf_icmp_eq 821 dL_law_632 (by decide) (fun _ => ?_) (fun h => absurd rfl h)
  exact K _ _ _ _ _ _ (ok_mixed hI hy).1 hM2 hG (ok_mixed hI hy).2 hJ2
set_option maxHeartbeats 4000000 in
set_option maxRecDepth 100000 in
theorem law_c21 {l : Launch} {E : Ev} {b L : Nat} {xs : Nat → Int32} {kk a b2 c al ax am : Nat → Nat} {g gm gi y j : Gd} {td : Nat → Int32} {i : Nat} (hi : i + 4 ≤ L) (hL : L ≤ 2048) (hI : Inv g) (hM : Inv gm) (hG : Inv gi) (hy : YI y) (hJ : IH j gi) (K : ∀ (g gm gi y j : Gd) (td : Nat → Int32), Inv g → Inv gm → Inv gi → YI y → IH j gi → WF l E RL cL_law 4 ret room_1 false (XtL b L xs) lw_Z [] 59 986 821 [(3, .int (nI i)), (2, .ref (am 0)), (1, .ref (ax 0)), (0, .ref b)] [] (wX E kk a b2 c al ax g gm gi y (wm E am g y j td))) : WF l E RL cL_law 4 ret room_1 false (XtL b L xs) lw_Z [] 59 986 637 [(3, .int (nI i)), (2, .ref (am 0)), (1, .ref (ax 0)), (0, .ref b)] [] (wX E kk a b2 c al ax g gm gi y (wm E am g y j td)) := by
  refine wf_aload_n 2 dL_law_637 rfl ?_
  refine wf_aload_n 3 dL_law_638 rfl ?_
  refine wf_iload_n 0 dL_law_639 rfl ?_
  refine wf_iconst (nI 1) dL_law_640 (by decide) ?_
  refine wf_iadd (nI (i + 1)) dL_law_641 (nI_add i 1) ?_
  refine wf_sld (xs (i + 1)) (by omega) (by omega) rfl dL_law_642 ?_
  refine wf_aload_n 3 dL_law_643 rfl ?_
  refine wf_iload_n 0 dL_law_644 rfl ?_
  refine wf_iconst (nI 2) dL_law_645 (by decide) ?_
  refine wf_iadd (nI (i + 2)) dL_law_646 (nI_add i 2) ?_
  refine wf_sld (xs (i + 2)) (by omega) (by omega) rfl dL_law_647 ?_
  refine wf_callV (As := [.int (xs (i + 1)), .int (xs (i + 2))]) (rest := []) 19 (c_X8_tastes hI hM hG hy) kV_L_101 rfl (by decide) (by decide) (Nat.le_of_ble_eq_true rfl) rfl rfl rfl dL_law_648 (fun v w2 hp => ?_)
  obtain ⟨rfl, gm2, hM2, rfl⟩ := hp
  refine wf_st [.int (sp_tastes g y (xs (i + 1)) (xs (i + 2))).1] rfl ?_
  refine wf_cs (ce2 := 59) (sl2 := 986) rfl rfl ?_
  refine wf_perm (w' := wm E am g y j td ++ wX E kk a b2 c al ax (sp_tastes g y (xs (i + 1)) (xs (i + 2))).2.1 gm2 gi (sp_tastes g y (xs (i + 1)) (xs (i + 2))).2.2 []) pm_xm ?_
  refine wf_aload_n 1 dL_law_651 rfl ?_
  refine wf_aload_n 3 dL_law_652 rfl ?_
  refine wf_iload_n 0 dL_law_653 rfl ?_
  refine wf_iconst (nI 1) dL_law_654 (by decide) ?_
  refine wf_iadd (nI (i + 1)) dL_law_655 (nI_add i 1) ?_
  refine wf_sld (xs (i + 1)) (by omega) (by omega) rfl dL_law_656 ?_
  refine wf_aload_n 3 dL_law_657 rfl ?_
  refine wf_iload_n 0 dL_law_658 rfl ?_
  refine wf_iconst (nI 2) dL_law_659 (by decide) ?_
  refine wf_iadd (nI (i + 2)) dL_law_660 (nI_add i 2) ?_
  refine wf_sld (xs (i + 2)) (by omega) (by omega) rfl dL_law_661 ?_
  refine wf_callV (As := [.int (xs (i + 1)), .int (xs (i + 2))]) (rest := [.int (sp_tastes g y (xs (i + 1)) (xs (i + 2))).1]) 0 (c_X9_tastes hI hJ hy) kV_L_104 rfl (by decide) (by decide) (Nat.le_of_ble_eq_true rfl) rfl rfl rfl dL_law_662 (fun v w2 hp => ?_)
  obtain ⟨rfl, j2, td2, hJ2, rfl⟩ := hp
  refine wf_st [.int (sp_tastes g y (xs (i + 1)) (xs (i + 2))).1, .int (sp_tastes g y (xs (i + 1)) (xs (i + 2))).1] rfl ?_
  refine wf_cs (ce2 := 59) (sl2 := 986) rfl rfl ?_
  refine wf_perm (w' := wX E kk a b2 c al ax (sp_tastes g y (xs (i + 1)) (xs (i + 2))).2.1 gm2 gi (sp_tastes g y (xs (i + 1)) (xs (i + 2))).2.2 (wm E am (sp_tastes g y (xs (i + 1)) (xs (i + 2))).2.1 (sp_tastes g y (xs (i + 1)) (xs (i + 2))).2.2 j2 td2)) pm_mx ?_
  refine wf_icmp_eq 821 dL_law_665 (by decide) (fun _ => ?_) (fun h => absurd rfl h)
  exact K _ _ _ _ _ _ (ok_tastes hI hy).1 hM2 hG (ok_tastes hI hy).2 hJ2
set_option maxHeartbeats 4000000 in
set_option maxRecDepth 100000 in
theorem law_c22 {l : Launch} {E : Ev} {b L : Nat} {xs : Nat → Int32} {kk a b2 c al ax am : Nat → Nat} {g gm gi y j : Gd} {td : Nat → Int32} {i : Nat} (hi : i + 4 ≤ L) (hL : L ≤ 2048) (hI : Inv g) (hM : Inv gm) (hG : Inv gi) (hy : YI y) (hJ : IH j gi) (K : ∀ (g gm gi y j : Gd) (td : Nat → Int32), Inv g → Inv gm → Inv gi → YI y → IH j gi → WF l E RL cL_law 4 ret room_1 false (XtL b L xs) lw_Z [] 59 986 821 [(3, .int (nI i)), (2, .ref (am 0)), (1, .ref (ax 0)), (0, .ref b)] [] (wX E kk a b2 c al ax g gm gi y (wm E am g y j td))) : WF l E RL cL_law 4 ret room_1 false (XtL b L xs) lw_Z [] 59 986 670 [(3, .int (nI i)), (2, .ref (am 0)), (1, .ref (ax 0)), (0, .ref b)] [] (wX E kk a b2 c al ax g gm gi y (wm E am g y j td)) := by
  refine wf_aload_n 2 dL_law_670 rfl ?_
  refine wf_aload_n 3 dL_law_671 rfl ?_
  refine wf_iload_n 0 dL_law_672 rfl ?_
  refine wf_iconst (nI 1) dL_law_673 (by decide) ?_
  refine wf_iadd (nI (i + 1)) dL_law_674 (nI_add i 1) ?_
  refine wf_sld (xs (i + 1)) (by omega) (by omega) rfl dL_law_675 ?_
  refine wf_aload_n 3 dL_law_676 rfl ?_
  refine wf_iload_n 0 dL_law_677 rfl ?_
  refine wf_iconst (nI 2) dL_law_678 (by decide) ?_
  refine wf_iadd (nI (i + 2)) dL_law_679 (nI_add i 2) ?_
  refine wf_sld (xs (i + 2)) (by omega) (by omega) rfl dL_law_680 ?_
  refine wf_callV (As := [.int (xs (i + 1)), .int (xs (i + 2))]) (rest := []) 19 (c_X8_fitting hI hM hG hy) kV_L_105 rfl (by decide) (by decide) (Nat.le_of_ble_eq_true rfl) rfl rfl rfl dL_law_681 (fun v w2 hp => ?_)
  obtain ⟨rfl, gm2, hM2, rfl⟩ := hp
  refine wf_st [.int (sp_fitting g y (xs (i + 1)) (xs (i + 2))).1] rfl ?_
  refine wf_cs (ce2 := 59) (sl2 := 986) rfl rfl ?_
  refine wf_perm (w' := wm E am g y j td ++ wX E kk a b2 c al ax (sp_fitting g y (xs (i + 1)) (xs (i + 2))).2.1 gm2 gi (sp_fitting g y (xs (i + 1)) (xs (i + 2))).2.2 []) pm_xm ?_
  refine wf_aload_n 1 dL_law_684 rfl ?_
  refine wf_aload_n 3 dL_law_685 rfl ?_
  refine wf_iload_n 0 dL_law_686 rfl ?_
  refine wf_iconst (nI 1) dL_law_687 (by decide) ?_
  refine wf_iadd (nI (i + 1)) dL_law_688 (nI_add i 1) ?_
  refine wf_sld (xs (i + 1)) (by omega) (by omega) rfl dL_law_689 ?_
  refine wf_aload_n 3 dL_law_690 rfl ?_
  refine wf_iload_n 0 dL_law_691 rfl ?_
  refine wf_iconst (nI 2) dL_law_692 (by decide) ?_
  refine wf_iadd (nI (i + 2)) dL_law_693 (nI_add i 2) ?_
  refine wf_sld (xs (i + 2)) (by omega) (by omega) rfl dL_law_694 ?_
  refine wf_callV (As := [.int (xs (i + 1)), .int (xs (i + 2))]) (rest := [.int (sp_fitting g y (xs (i + 1)) (xs (i + 2))).1]) 0 (c_X9_fitting hI hJ hy) kV_L_108 rfl (by decide) (by decide) (Nat.le_of_ble_eq_true rfl) rfl rfl rfl dL_law_695 (fun v w2 hp => ?_)
  obtain ⟨rfl, j2, td2, hJ2, rfl⟩ := hp
  refine wf_st [.int (sp_fitting g y (xs (i + 1)) (xs (i + 2))).1, .int (sp_fitting g y (xs (i + 1)) (xs (i + 2))).1] rfl ?_
  refine wf_cs (ce2 := 59) (sl2 := 986) rfl rfl ?_
  refine wf_perm (w' := wX E kk a b2 c al ax (sp_fitting g y (xs (i + 1)) (xs (i + 2))).2.1 gm2 gi (sp_fitting g y (xs (i + 1)) (xs (i + 2))).2.2 (wm E am (sp_fitting g y (xs (i + 1)) (xs (i + 2))).2.1 (sp_fitting g y (xs (i + 1)) (xs (i + 2))).2.2 j2 td2)) pm_mx ?_
  refine wf_icmp_eq 821 dL_law_698 (by decide) (fun _ => ?_) (fun h => absurd rfl h)
  exact K _ _ _ _ _ _ (ok_fitting hI hy).1 hM2 hG (ok_fitting hI hy).2 hJ2
set_option maxHeartbeats 4000000 in
set_option maxRecDepth 100000 in
theorem law_c23 {l : Launch} {E : Ev} {b L : Nat} {xs : Nat → Int32} {kk a b2 c al ax am : Nat → Nat} {g gm gi y j : Gd} {td : Nat → Int32} {i : Nat} (hi : i + 4 ≤ L) (hL : L ≤ 2048) (hI : Inv g) (hM : Inv gm) (hG : Inv gi) (hy : YI y) (hJ : IH j gi) (K : ∀ (g gm gi y j : Gd) (td : Nat → Int32), Inv g → Inv gm → Inv gi → YI y → IH j gi → WF l E RL cL_law 4 ret room_1 false (XtL b L xs) lw_Z [] 59 986 821 [(3, .int (nI i)), (2, .ref (am 0)), (1, .ref (ax 0)), (0, .ref b)] [] (wX E kk a b2 c al ax g gm gi y (wm E am g y j td))) : WF l E RL cL_law 4 ret room_1 false (XtL b L xs) lw_Z [] 59 986 703 [(3, .int (nI i)), (2, .ref (am 0)), (1, .ref (ax 0)), (0, .ref b)] [] (wX E kk a b2 c al ax g gm gi y (wm E am g y j td)) := by
  refine wf_aload_n 2 dL_law_703 rfl ?_
  refine wf_aload_n 3 dL_law_704 rfl ?_
  refine wf_iload_n 0 dL_law_705 rfl ?_
  refine wf_iconst (nI 1) dL_law_706 (by decide) ?_
  refine wf_iadd (nI (i + 1)) dL_law_707 (nI_add i 1) ?_
  refine wf_sld (xs (i + 1)) (by omega) (by omega) rfl dL_law_708 ?_
  refine wf_callV (As := [.int (xs (i + 1))]) (rest := []) 19 (c_X8_row hI hM hG hy) kV_L_109 rfl (by decide) (by decide) (Nat.le_of_ble_eq_true rfl) rfl rfl rfl dL_law_709 (fun v w2 hp => ?_)
  obtain ⟨rfl, gm2, hM2, rfl⟩ := hp
  refine wf_st [.int (sp_row g y (xs (i + 1))).1] rfl ?_
  refine wf_cs (ce2 := 59) (sl2 := 986) rfl rfl ?_
  refine wf_perm (w' := wm E am g y j td ++ wX E kk a b2 c al ax (sp_row g y (xs (i + 1))).2.1 gm2 gi (sp_row g y (xs (i + 1))).2.2 []) pm_xm ?_
  refine wf_aload_n 1 dL_law_712 rfl ?_
  refine wf_aload_n 3 dL_law_713 rfl ?_
  refine wf_iload_n 0 dL_law_714 rfl ?_
  refine wf_iconst (nI 1) dL_law_715 (by decide) ?_
  refine wf_iadd (nI (i + 1)) dL_law_716 (nI_add i 1) ?_
  refine wf_sld (xs (i + 1)) (by omega) (by omega) rfl dL_law_717 ?_
  refine wf_callV (As := [.int (xs (i + 1))]) (rest := [.int (sp_row g y (xs (i + 1))).1]) 0 (c_X9_row hI hJ hy) kV_L_112 rfl (by decide) (by decide) (Nat.le_of_ble_eq_true rfl) rfl rfl rfl dL_law_718 (fun v w2 hp => ?_)
  obtain ⟨rfl, j2, td2, hJ2, rfl⟩ := hp
  refine wf_st [.int (sp_row g y (xs (i + 1))).1, .int (sp_row g y (xs (i + 1))).1] rfl ?_
  refine wf_cs (ce2 := 59) (sl2 := 986) rfl rfl ?_
  refine wf_perm (w' := wX E kk a b2 c al ax (sp_row g y (xs (i + 1))).2.1 gm2 gi (sp_row g y (xs (i + 1))).2.2 (wm E am (sp_row g y (xs (i + 1))).2.1 (sp_row g y (xs (i + 1))).2.2 j2 td2)) pm_mx ?_
  refine wf_icmp_eq 821 dL_law_721 (by decide) (fun _ => ?_) (fun h => absurd rfl h)
  exact K _ _ _ _ _ _ (ok_row hI hy).1 hM2 hG (ok_row hI hy).2 hJ2
set_option maxHeartbeats 4000000 in
set_option maxRecDepth 100000 in
theorem law_c24 {l : Launch} {E : Ev} {b L : Nat} {xs : Nat → Int32} {kk a b2 c al ax am : Nat → Nat} {g gm gi y j : Gd} {td : Nat → Int32} {i : Nat} (hi : i + 4 ≤ L) (hL : L ≤ 2048) (hI : Inv g) (hM : Inv gm) (hG : Inv gi) (hy : YI y) (hJ : IH j gi) (K : ∀ (g gm gi y j : Gd) (td : Nat → Int32), Inv g → Inv gm → Inv gi → YI y → IH j gi → WF l E RL cL_law 4 ret room_1 false (XtL b L xs) lw_Z [] 59 986 821 [(3, .int (nI i)), (2, .ref (am 0)), (1, .ref (ax 0)), (0, .ref b)] [] (wX E kk a b2 c al ax g gm gi y (wm E am g y j td))) : WF l E RL cL_law 4 ret room_1 false (XtL b L xs) lw_Z [] 59 986 726 [(3, .int (nI i)), (2, .ref (am 0)), (1, .ref (ax 0)), (0, .ref b)] [] (wX E kk a b2 c al ax g gm gi y (wm E am g y j td)) := by
  refine wf_aload_n 2 dL_law_726 rfl ?_
  refine wf_callV (As := []) (rest := []) 19 (c_X8_judge hI hM hG hy) kV_L_113 rfl (by decide) (by decide) (Nat.le_of_ble_eq_true rfl) rfl rfl rfl dL_law_727 (fun v w2 hp => ?_)
  obtain ⟨rfl, gm2, hM2, rfl⟩ := hp
  refine wf_st [.int (sp_judge g y).1] rfl ?_
  refine wf_cs (ce2 := 59) (sl2 := 986) rfl rfl ?_
  refine wf_perm (w' := wm E am g y j td ++ wX E kk a b2 c al ax (sp_judge g y).2.1 gm2 gi (sp_judge g y).2.2 []) pm_xm ?_
  refine wf_aload_n 1 dL_law_730 rfl ?_
  refine wf_callV (As := []) (rest := [.int (sp_judge g y).1]) 0 (c_X9_judge hI hJ hy) kV_L_116 rfl (by decide) (by decide) (Nat.le_of_ble_eq_true rfl) rfl rfl rfl dL_law_731 (fun v w2 hp => ?_)
  obtain ⟨rfl, j2, td2, hJ2, rfl⟩ := hp
  refine wf_st [.int (sp_judge g y).1, .int (sp_judge g y).1] rfl ?_
  refine wf_cs (ce2 := 59) (sl2 := 986) rfl rfl ?_
  refine wf_perm (w' := wX E kk a b2 c al ax (sp_judge g y).2.1 gm2 gi (sp_judge g y).2.2 (wm E am (sp_judge g y).2.1 (sp_judge g y).2.2 j2 td2)) pm_mx ?_
  refine wf_icmp_eq 821 dL_law_734 (by decide) (fun _ => ?_) (fun h => absurd rfl h)
  exact K _ _ _ _ _ _ (ok_judge hI hy).1 hM2 hG (ok_judge hI hy).2 hJ2
set_option maxHeartbeats 4000000 in
set_option maxRecDepth 100000 in
theorem law_c25 {l : Launch} {E : Ev} {b L : Nat} {xs : Nat → Int32} {kk a b2 c al ax am : Nat → Nat} {g gm gi y j : Gd} {td : Nat → Int32} {i : Nat} (hi : i + 4 ≤ L) (hL : L ≤ 2048) (hI : Inv g) (hM : Inv gm) (hG : Inv gi) (hy : YI y) (hJ : IH j gi) (K : ∀ (g gm gi y j : Gd) (td : Nat → Int32), Inv g → Inv gm → Inv gi → YI y → IH j gi → WF l E RL cL_law 4 ret room_1 false (XtL b L xs) lw_Z [] 59 986 821 [(3, .int (nI i)), (2, .ref (am 0)), (1, .ref (ax 0)), (0, .ref b)] [] (wX E kk a b2 c al ax g gm gi y (wm E am g y j td))) : WF l E RL cL_law 4 ret room_1 false (XtL b L xs) lw_Z [] 59 986 739 [(3, .int (nI i)), (2, .ref (am 0)), (1, .ref (ax 0)), (0, .ref b)] [] (wX E kk a b2 c al ax g gm gi y (wm E am g y j td)) := by
  refine wf_aload_n 2 dL_law_739 rfl ?_
  refine wf_aload_n 3 dL_law_740 rfl ?_
  refine wf_iload_n 0 dL_law_741 rfl ?_
  refine wf_iconst (nI 1) dL_law_742 (by decide) ?_
  refine wf_iadd (nI (i + 1)) dL_law_743 (nI_add i 1) ?_
  refine wf_sld (xs (i + 1)) (by omega) (by omega) rfl dL_law_744 ?_
  refine wf_aload_n 3 dL_law_745 rfl ?_
  refine wf_iload_n 0 dL_law_746 rfl ?_
  refine wf_iconst (nI 2) dL_law_747 (by decide) ?_
  refine wf_iadd (nI (i + 2)) dL_law_748 (nI_add i 2) ?_
  refine wf_sld (xs (i + 2)) (by omega) (by omega) rfl dL_law_749 ?_
  refine wf_callV (As := [.int (xs (i + 1)), .int (xs (i + 2))]) (rest := []) 19 (c_X8_seeds hI hM hG hy) kV_L_117 rfl (by decide) (by decide) (Nat.le_of_ble_eq_true rfl) rfl rfl rfl dL_law_750 (fun v w2 hp => ?_)
  obtain ⟨rfl, gm2, hM2, rfl⟩ := hp
  refine wf_st [.int (sp_seeds g y (xs (i + 1)) (xs (i + 2))).1] rfl ?_
  refine wf_cs (ce2 := 59) (sl2 := 986) rfl rfl ?_
  refine wf_perm (w' := wm E am g y j td ++ wX E kk a b2 c al ax (sp_seeds g y (xs (i + 1)) (xs (i + 2))).2.1 gm2 gi (sp_seeds g y (xs (i + 1)) (xs (i + 2))).2.2 []) pm_xm ?_
  refine wf_aload_n 1 dL_law_753 rfl ?_
  refine wf_aload_n 3 dL_law_754 rfl ?_
  refine wf_iload_n 0 dL_law_755 rfl ?_
  refine wf_iconst (nI 1) dL_law_756 (by decide) ?_
  refine wf_iadd (nI (i + 1)) dL_law_757 (nI_add i 1) ?_
  refine wf_sld (xs (i + 1)) (by omega) (by omega) rfl dL_law_758 ?_
  refine wf_aload_n 3 dL_law_759 rfl ?_
  refine wf_iload_n 0 dL_law_760 rfl ?_
  refine wf_iconst (nI 2) dL_law_761 (by decide) ?_
  refine wf_iadd (nI (i + 2)) dL_law_762 (nI_add i 2) ?_
  refine wf_sld (xs (i + 2)) (by omega) (by omega) rfl dL_law_763 ?_
  refine wf_callV (As := [.int (xs (i + 1)), .int (xs (i + 2))]) (rest := [.int (sp_seeds g y (xs (i + 1)) (xs (i + 2))).1]) 0 (c_X9_seeds hI hJ hy) kV_L_120 rfl (by decide) (by decide) (Nat.le_of_ble_eq_true rfl) rfl rfl rfl dL_law_764 (fun v w2 hp => ?_)
  obtain ⟨rfl, j2, td2, hJ2, rfl⟩ := hp
  refine wf_st [.int (sp_seeds g y (xs (i + 1)) (xs (i + 2))).1, .int (sp_seeds g y (xs (i + 1)) (xs (i + 2))).1] rfl ?_
  refine wf_cs (ce2 := 59) (sl2 := 986) rfl rfl ?_
  refine wf_perm (w' := wX E kk a b2 c al ax (sp_seeds g y (xs (i + 1)) (xs (i + 2))).2.1 gm2 gi (sp_seeds g y (xs (i + 1)) (xs (i + 2))).2.2 (wm E am (sp_seeds g y (xs (i + 1)) (xs (i + 2))).2.1 (sp_seeds g y (xs (i + 1)) (xs (i + 2))).2.2 j2 td2)) pm_mx ?_
  refine wf_icmp_eq 821 dL_law_767 (by decide) (fun _ => ?_) (fun h => absurd rfl h)
  exact K _ _ _ _ _ _ (ok_seeds hI hy).1 hM2 hG (ok_seeds hI hy).2 hJ2
set_option maxHeartbeats 4000000 in
set_option maxRecDepth 100000 in
theorem law_c26 {l : Launch} {E : Ev} {b L : Nat} {xs : Nat → Int32} {kk a b2 c al ax am : Nat → Nat} {g gm gi y j : Gd} {td : Nat → Int32} {i : Nat} (hi : i + 4 ≤ L) (hL : L ≤ 2048) (hI : Inv g) (hM : Inv gm) (hG : Inv gi) (hy : YI y) (hJ : IH j gi) (K : ∀ (g gm gi y j : Gd) (td : Nat → Int32), Inv g → Inv gm → Inv gi → YI y → IH j gi → WF l E RL cL_law 4 ret room_1 false (XtL b L xs) lw_Z [] 59 986 821 [(3, .int (nI i)), (2, .ref (am 0)), (1, .ref (ax 0)), (0, .ref b)] [] (wX E kk a b2 c al ax g gm gi y (wm E am g y j td))) : WF l E RL cL_law 4 ret room_1 false (XtL b L xs) lw_Z [] 59 986 772 [(3, .int (nI i)), (2, .ref (am 0)), (1, .ref (ax 0)), (0, .ref b)] [] (wX E kk a b2 c al ax g gm gi y (wm E am g y j td)) := by
  refine wf_aload_n 2 dL_law_772 rfl ?_
  refine wf_callV (As := []) (rest := []) 19 (c_X8_image hI hM hG hy) kV_L_121 rfl (by decide) (by decide) (Nat.le_of_ble_eq_true rfl) rfl rfl rfl dL_law_773 (fun v w2 hp => ?_)
  obtain ⟨rfl, gm2, hM2, rfl⟩ := hp
  refine wf_st [.int (sp_image g y).1] rfl ?_
  refine wf_cs (ce2 := 59) (sl2 := 986) rfl rfl ?_
  refine wf_perm (w' := wm E am g y j td ++ wX E kk a b2 c al ax (sp_image g y).2.1 gm2 g (sp_image g y).2.2 []) pm_xm ?_
  refine wf_aload_n 1 dL_law_776 rfl ?_
  refine wf_callV (As := []) (rest := [.int (sp_image g y).1]) 0 (c_X9_image hI hJ hy) kV_L_124 rfl (by decide) (by decide) (Nat.le_of_ble_eq_true rfl) rfl rfl rfl dL_law_777 (fun v w2 hp => ?_)
  obtain ⟨rfl, j2, td2, hJ2, rfl⟩ := hp
  refine wf_st [.int (sp_image g y).1, .int (sp_image g y).1] rfl ?_
  refine wf_cs (ce2 := 59) (sl2 := 986) rfl rfl ?_
  refine wf_perm (w' := wX E kk a b2 c al ax (sp_image g y).2.1 gm2 g (sp_image g y).2.2 (wm E am (sp_image g y).2.1 (sp_image g y).2.2 j2 td2)) pm_mx ?_
  refine wf_icmp_eq 821 dL_law_780 (by decide) (fun _ => ?_) (fun h => absurd rfl h)
  exact K _ _ _ _ _ _ (ok_image hI hy).1 hM2 hI (ok_image hI hy).2 hJ2
set_option maxHeartbeats 4000000 in
set_option maxRecDepth 100000 in
theorem law_c27 {l : Launch} {E : Ev} {b L : Nat} {xs : Nat → Int32} {kk a b2 c al ax am : Nat → Nat} {g gm gi y j : Gd} {td : Nat → Int32} {i : Nat} (hi : i + 4 ≤ L) (hL : L ≤ 2048) (hI : Inv g) (hM : Inv gm) (hG : Inv gi) (hy : YI y) (hJ : IH j gi) (K : ∀ (g gm gi y j : Gd) (td : Nat → Int32), Inv g → Inv gm → Inv gi → YI y → IH j gi → WF l E RL cL_law 4 ret room_1 false (XtL b L xs) lw_Z [] 59 986 821 [(3, .int (nI i)), (2, .ref (am 0)), (1, .ref (ax 0)), (0, .ref b)] [] (wX E kk a b2 c al ax g gm gi y (wm E am g y j td))) : WF l E RL cL_law 4 ret room_1 false (XtL b L xs) lw_Z [] 59 986 785 [(3, .int (nI i)), (2, .ref (am 0)), (1, .ref (ax 0)), (0, .ref b)] [] (wX E kk a b2 c al ax g gm gi y (wm E am g y j td)) := by
  refine wf_aload_n 2 dL_law_785 rfl ?_
  refine wf_callV (As := []) (rest := []) 19 (c_X8_on hI hM hG hy) kV_L_125 rfl (by decide) (by decide) (Nat.le_of_ble_eq_true rfl) rfl rfl rfl dL_law_786 (fun v w2 hp => ?_)
  obtain ⟨rfl, gm2, hM2, rfl⟩ := hp
  refine wf_st [.int (sp_on g gi y).1] rfl ?_
  refine wf_cs (ce2 := 59) (sl2 := 986) rfl rfl ?_
  refine wf_perm (w' := wm E am g y j td ++ wX E kk a b2 c al ax (sp_on g gi y).2.1 gm2 gi (sp_on g gi y).2.2 []) pm_xm ?_
  refine wf_aload_n 1 dL_law_789 rfl ?_
  refine wf_callV (As := []) (rest := [.int (sp_on g gi y).1]) 0 (c_X9_on hI hJ hy) kV_L_128 rfl (by decide) (by decide) (Nat.le_of_ble_eq_true rfl) rfl rfl rfl dL_law_790 (fun v w2 hp => ?_)
  obtain ⟨rfl, j2, td2, hJ2, rfl⟩ := hp
  refine wf_st [.int (sp_on g gi y).1, .int (sp_on g gi y).1] rfl ?_
  refine wf_cs (ce2 := 59) (sl2 := 986) rfl rfl ?_
  refine wf_perm (w' := wX E kk a b2 c al ax (sp_on g gi y).2.1 gm2 gi (sp_on g gi y).2.2 (wm E am (sp_on g gi y).2.1 (sp_on g gi y).2.2 j2 td2)) pm_mx ?_
  refine wf_icmp_eq 821 dL_law_793 (by decide) (fun _ => ?_) (fun h => absurd rfl h)
  exact K _ _ _ _ _ _ (ok_on hI hG hy).1 hM2 hG (ok_on hI hG hy).2 hJ2
set_option maxHeartbeats 4000000 in
set_option maxRecDepth 100000 in
theorem law_c28 {l : Launch} {E : Ev} {b L : Nat} {xs : Nat → Int32} {kk a b2 c al ax am : Nat → Nat} {g gm gi y j : Gd} {td : Nat → Int32} {i : Nat} (hi : i + 4 ≤ L) (hL : L ≤ 2048) (hI : Inv g) (hM : Inv gm) (hG : Inv gi) (hy : YI y) (hJ : IH j gi) (K : ∀ (g gm gi y j : Gd) (td : Nat → Int32), Inv g → Inv gm → Inv gi → YI y → IH j gi → WF l E RL cL_law 4 ret room_1 false (XtL b L xs) lw_Z [] 59 986 821 [(3, .int (nI i)), (2, .ref (am 0)), (1, .ref (ax 0)), (0, .ref b)] [] (wX E kk a b2 c al ax g gm gi y (wm E am g y j td))) : WF l E RL cL_law 4 ret room_1 false (XtL b L xs) lw_Z [] 59 986 798 [(3, .int (nI i)), (2, .ref (am 0)), (1, .ref (ax 0)), (0, .ref b)] [] (wX E kk a b2 c al ax g gm gi y (wm E am g y j td)) := by
  refine wf_aload_n 2 dL_law_798 rfl ?_
  refine wf_aload_n 3 dL_law_799 rfl ?_
  refine wf_iload_n 0 dL_law_800 rfl ?_
  refine wf_iconst (nI 1) dL_law_801 (by decide) ?_
  refine wf_iadd (nI (i + 1)) dL_law_802 (nI_add i 1) ?_
  refine wf_sld (xs (i + 1)) (by omega) (by omega) rfl dL_law_803 ?_
  refine wf_callV (As := [.int (xs (i + 1))]) (rest := []) 19 (c_X8_count hI hM hG hy) kV_L_129 rfl (by decide) (by decide) (Nat.le_of_ble_eq_true rfl) rfl rfl rfl dL_law_804 (fun v w2 hp => ?_)
  obtain ⟨rfl, gm2, hM2, rfl⟩ := hp
  refine wf_st [.int (sp_count g y (xs (i + 1))).1] rfl ?_
  refine wf_cs (ce2 := 59) (sl2 := 986) rfl rfl ?_
  refine wf_perm (w' := wm E am g y j td ++ wX E kk a b2 c al ax (sp_count g y (xs (i + 1))).2.1 gm2 gi (sp_count g y (xs (i + 1))).2.2 []) pm_xm ?_
  refine wf_aload_n 1 dL_law_807 rfl ?_
  refine wf_aload_n 3 dL_law_808 rfl ?_
  refine wf_iload_n 0 dL_law_809 rfl ?_
  refine wf_iconst (nI 1) dL_law_810 (by decide) ?_
  refine wf_iadd (nI (i + 1)) dL_law_811 (nI_add i 1) ?_
  refine wf_sld (xs (i + 1)) (by omega) (by omega) rfl dL_law_812 ?_
  refine wf_callV (As := [.int (xs (i + 1))]) (rest := [.int (sp_count g y (xs (i + 1))).1]) 0 (c_X9_count hI hJ hy) kV_L_132 rfl (by decide) (by decide) (Nat.le_of_ble_eq_true rfl) rfl rfl rfl dL_law_813 (fun v w2 hp => ?_)
  obtain ⟨rfl, j2, td2, hJ2, rfl⟩ := hp
  refine wf_st [.int (sp_count g y (xs (i + 1))).1, .int (sp_count g y (xs (i + 1))).1] rfl ?_
  refine wf_cs (ce2 := 59) (sl2 := 986) rfl rfl ?_
  refine wf_perm (w' := wX E kk a b2 c al ax (sp_count g y (xs (i + 1))).2.1 gm2 gi (sp_count g y (xs (i + 1))).2.2 (wm E am (sp_count g y (xs (i + 1))).2.1 (sp_count g y (xs (i + 1))).2.2 j2 td2)) pm_mx ?_
  refine wf_icmp_eq 821 dL_law_816 (by decide) (fun _ => ?_) (fun h => absurd rfl h)
  exact K _ _ _ _ _ _ (ok_count hI hy).1 hM2 hG (ok_count hI hy).2 hJ2
set_option maxHeartbeats 4000000 in
set_option maxRecDepth 100000 in
theorem law_loop {l : Launch} {E : Ev} {b L : Nat} {xs : Nat → Int32} {kk a b2 c al ax am : Nat → Nat} (hL : L ≤ 2048) : ∀ (fu i : Nat) (g gm gi y j : Gd) (td : Nat → Int32), 3000 - i < fu → i ≤ 2048 → Inv g → Inv gm → Inv gi → YI y → IH j gi → WF l E RL cL_law 4 ret room_1 false (XtL b L xs) lw_Z [] 59 986 18 [(3, .int (nI i)), (2, .ref (am 0)), (1, .ref (ax 0)), (0, .ref b)] [] (wX E kk a b2 c al ax g gm gi y (wm E am g y j td)) := by
  intro fu
  induction fu with
  | zero => intro i g gm gi y j td hn; exact absurd hn (Nat.not_lt_zero _)
  | succ fu ih =>
    intro i g gm gi y j td hn hi hI hM hG hy hJ
    refine wf_iload_n 0 dL_law_18 rfl ?_
    refine wf_aload_n 3 dL_law_19 rfl ?_
    refine wf_slen dL_law_20 ?_
    refine wf_iconst (nI 4) dL_law_21 (by decide) ?_
    refine wf_isub (nI L - nI 4) dL_law_22 rfl ?_
    refine wf_icmp_gt 827 dL_law_23 (by decide) (fun c23 => ?_) (fun c23 => ?_)
    · refine wf_iconst (nI 1) dL_law_827 (by decide) ?_
      refine wf_top (y := .int 1) rfl ?_
      exact wf_lend dL_law_828
    · have hi4 : i + 4 ≤ L := i4 hi hL c23
      refine wf_aload_n 3 dL_law_26 rfl ?_
      refine wf_iload_n 0 dL_law_27 rfl ?_
      refine wf_sld (xs i) (by omega) (by omega) rfl dL_law_28 ?_
      refine wf_bipush (nI 31) dL_law_29 (by decide) ?_
      refine wf_iand (nI ((xs i).toBitVec.toNat % 2 ^ 5)) dL_law_31 (pk_and _ 5 (by decide)) ?_
      have hk : (xs i).toBitVec.toNat % 2 ^ 5 < 32 := Nat.mod_lt _ (by decide)
      generalize (xs i).toBitVec.toNat % 2 ^ 5 = q at hk ⊢
      have K : ∀ (g gm gi y j : Gd) (td : Nat → Int32), Inv g → Inv gm → Inv gi → YI y → IH j gi → WF l E RL cL_law 4 ret room_1 false (XtL b L xs) lw_Z [] 59 986 821 [(3, .int (nI i)), (2, .ref (am 0)), (1, .ref (ax 0)), (0, .ref b)] [] (wX E kk a b2 c al ax g gm gi y (wm E am g y j td)) := by
        intro g gm gi y j td hI hM hG hy hJ
        refine wf_iinc (nI (i + 4)) 0 [(3, .int (nI (i + 4))), (2, .ref (am 0)), (1, .ref (ax 0)), (0, .ref b)] dL_law_821 rfl (nI_add i 4) (by decide) rfl ?_
        refine wf_goto 18 dL_law_824 (by decide) ?_
        exact ih (i + 4) g gm gi y j td (by omega) (by omega) hI hM hG hy hJ
      have g0 : ¬ q < 0 := Nat.not_lt_zero _
      by_cases h0 : q = 0
      · rw [h0]
        refine wf_tableIn 164 dL_law_32 (by decide) (by decide) rfl (by decide) ?_
        exact law_c0 hi4 hL hI hM hG hy hJ K
      have g1 := k_next g0 h0
      by_cases h1 : q = 1
      · rw [h1]
        refine wf_tableIn 187 dL_law_32 (by decide) (by decide) rfl (by decide) ?_
        exact law_c1 hi4 hL hI hM hG hy hJ K
      have g2 := k_next g1 h1
      by_cases h2 : q = 2
      · rw [h2]
        refine wf_tableIn 200 dL_law_32 (by decide) (by decide) rfl (by decide) ?_
        exact law_c2 hi4 hL hI hM hG hy hJ K
      have g3 := k_next g2 h2
      by_cases h3 : q = 3
      · rw [h3]
        refine wf_tableIn 233 dL_law_32 (by decide) (by decide) rfl (by decide) ?_
        exact law_c3 hi4 hL hI hM hG hy hJ K
      have g4 := k_next g3 h3
      by_cases h4 : q = 4
      · rw [h4]
        refine wf_tableIn 266 dL_law_32 (by decide) (by decide) rfl (by decide) ?_
        exact law_c4 hi4 hL hI hM hG hy hJ K
      have g5 := k_next g4 h4
      by_cases h5 : q = 5
      · rw [h5]
        refine wf_tableIn 299 dL_law_32 (by decide) (by decide) rfl (by decide) ?_
        exact law_c5 hi4 hL hI hM hG hy hJ K
      have g6 := k_next g5 h5
      by_cases h6 : q = 6
      · rw [h6]
        refine wf_tableIn 332 dL_law_32 (by decide) (by decide) rfl (by decide) ?_
        exact law_c6 hi4 hL hI hM hG hy hJ K
      have g7 := k_next g6 h6
      by_cases h7 : q = 7
      · rw [h7]
        refine wf_tableIn 375 dL_law_32 (by decide) (by decide) rfl (by decide) ?_
        exact law_c7 hi4 hL hI hM hG hy hJ K
      have g8 := k_next g7 h7
      by_cases h8 : q = 8
      · rw [h8]
        refine wf_tableIn 388 dL_law_32 (by decide) (by decide) rfl (by decide) ?_
        exact law_c8 hi4 hL hI hM hG hy hJ K
      have g9 := k_next g8 h8
      by_cases h9 : q = 9
      · rw [h9]
        refine wf_tableIn 401 dL_law_32 (by decide) (by decide) rfl (by decide) ?_
        exact law_c9 hi4 hL hI hM hG hy hJ K
      have g10 := k_next g9 h9
      by_cases h10 : q = 10
      · rw [h10]
        refine wf_tableIn 424 dL_law_32 (by decide) (by decide) rfl (by decide) ?_
        exact law_c10 hi4 hL hI hM hG hy hJ K
      have g11 := k_next g10 h10
      by_cases h11 : q = 11
      · rw [h11]
        refine wf_tableIn 447 dL_law_32 (by decide) (by decide) rfl (by decide) ?_
        exact law_c11 hi4 hL hI hM hG hy hJ K
      have g12 := k_next g11 h11
      by_cases h12 : q = 12
      · rw [h12]
        refine wf_tableIn 460 dL_law_32 (by decide) (by decide) rfl (by decide) ?_
        exact law_c12 hi4 hL hI hM hG hy hJ K
      have g13 := k_next g12 h12
      by_cases h13 : q = 13
      · rw [h13]
        refine wf_tableIn 473 dL_law_32 (by decide) (by decide) rfl (by decide) ?_
        exact law_c13 hi4 hL hI hM hG hy hJ K
      have g14 := k_next g13 h13
      by_cases h14 : q = 14
      · rw [h14]
        refine wf_tableIn 496 dL_law_32 (by decide) (by decide) rfl (by decide) ?_
        exact law_c14 hi4 hL hI hM hG hy hJ K
      have g15 := k_next g14 h14
      by_cases h15 : q = 15
      · rw [h15]
        refine wf_tableIn 519 dL_law_32 (by decide) (by decide) rfl (by decide) ?_
        exact law_c15 hi4 hL hI hM hG hy hJ K
      have g16 := k_next g15 h15
      by_cases h16 : q = 16
      · rw [h16]
        refine wf_tableIn 532 dL_law_32 (by decide) (by decide) rfl (by decide) ?_
        exact law_c16 hi4 hL hI hM hG hy hJ K
      have g17 := k_next g16 h16
      by_cases h17 : q = 17
      · rw [h17]
        refine wf_tableIn 555 dL_law_32 (by decide) (by decide) rfl (by decide) ?_
        exact law_c17 hi4 hL hI hM hG hy hJ K
      have g18 := k_next g17 h17
      by_cases h18 : q = 18
      · rw [h18]
        refine wf_tableIn 568 dL_law_32 (by decide) (by decide) rfl (by decide) ?_
        exact law_c18 hi4 hL hI hM hG hy hJ K
      have g19 := k_next g18 h18
      by_cases h19 : q = 19
      · rw [h19]
        refine wf_tableIn 581 dL_law_32 (by decide) (by decide) rfl (by decide) ?_
        exact law_c19 hi4 hL hI hM hG hy hJ K
      have g20 := k_next g19 h19
      by_cases h20 : q = 20
      · rw [h20]
        refine wf_tableIn 604 dL_law_32 (by decide) (by decide) rfl (by decide) ?_
        exact law_c20 hi4 hL hI hM hG hy hJ K
      have g21 := k_next g20 h20
      by_cases h21 : q = 21
      · rw [h21]
        refine wf_tableIn 637 dL_law_32 (by decide) (by decide) rfl (by decide) ?_
        exact law_c21 hi4 hL hI hM hG hy hJ K
      have g22 := k_next g21 h21
      by_cases h22 : q = 22
      · rw [h22]
        refine wf_tableIn 670 dL_law_32 (by decide) (by decide) rfl (by decide) ?_
        exact law_c22 hi4 hL hI hM hG hy hJ K
      have g23 := k_next g22 h22
      by_cases h23 : q = 23
      · rw [h23]
        refine wf_tableIn 703 dL_law_32 (by decide) (by decide) rfl (by decide) ?_
        exact law_c23 hi4 hL hI hM hG hy hJ K
      have g24 := k_next g23 h23
      by_cases h24 : q = 24
      · rw [h24]
        refine wf_tableIn 726 dL_law_32 (by decide) (by decide) rfl (by decide) ?_
        exact law_c24 hi4 hL hI hM hG hy hJ K
      have g25 := k_next g24 h24
      by_cases h25 : q = 25
      · rw [h25]
        refine wf_tableIn 739 dL_law_32 (by decide) (by decide) rfl (by decide) ?_
        exact law_c25 hi4 hL hI hM hG hy hJ K
      have g26 := k_next g25 h25
      by_cases h26 : q = 26
      · rw [h26]
        refine wf_tableIn 772 dL_law_32 (by decide) (by decide) rfl (by decide) ?_
        exact law_c26 hi4 hL hI hM hG hy hJ K
      have g27 := k_next g26 h26
      by_cases h27 : q = 27
      · rw [h27]
        refine wf_tableIn 785 dL_law_32 (by decide) (by decide) rfl (by decide) ?_
        exact law_c27 hi4 hL hI hM hG hy hJ K
      have g28 := k_next g27 h27
      by_cases h28 : q = 28
      · rw [h28]
        refine wf_tableIn 798 dL_law_32 (by decide) (by decide) rfl (by decide) ?_
        exact law_c28 hi4 hL hI hM hG hy hJ K
      have g29 := k_next g28 h28
      refine wf_tableOut 821 dL_law_32 (Or.inr (t28 g29 hk)) (by decide) ?_
      exact K g gm gi y j td hI hM hG hy hJ
set_option maxHeartbeats 4000000 in
set_option maxRecDepth 100000 in
theorem law_body {l : Launch} {E : Ev} {b L : Nat} {xs : Nat → Int32} (hL : L ≤ 2048) : WF l E RL cL_law 4 ret room_1 false (XtL b L xs) lw_Z [] 0 0 0 [(0, .ref b)] [] [] := by
  refine wf_new (C := RX8) (T := TX8) (N := 8) (ci := 8) [.null, .null, .null, .int 0, .null, .null, .int 0, .null] tyX8 in_X8 tyX8_ok cl_L_7 ins_X8 ini_X8 rfl dfX8 (by decide) (by decide) dL_law_0 (fun x0 => ?_)
  refine wf_world ([(x0, .inr (8, [.null, .null, .null, .int 0, .null, .null, .int 0, .null]))]) rfl ?_
  refine wf_dup dL_law_3 rfl ?_
  refine wf_callI (As := []) (rest := [.ref x0]) c_X8_init kI_L_9 rfl (by decide) (by decide) (Nat.le_of_ble_eq_true rfl) rfl dL_law_4 (fun v w2 hp => ?_)
  obtain ⟨rfl, kk, a, b2, c, al, ax, rfl, rfl⟩ := hp
  refine wf_st [.ref (ax 0)] rfl ?_
  refine wf_cs (ce2 := 42) (sl2 := 325) rfl rfl ?_
  refine wf_astore_n [(1, .ref (ax 0)), (0, .ref b)] dL_law_7 rfl (by decide) rfl ?_
  refine wf_new (C := RX9) (T := TX9) (N := 27) (ci := 9) [.null, .null, .null, .null, .null, .null, .null, .null, .null, .null, .int 0, .int 0, .int 0, .int 0, .null, .null, .null, .null, .int 0, .int 0, .int 0, .null, .int 0, .int 0, .int 0, .null, .int 0] tyX9 in_X9 tyX9_ok cl_L_10 ins_X9 ini_X9 rfl dfX9 (by decide) (by decide) dL_law_8 (fun m0 => ?_)
  refine wf_perm (w' := [(m0, .inr (9, [.null, .null, .null, .null, .null, .null, .null, .null, .null, .null, .int 0, .int 0, .int 0, .int 0, .null, .null, .null, .null, .int 0, .int 0, .int 0, .null, .int 0, .int 0, .int 0, .null, .int 0]))] ++ wX E kk a b2 c al ax gz gz gz gz []) List.perm_append_comm ?_
  refine wf_dup dL_law_11 rfl ?_
  refine wf_callI (As := []) (rest := [.ref m0]) c_X9_init kI_L_12 rfl (by decide) (by decide) (Nat.le_of_ble_eq_true rfl) rfl dL_law_12 (fun v w2 hp => ?_)
  obtain ⟨rfl, am, rfl, rfl⟩ := hp
  refine wf_st [.ref (am 0)] rfl ?_
  refine wf_cs (ce2 := 59) (sl2 := 986) rfl rfl ?_
  refine wf_perm (w' := wX E kk a b2 c al ax gz gz gz gz (wm E am gz gz gz (fun _ => 0))) pm_mx ?_
  refine wf_astore_n [(2, .ref (am 0)), (1, .ref (ax 0)), (0, .ref b)] dL_law_15 rfl (by decide) rfl ?_
  refine wf_iconst (nI 0) dL_law_16 (by decide) ?_
  refine wf_istore_n [(3, .int (nI 0)), (2, .ref (am 0)), (1, .ref (ax 0)), (0, .ref b)] dL_law_17 rfl (by decide) rfl ?_
  exact law_loop hL 3001 0 gz gz gz gz gz (fun _ => 0) (by decide) (by decide) gz_inv gz_inv gz_inv gz_yi gz_ih
set_option maxHeartbeats 4000000 in
theorem whole_start {p : Program} {e : Env} {s : State} {m : MethodId} {below : List Frame} {meth : Method} {c : Code} (l : Launch) (hflags : l.flags = flags0) {b L : Nat} {xs : Nat → Int32} (hL : L ≤ 2048) (C0 : lw_At p s m meth c b L xs) : W p l e room_1 s m #[Value.ref b] below meth c s.heap [] 0 0 (lw_Z below #[Value.ref b] s) (entryFrame m ([Value.ref b] : List Value).toArray 4) := by
  obtain ⟨hx, hb, hr, hml, hown, hts, hX, hbl, hlocks, hgv⟩ := id C0
  obtain ⟨E, hEK, hES⟩ := law_E hts hgv (va_A [] s.heap.size) (fun a ha => nA ha)
  rw [lg_entry_eq]
  refine law_body (E := E) (b := b) (L := L) (xs := xs) hL p e s m #[Value.ref b] below meth c s.heap [] _ ⟨hx, hb, hml, hown, fun w hw => hts w (tb_lw hw), hr, hlocks, hEK, hES, (fun h => by cases h), hX, hbl⟩ ?_ ?_ ?_ va_S.rf
  · exact lv_entry ([.ref b]) (n := 4) (Nat.le_of_ble_eq_true rfl)
  · exact fun k q h => by simp at h
  · exact ⟨fun i j p q h => by simp at h, fun k q h => by simp at h⟩
