/-! THE FRAME: the words of the tables in one list (TBg); what holds around every method (EK, ES); a contract (CT); the walk of a method over a named world (WF), a row an instruction. -/
def TBg : List Cond := lw_tbl.filter goodWord
theorem tb_of {w : Cond} (i : Nat) (h : lw_tbl[i]? = some w) (g : goodWord w = true) : w ∈ TBg := List.mem_filter.mpr ⟨List.mem_of_getElem? h, g⟩
theorem tb_lw {w : Cond} (h : w ∈ TBg) : w ∈ lw_tbl := (List.mem_filter.mp h).1
theorem tb_good {w : Cond} (h : w ∈ TBg) : (w.onTables && w.keeps) = true ∨ ∃ ty, w = .arrayClass ty := good_of_word (List.mem_filter.mp h).2
theorem gi_tb {c' : Cond} (h : c' ∈ TBg) : GoodIn TBg (c' :: TBg) := by
  intro w hw
  rcases List.mem_cons.mp hw with rfl | hw
  · exact ⟨h, tb_good h⟩
  · exact ⟨hw, tb_good hw⟩
def nestW : List (String × Nat × MethodName × String) := [(RX8, 9, yX6_init, RX8), (RX8, 12, yX7_init, RX8), (RX7, 1, yX6_init, RX8), (RX8, 15, yX0_init, RX8), (RX0, 1, yX6_init, RX8), (RX8, 18, yX5_init, RX8), (RX5, 1, yX7_init, RX8), (RX8, 21, yX3_init, RX8), (RX3, 1, yX6_init, RX8), (RX8, 24, yX1_init, RX8), (RX1, 1, yX0_init, RX8), (RX8, 44, yX4_init, RX8), (RX4, 70, yX8_isInk, RX8), (RX2, 66, yX8_isInk, RX8)]
def NF (U : State) : Prop := ∀ q ∈ nestW, va_Nw (.methodLinkNest q.1 q.2.1 q.2.2.1 q.2.2.2) U
theorem NF.warm {s U : State} (hW : s.WarmedH U.vm) (h : NF s) : NF U := fun q hq => va_Nw.warmM hW (h q hq)
theorem NF.same {s U : State} (hv : s.vm = U.vm) (h : NF s) : NF U := fun q hq => va_Nw.same rfl hv (h q hq)
abbrev Ev : Type := va_G × (ClassId × ClassId × ClassId) × (Nat → Nat) × (Nat → Nat)
def tysE (E : Ev) : List (ClassId × FieldType) := [(E.2.1.1, .int), (E.2.1.2.1, .char), (E.2.1.2.2, .object "EatenByDusk$Sparrow")]
def lenS : List Nat := [4, 5, 3, 0, 6]
def bytS : List (List Int32) := [[100, 100, 100, 59], [107, 100, 100, 100, 59], [100, 100, 59], [], [115, 116, 99, 111, 103, 102]]
def SR (ad : Nat → Nat) (U : State) : Prop := vk_R "EatenByDusk$Letters" 100 "ddd;" (ad 0) U ∧ vk_R "EatenByDusk$Letters" 102 "kddd;" (ad 1) U ∧ vk_R "EatenByDusk$Letters" 104 "dd;" (ad 2) U ∧ vk_R "EatenByDusk$Letters" 106 "" (ad 3) U ∧ vk_R "EatenByDusk$Letters" 83 "stcogf" (ad 4) U ∧ vk_R "EatenByDusk" 218 "stcogf" (ad 4) U
theorem SR.warm {ad : Nat → Nat} {s U : State} (hW : s.WarmedH U.vm) (h : SR ad s) : SR ad U := ⟨h.1.warm hW, h.2.1.warm hW, h.2.2.1.warm hW, h.2.2.2.1.warm hW, h.2.2.2.2.1.warm hW, h.2.2.2.2.2.warm hW⟩
theorem SR.same {ad : Nat → Nat} {s U : State} (hv : U.vm = s.vm) (h : SR ad s) : SR ad U := ⟨h.1.same hv, h.2.1.same hv, h.2.2.1.same hv, h.2.2.2.1.same hv, h.2.2.2.2.1.same hv, h.2.2.2.2.2.same hv⟩
/-- what the array of kinds is made and filled by -/
def CS (U : State) : Prop := va_AO "EatenByDusk$Sparrow" U ∧ va_Nw (.castable "EatenByDusk$Thrush" "EatenByDusk$Sparrow") U ∧ va_Nw (.castable "EatenByDusk$Crow" "EatenByDusk$Sparrow") U ∧ va_Nw (.castable "EatenByDusk$Owl" "EatenByDusk$Sparrow") U ∧ va_Nw (.castable "EatenByDusk$Greedy" "EatenByDusk$Sparrow") U ∧ va_Nw (.castable "EatenByDusk$Finch" "EatenByDusk$Sparrow") U
theorem CS.warm {s U : State} (hW : s.WarmedH U.vm) (h : CS s) : CS U := ⟨va_AO.moved hW.alike h.1, va_Nw.warmC hW h.2.1, va_Nw.warmC hW h.2.2.1, va_Nw.warmC hW h.2.2.2.1, va_Nw.warmC hW h.2.2.2.2.1, va_Nw.warmC hW h.2.2.2.2.2⟩
theorem CS.same {s U : State} (hv : s.vm = U.vm) (h : CS s) : CS U := ⟨va_AO.moved (hv ▸ Vm.Alike.refl s.vm) h.1, va_Nw.same rfl hv h.2.1, va_Nw.same rfl hv h.2.2.1, va_Nw.same rfl hv h.2.2.2.1, va_Nw.same rfl hv h.2.2.2.2.1, va_Nw.same rfl hv h.2.2.2.2.2⟩
def EK (E : Ev) (U : State) : Prop := va_K E.1 vwCl (tysE E) U ∧ NF U ∧ SR E.2.2.1 U ∧ CS U
theorem EK.warm {E : Ev} {s U : State} (hW : s.WarmedH U.vm) (h : EK E s) : EK E U := ⟨va_K.moved hW.alike h.1, h.2.1.warm hW, h.2.2.1.warm hW, h.2.2.2.warm hW⟩
theorem EK.same {E : Ev} {s U : State} (hv : s.vm = U.vm) (h : EK E s) : EK E U := ⟨va_K.moved (hv ▸ Vm.Alike.refl s.vm) h.1, h.2.1.same hv, h.2.2.1.same hv.symm, h.2.2.2.same hv⟩
def ES (E : Ev) (A : Nat → Prop) (U : State) (H : Heap) : Prop := vk_S 5 lenS bytS E.2.2.1 E.2.2.2 A U H ∧ va_Z "java/lang/String" "COMPACT_STRINGS" "Z" (.int 1) A U H ∧ va_Zq "jdk/internal/util/Preconditions" "SIOOBE_FORMATTER" "Ljava/util/function/BiFunction;" A U H
theorem ES.moved {E : Ev} {A : Nat → Prop} {u U : State} {H : Heap} (hvm : u.vm.Alike U.vm) (h : ES E A u H) : ES E A U H := ⟨h.1.moved hvm, h.2.1.moved hvm, h.2.2.moved hvm⟩
theorem ES.kept {E : Ev} {A : Nat → Prop} {U : State} {H H1 : Heap} (h : ES E A U H) (hq : ∀ a : Nat, a < H.size → ¬ A a → H1[a]? = H[a]?) : ES E A U H1 := ⟨h.1.kept hq, h.2.1.kept hq, h.2.2.kept hq⟩
theorem ES.narrow {E : Ev} {A B : Nat → Prop} {U : State} {H : Heap} (h : ES E A U H) (hAB : ∀ q, B q → A q) : ES E B U H := ⟨h.1.narrow hAB, h.2.1.narrow hAB, h.2.2.narrow hAB⟩
/-- the start of a method, with the world w -/
def Ent (E : Ev) (w : va_W) (sz : Nat) (U : State) : Prop := U.heap.size = sz ∧ va_P E.1 vwCl w U.heap ∧ va_D (fun _ => True) w ∧ EK E U ∧ ES E (va_A w sz) U U.heap
/-- the end of a method that began with the world w -/
def EndW (E : Ev) (w : va_W) (sz : Nat) (Post : Option Value → va_W → Prop) : Array Value → State → Outcome → State → Prop := fun _ st oc t =>
  (∃ (v : Option Value) (w2 : va_W), oc = .returned v ∧ Post v w2 ∧ va_P E.1 vwCl w2 t.heap ∧ va_D (va_A w sz) w2) ∧ va_F (va_A w sz) st t
/-- a contract -/
def CT (l : Launch) (E : Ev) (y : MethodName) (b : ByteArray) (mL : Nat) (ret : Option FieldType) (rm : Room) (as : List Value) (w : va_W) (Post : Option Value → va_W → Prop) : Prop :=
  ∀ sz : Nat, Met l y (.code y b mL ret :: TBg) rm (va_Pc as (Ent E w sz)) (EndW E w sz Post) rm.cells rm.slots (va_A w sz)
def Cx (p : Program) (s : State) (m : MethodId) (args : Array Value) (meth : Method) (c : Code) (E : Ev) (own : String) (cc : ByteArray) (nL : Nat) (ret : Option FieldType) (ini : Bool) (Xt : State → Prop) (w0 : va_W) : Prop :=
  p.tables.exec = Jvm.exec ∧ c.code = cc ∧ c.maxLocals = nL ∧ s.vm.findClass own = some m.cls ∧ (∀ w ∈ TBg, w.before args s = true) ∧ meth.sig.returnType = ret ∧ meth.locks = false ∧ EK E s ∧ ES E (va_A w0 s.heap.size) s s.heap ∧ (ini = true → meth.name = "<init>") ∧ Xt s
abbrev Qe : Type := List Frame → Array Value → State → State → Prop
def WF (l : Launch) (E : Ev) (own : String) (cc : ByteArray) (nL : Nat) (ret : Option FieldType) (rm : Room) (ini : Bool) (Xt : State → Prop) (QQ : Qe) (w0 : va_W) (ce sl pc : Nat) (lv : List (Nat × Value)) (st : List Value) (w : va_W) : Prop :=
  ∀ (p : Program) (e : Env) (s : State) (m : MethodId) (args : Array Value) (below : List Frame) (meth : Method) (c : Code) (H : Heap) (locs : List Loc) (ls : Array Slot),
    Cx p s m args meth c E own cc nL ret ini Xt w0 → lv_has ls nL lv → va_P E.1 vwCl w H → va_D (va_A w0 s.heap.size) w → va_S (va_A w0 s.heap.size) s.heap H locs →
    W p l e rm s m args below meth c H locs ce sl (QQ below args s) (F0 m pc ls st)
def QM (E : Ev) (w0 : va_W) (Post : Option Value → va_W → Prop) (rm : Room) : Qe := fun below args s => MQ below (EndW E w0 s.heap.size Post) args s rm.cells rm.slots (va_A w0 s.heap.size)
section WFS
variable {l : Launch} {E : Ev} {own : String} {cc : ByteArray} {nL : Nat} {ret : Option FieldType} {rm : Room} {ini : Bool} {Xt : State → Prop} {QQ : Qe} {w0 : va_W} {ce sl pc : Nat} {lv lv' : List (Nat × Value)} {st : List Value} {w : va_W}
/-- a contract out of the walk of the method's body -/
theorem CT.of {y : MethodName} {as : List Value} {Post : Option Value → va_W → Prop} (ini : Bool) (hy : plainName y.cls = true) (hin : ini = true → y.name = "<init>") (hl : (lg_sl as).length ≤ nL) (hlv : lv_args 0 as = lv)
    (body : WF l E y.cls cc nL ret rm ini (fun _ => True) (QM E w Post rm) w 0 0 0 lv [] w) : CT l E y cc nL ret rm as w Post := by
  intro sz
  refine Met.ofW (cc := cc) (maxL := nL) (ret := ret) hy rfl ?_
  intro p e s m args below meth c s₁ B hml hv
  obtain ⟨rfl, hsz, hP, hD0, hEK, hES⟩ := hv
  have hts := atoms_spec (ws := .code y cc nL ret :: TBg) B.pre
  subst hsz
  rw [lg_entry_eq]
  refine body p e s m _ below meth c s.heap [] _ ⟨B.exec, B.bytes, hml, findClass_of_methodNamed B.named, fun w hw => hts w (List.mem_cons_of_mem _ hw), B.returns, B.notSynchronized, hEK, hES, fun h => ?_, trivial⟩ ?_ hP hD0.self va_S.rf
  · rw [(name_of_methodNamed B.named B.method).1]; exact hin h
  · rw [← hlv]; exact lv_entry as hl
theorem wf_world (w' : va_W) (h : w = w') (k : WF l E own cc nL ret rm ini Xt QQ w0 ce sl pc lv st w') : WF l E own cc nL ret rm ini Xt QQ w0 ce sl pc lv st w := h ▸ k
theorem wf_st (st' : List Value) (h : st = st') (k : WF l E own cc nL ret rm ini Xt QQ w0 ce sl pc lv st' w) : WF l E own cc nL ret rm ini Xt QQ w0 ce sl pc lv st w := h ▸ k
theorem wf_sub (ks : List Nat) (h : lv_pick lv ks = lv') (k : WF l E own cc nL ret rm ini Xt QQ w0 ce sl pc lv' st w) : WF l E own cc nL ret rm ini Xt QQ w0 ce sl pc lv st w :=
  fun p e s m args below meth c H locs ls hC hl hP hD hS => k p e s m args below meth c H locs ls hC (lv_sub hl ks h) hP hD hS
theorem va_D.perm {A : Nat → Prop} {w w' : va_W} (h : w.Perm w') (hD : va_D A w) : va_D A w' := by
  have key : ∀ v : va_W, va_D A v ↔ (v.Pairwise (fun p q => p.1 ≠ q.1) ∧ ∀ q ∈ v, A q.1) := by
    intro v
    constructor
    · intro h
      refine ⟨List.pairwise_iff_getElem.mpr (fun i j hi hj hij e => ?_), fun q hq => ?_⟩
      · have := h.1 i j v[i] v[j] (List.getElem?_eq_getElem hi) (List.getElem?_eq_getElem hj) e
        omega
      · obtain ⟨k, hk⟩ := List.getElem?_of_mem hq
        exact h.2 k q hk
    · intro h
      refine ⟨fun i j p q hi hj e => ?_, fun k q hk => h.2 q (List.mem_of_getElem? hk)⟩
      obtain ⟨hi1, hi2⟩ := List.getElem?_eq_some_iff.mp hi
      obtain ⟨hj1, hj2⟩ := List.getElem?_eq_some_iff.mp hj
      have hp := List.pairwise_iff_getElem.mp h.1
      rcases Nat.lt_trichotomy i j with h1 | h1 | h1
      · exact absurd (by rw [hi2, hj2]; exact e) (hp i j hi1 hj1 h1)
      · exact h1
      · exact absurd (by rw [hi2, hj2]; exact e.symm) (hp j i hj1 hi1 h1)
  rw [key] at hD ⊢
  exact ⟨(h.pairwise_iff (fun {a b} (h : a.1 ≠ b.1) => h.symm)).mp hD.1, fun q hq => hD.2 q (h.mem_iff.mpr hq)⟩
theorem va_P.perm {D : va_G} {cl : List vw_C} {w w' : va_W} {H : Heap} (h : w.Perm w') (hP : va_P D cl w H) : va_P D cl w' H := by
  intro k q hk
  obtain ⟨j, hj⟩ := List.getElem?_of_mem (h.mem_iff.mpr (List.mem_of_getElem? hk))
  exact hP j q hj
theorem wf_perm {w' : va_W} (h : w.Perm w') (k : WF l E own cc nL ret rm ini Xt QQ w0 ce sl pc lv st w') : WF l E own cc nL ret rm ini Xt QQ w0 ce sl pc lv st w :=
  fun p e s m args below meth c H locs ls hC hl hP hD hS => k p e s m args below meth c H locs ls hC hl (hP.perm h) (hD.perm h) hS
/-- the same cells in other words: equal addresses, equal cells -/
theorem wf_cells {w' : va_W} (ha : w.map (·.1) = w'.map (·.1)) (hc : ∀ (D : va_G) (H : Heap), va_P D vwCl w H → va_P D vwCl w' H) (k : WF l E own cc nL ret rm ini Xt QQ w0 ce sl pc lv st w') : WF l E own cc nL ret rm ini Xt QQ w0 ce sl pc lv st w := by
  intro p e s m args below meth c H locs ls hC hl hP hD hS
  refine k p e s m args below meth c H locs ls hC hl (hc _ _ hP) ?_ hS
  have key : ∀ (i : Nat) (q : Nat × va_E), w'[i]? = some q → ∃ q', w[i]? = some q' ∧ q'.1 = q.1 := by
    intro i q hq
    have h1 : (w'.map (·.1))[i]? = some q.1 := by rw [List.getElem?_map, hq]; rfl
    rw [← ha, List.getElem?_map] at h1
    cases h2 : w[i]? with
    | none => rw [h2] at h1; cases h1
    | some q' => rw [h2] at h1; exact ⟨q', rfl, Option.some.inj h1⟩
  refine ⟨fun i j x y hi hj e => ?_, fun i q hi => ?_⟩
  · obtain ⟨x', h1, h2⟩ := key i x hi
    obtain ⟨y', h3, h4⟩ := key j y hj
    exact hD.1 i j x' y' h1 h3 (by rw [h2, h4]; exact e)
  · obtain ⟨x', h1, h2⟩ := key i q hi
    rw [← h2]; exact hD.2 i x' h1
theorem wf_widen (ce' sl' : Nat) (h1 : ce ≤ ce') (h2 : sl ≤ sl') (h3 : ce' ≤ rm.cells) (h4 : sl' ≤ rm.slots) (k : WF l E own cc nL ret rm ini Xt QQ w0 ce' sl' pc lv st w) : WF l E own cc nL ret rm ini Xt QQ w0 ce sl pc lv st w :=
  fun p e s m args below meth c H locs ls hC hl hP hD hS => W.widen h1 h2 (k p e s m args below meth c H locs ls hC hl hP hD hS)

theorem wf_iconst {n : Int} (v : Int32) (d : decode cc pc = .ok (.iconst n, 1)) (hv : Int32.ofInt n = v) (k : WF l E own cc nL ret rm ini Xt QQ w0 ce sl (pc + 1) lv (.int v :: st) w) : WF l E own cc nL ret rm ini Xt QQ w0 ce sl pc lv (st) w := by
  intro p e s m args below meth c H locs ls hC hl hP hD hS
  obtain ⟨hx, hb, hml, hown, hts, hr, hlk, hEK, hES, hin, hXt⟩ := id hC
  exact lv_iconst hx hb (v := v) d hv (k p e s m args below meth c H locs ls hC hl hP hD hS)
theorem wf_bipush {n : Int} (v : Int32) (d : decode cc pc = .ok (.bipush n, 2)) (hv : (Int8.ofInt n).toInt32 = v) (k : WF l E own cc nL ret rm ini Xt QQ w0 ce sl (pc + 2) lv (.int v :: st) w) : WF l E own cc nL ret rm ini Xt QQ w0 ce sl pc lv (st) w := by
  intro p e s m args below meth c H locs ls hC hl hP hD hS
  obtain ⟨hx, hb, hml, hown, hts, hr, hlk, hEK, hES, hin, hXt⟩ := id hC
  exact lv_bipush hx hb (v := v) d hv (k p e s m args below meth c H locs ls hC hl hP hD hS)
theorem wf_sipush {n : Int} (v : Int32) (d : decode cc pc = .ok (.sipush n, 3)) (hv : (Int16.ofInt n).toInt32 = v) (k : WF l E own cc nL ret rm ini Xt QQ w0 ce sl (pc + 3) lv (.int v :: st) w) : WF l E own cc nL ret rm ini Xt QQ w0 ce sl pc lv (st) w := by
  intro p e s m args below meth c H locs ls hC hl hP hD hS
  obtain ⟨hx, hb, hml, hown, hts, hr, hlk, hEK, hES, hin, hXt⟩ := id hC
  exact lv_sipush hx hb (v := v) d hv (k p e s m args below meth c H locs ls hC hl hP hD hS)
theorem wf_ldc {i : Nat} {v : Int32} (hk : Cond.constant own i v ∈ TBg) (d : decode cc pc = .ok (.ldc i, 2)) (k : WF l E own cc nL ret rm ini Xt QQ w0 ce sl (pc + 2) lv (.int v :: st) w) : WF l E own cc nL ret rm ini Xt QQ w0 ce sl pc lv (st) w := by
  intro p e s m args below meth c H locs ls hC hl hP hD hS
  obtain ⟨hx, hb, hml, hown, hts, hr, hlk, hEK, hES, hin, hXt⟩ := id hC
  exact lv_ldc hx hb hown (hts _ hk) d (k p e s m args below meth c H locs ls hC hl hP hD hS)
theorem wf_ldcw {i : Nat} {v : Int32} (hk : Cond.constant own i v ∈ TBg) (d : decode cc pc = .ok (.ldc_w i, 3)) (k : WF l E own cc nL ret rm ini Xt QQ w0 ce sl (pc + 3) lv (.int v :: st) w) : WF l E own cc nL ret rm ini Xt QQ w0 ce sl pc lv (st) w := by
  intro p e s m args below meth c H locs ls hC hl hP hD hS
  obtain ⟨hx, hb, hml, hown, hts, hr, hlk, hEK, hES, hin, hXt⟩ := id hC
  exact lv_ldcw hx hb hown (hts _ hk) d (k p e s m args below meth c H locs ls hC hl hP hD hS)
theorem wf_iload_n {i : Fin 4} {x : Int32} (j : Nat) (d : decode cc pc = .ok (.iload_n i, 1)) (h : lv[j]? = some ((i : Nat), .int x)) (k : WF l E own cc nL ret rm ini Xt QQ w0 ce sl (pc + 1) lv (.int x :: st) w) : WF l E own cc nL ret rm ini Xt QQ w0 ce sl pc lv (st) w := by
  intro p e s m args below meth c H locs ls hC hl hP hD hS
  obtain ⟨hx, hb, hml, hown, hts, hr, hlk, hEK, hES, hin, hXt⟩ := id hC
  exact lv_iload_n hx hb d rfl (lv_at hl j h) (k p e s m args below meth c H locs ls hC hl hP hD hS)
theorem wf_iload {i : Nat} {x : Int32} (j : Nat) (d : decode cc pc = .ok (.iload i, 2)) (h : lv[j]? = some (i, .int x)) (k : WF l E own cc nL ret rm ini Xt QQ w0 ce sl (pc + 2) lv (.int x :: st) w) : WF l E own cc nL ret rm ini Xt QQ w0 ce sl pc lv (st) w := by
  intro p e s m args below meth c H locs ls hC hl hP hD hS
  obtain ⟨hx, hb, hml, hown, hts, hr, hlk, hEK, hES, hin, hXt⟩ := id hC
  exact lv_iload hx hb d (lv_at hl j h) (k p e s m args below meth c H locs ls hC hl hP hD hS)
theorem wf_aload_n {i : Fin 4} {x : Nat} (j : Nat) (d : decode cc pc = .ok (.aload_n i, 1)) (h : lv[j]? = some ((i : Nat), .ref x)) (k : WF l E own cc nL ret rm ini Xt QQ w0 ce sl (pc + 1) lv (.ref x :: st) w) : WF l E own cc nL ret rm ini Xt QQ w0 ce sl pc lv (st) w := by
  intro p e s m args below meth c H locs ls hC hl hP hD hS
  obtain ⟨hx, hb, hml, hown, hts, hr, hlk, hEK, hES, hin, hXt⟩ := id hC
  exact lv_aload_n hx hb d rfl (lv_at hl j h) (k p e s m args below meth c H locs ls hC hl hP hD hS)
theorem wf_aload {i : Nat} {x : Nat} (j : Nat) (d : decode cc pc = .ok (.aload i, 2)) (h : lv[j]? = some (i, .ref x)) (k : WF l E own cc nL ret rm ini Xt QQ w0 ce sl (pc + 2) lv (.ref x :: st) w) : WF l E own cc nL ret rm ini Xt QQ w0 ce sl pc lv (st) w := by
  intro p e s m args below meth c H locs ls hC hl hP hD hS
  obtain ⟨hx, hb, hml, hown, hts, hr, hlk, hEK, hES, hin, hXt⟩ := id hC
  exact lv_aload hx hb d (lv_at hl j h) (k p e s m args below meth c H locs ls hC hl hP hD hS)
theorem wf_istore_n {f : Fin 4} {i : Nat} {x : Int32} (lv' : List (Nat × Value)) (d : decode cc pc = .ok (.istore_n f, 1)) (hi : (f : Nat) = i) (hn : i < nL) (h : (i, Value.int x) :: lv.filter (fun q => !(q.1 == i) && !(q.1 + 1 == i && q.2.category == 2)) = lv') (k : WF l E own cc nL ret rm ini Xt QQ w0 ce sl (pc + 1) lv' st w) : WF l E own cc nL ret rm ini Xt QQ w0 ce sl pc lv (.int x :: st) w := by
  intro p e s m args below meth c H locs ls hC hl hP hD hS
  obtain ⟨hx, hb, hml, hown, hts, hr, hlk, hEK, hES, hin, hXt⟩ := id hC
  exact lv_istore_n hx hb d hi hl hn h (fun ls hl => k p e s m args below meth c H locs ls hC hl hP hD hS)
theorem wf_istore {i : Nat} {x : Int32} (lv' : List (Nat × Value)) (d : decode cc pc = .ok (.istore i, 2)) (hn : i < nL) (h : (i, Value.int x) :: lv.filter (fun q => !(q.1 == i) && !(q.1 + 1 == i && q.2.category == 2)) = lv') (k : WF l E own cc nL ret rm ini Xt QQ w0 ce sl (pc + 2) lv' st w) : WF l E own cc nL ret rm ini Xt QQ w0 ce sl pc lv (.int x :: st) w := by
  intro p e s m args below meth c H locs ls hC hl hP hD hS
  obtain ⟨hx, hb, hml, hown, hts, hr, hlk, hEK, hES, hin, hXt⟩ := id hC
  exact lv_istore hx hb d hl hn h (fun ls hl => k p e s m args below meth c H locs ls hC hl hP hD hS)
theorem wf_astore_n {f : Fin 4} {i : Nat} {x : Nat} (lv' : List (Nat × Value)) (d : decode cc pc = .ok (.astore_n f, 1)) (hi : (f : Nat) = i) (hn : i < nL) (h : (i, Value.ref x) :: lv.filter (fun q => !(q.1 == i) && !(q.1 + 1 == i && q.2.category == 2)) = lv') (k : WF l E own cc nL ret rm ini Xt QQ w0 ce sl (pc + 1) lv' st w) : WF l E own cc nL ret rm ini Xt QQ w0 ce sl pc lv (.ref x :: st) w := by
  intro p e s m args below meth c H locs ls hC hl hP hD hS
  obtain ⟨hx, hb, hml, hown, hts, hr, hlk, hEK, hES, hin, hXt⟩ := id hC
  exact lv_astore_n hx hb d hi hl hn h (fun ls hl => k p e s m args below meth c H locs ls hC hl hP hD hS)
theorem wf_astore {i : Nat} {x : Nat} (lv' : List (Nat × Value)) (d : decode cc pc = .ok (.astore i, 2)) (hn : i < nL) (h : (i, Value.ref x) :: lv.filter (fun q => !(q.1 == i) && !(q.1 + 1 == i && q.2.category == 2)) = lv') (k : WF l E own cc nL ret rm ini Xt QQ w0 ce sl (pc + 2) lv' st w) : WF l E own cc nL ret rm ini Xt QQ w0 ce sl pc lv (.ref x :: st) w := by
  intro p e s m args below meth c H locs ls hC hl hP hD hS
  obtain ⟨hx, hb, hml, hown, hts, hr, hlk, hEK, hES, hin, hXt⟩ := id hC
  exact lv_astore hx hb d hl hn h (fun ls hl => k p e s m args below meth c H locs ls hC hl hP hD hS)
theorem wf_iinc {i : Nat} {n : Int} {x : Int32} (v : Int32) (j : Nat) (lv' : List (Nat × Value)) (d : decode cc pc = .ok (.iinc i n, 3)) (hj : lv[j]? = some (i, .int x)) (hv : x + Int32.ofInt n = v) (hn : i < nL) (h : (i, Value.int v) :: lv.filter (fun q => !(q.1 == i) && !(q.1 + 1 == i && q.2.category == 2)) = lv') (k : WF l E own cc nL ret rm ini Xt QQ w0 ce sl (pc + 3) lv' st w) : WF l E own cc nL ret rm ini Xt QQ w0 ce sl pc lv st w := by
  intro p e s m args below meth c H locs ls hC hl hP hD hS
  obtain ⟨hx, hb, hml, hown, hts, hr, hlk, hEK, hES, hin, hXt⟩ := id hC
  exact lv_iinc hx hb d hl hj hv hn h (fun ls hl => k p e s m args below meth c H locs ls hC hl hP hD hS)
theorem wf_iadd {x y : Int32} (v : Int32) (d : decode cc pc = .ok (.iadd, 1)) (hv : x + y = v) (k : WF l E own cc nL ret rm ini Xt QQ w0 ce sl (pc + 1) lv (.int v :: st) w) : WF l E own cc nL ret rm ini Xt QQ w0 ce sl pc lv (.int y :: .int x :: st) w := by
  intro p e s m args below meth c H locs ls hC hl hP hD hS
  obtain ⟨hx, hb, hml, hown, hts, hr, hlk, hEK, hES, hin, hXt⟩ := id hC
  subst hv
  exact lv_iadd hx hb d (k p e s m args below meth c H locs ls hC hl hP hD hS)
theorem wf_isub {x y : Int32} (v : Int32) (d : decode cc pc = .ok (.isub, 1)) (hv : x - y = v) (k : WF l E own cc nL ret rm ini Xt QQ w0 ce sl (pc + 1) lv (.int v :: st) w) : WF l E own cc nL ret rm ini Xt QQ w0 ce sl pc lv (.int y :: .int x :: st) w := by
  intro p e s m args below meth c H locs ls hC hl hP hD hS
  obtain ⟨hx, hb, hml, hown, hts, hr, hlk, hEK, hES, hin, hXt⟩ := id hC
  subst hv
  exact lv_isub hx hb d (k p e s m args below meth c H locs ls hC hl hP hD hS)
theorem wf_imul {x y : Int32} (v : Int32) (d : decode cc pc = .ok (.imul, 1)) (hv : x * y = v) (k : WF l E own cc nL ret rm ini Xt QQ w0 ce sl (pc + 1) lv (.int v :: st) w) : WF l E own cc nL ret rm ini Xt QQ w0 ce sl pc lv (.int y :: .int x :: st) w := by
  intro p e s m args below meth c H locs ls hC hl hP hD hS
  obtain ⟨hx, hb, hml, hown, hts, hr, hlk, hEK, hES, hin, hXt⟩ := id hC
  subst hv
  exact lv_imul hx hb d (k p e s m args below meth c H locs ls hC hl hP hD hS)
theorem wf_iand {x y : Int32} (v : Int32) (d : decode cc pc = .ok (.iand, 1)) (hv : x &&& y = v) (k : WF l E own cc nL ret rm ini Xt QQ w0 ce sl (pc + 1) lv (.int v :: st) w) : WF l E own cc nL ret rm ini Xt QQ w0 ce sl pc lv (.int y :: .int x :: st) w := by
  intro p e s m args below meth c H locs ls hC hl hP hD hS
  obtain ⟨hx, hb, hml, hown, hts, hr, hlk, hEK, hES, hin, hXt⟩ := id hC
  subst hv
  exact lv_iand hx hb d (k p e s m args below meth c H locs ls hC hl hP hD hS)
theorem wf_ior {x y : Int32} (v : Int32) (d : decode cc pc = .ok (.ior, 1)) (hv : x ||| y = v) (k : WF l E own cc nL ret rm ini Xt QQ w0 ce sl (pc + 1) lv (.int v :: st) w) : WF l E own cc nL ret rm ini Xt QQ w0 ce sl pc lv (.int y :: .int x :: st) w := by
  intro p e s m args below meth c H locs ls hC hl hP hD hS
  obtain ⟨hx, hb, hml, hown, hts, hr, hlk, hEK, hES, hin, hXt⟩ := id hC
  subst hv
  exact lv_ior hx hb d (k p e s m args below meth c H locs ls hC hl hP hD hS)
theorem wf_ixor {x y : Int32} (v : Int32) (d : decode cc pc = .ok (.ixor, 1)) (hv : x ^^^ y = v) (k : WF l E own cc nL ret rm ini Xt QQ w0 ce sl (pc + 1) lv (.int v :: st) w) : WF l E own cc nL ret rm ini Xt QQ w0 ce sl pc lv (.int y :: .int x :: st) w := by
  intro p e s m args below meth c H locs ls hC hl hP hD hS
  obtain ⟨hx, hb, hml, hown, hts, hr, hlk, hEK, hES, hin, hXt⟩ := id hC
  subst hv
  exact lv_ixor hx hb d (k p e s m args below meth c H locs ls hC hl hP hD hS)
theorem wf_ishl {x y : Int32} (v : Int32) (d : decode cc pc = .ok (.ishl, 1)) (hv : x <<< (y &&& 31) = v) (k : WF l E own cc nL ret rm ini Xt QQ w0 ce sl (pc + 1) lv (.int v :: st) w) : WF l E own cc nL ret rm ini Xt QQ w0 ce sl pc lv (.int y :: .int x :: st) w := by
  intro p e s m args below meth c H locs ls hC hl hP hD hS
  obtain ⟨hx, hb, hml, hown, hts, hr, hlk, hEK, hES, hin, hXt⟩ := id hC
  subst hv
  exact lv_ishl hx hb d (k p e s m args below meth c H locs ls hC hl hP hD hS)
theorem wf_ishr {x y : Int32} (v : Int32) (d : decode cc pc = .ok (.ishr, 1)) (hv : x >>> (y &&& 31) = v) (k : WF l E own cc nL ret rm ini Xt QQ w0 ce sl (pc + 1) lv (.int v :: st) w) : WF l E own cc nL ret rm ini Xt QQ w0 ce sl pc lv (.int y :: .int x :: st) w := by
  intro p e s m args below meth c H locs ls hC hl hP hD hS
  obtain ⟨hx, hb, hml, hown, hts, hr, hlk, hEK, hES, hin, hXt⟩ := id hC
  subst hv
  exact lv_ishr hx hb d (k p e s m args below meth c H locs ls hC hl hP hD hS)
theorem wf_idiv {x y : Int32} (v : Int32) (d : decode cc pc = .ok (.idiv, 1)) (hy : ¬ y = 0) (hv : x / y = v) (k : WF l E own cc nL ret rm ini Xt QQ w0 ce sl (pc + 1) lv (.int v :: st) w) : WF l E own cc nL ret rm ini Xt QQ w0 ce sl pc lv (.int y :: .int x :: st) w := by
  intro p e s m args below meth c H locs ls hC hl hP hD hS
  obtain ⟨hx, hb, hml, hown, hts, hr, hlk, hEK, hES, hin, hXt⟩ := id hC
  subst hv
  exact lv_idiv hx hb d hy (k p e s m args below meth c H locs ls hC hl hP hD hS)
theorem wf_irem {x y : Int32} (v : Int32) (d : decode cc pc = .ok (.irem, 1)) (hy : ¬ y = 0) (hv : x - x / y * y = v) (k : WF l E own cc nL ret rm ini Xt QQ w0 ce sl (pc + 1) lv (.int v :: st) w) : WF l E own cc nL ret rm ini Xt QQ w0 ce sl pc lv (.int y :: .int x :: st) w := by
  intro p e s m args below meth c H locs ls hC hl hP hD hS
  obtain ⟨hx, hb, hml, hown, hts, hr, hlk, hEK, hES, hin, hXt⟩ := id hC
  subst hv
  exact lv_irem hx hb d hy (k p e s m args below meth c H locs ls hC hl hP hD hS)
theorem wf_ineg {x : Int32} (v : Int32) (d : decode cc pc = .ok (.ineg, 1)) (hv : -x = v) (k : WF l E own cc nL ret rm ini Xt QQ w0 ce sl (pc + 1) lv (.int v :: st) w) : WF l E own cc nL ret rm ini Xt QQ w0 ce sl pc lv (.int x :: st) w := by
  intro p e s m args below meth c H locs ls hC hl hP hD hS
  obtain ⟨hx, hb, hml, hown, hts, hr, hlk, hEK, hES, hin, hXt⟩ := id hC
  subst hv
  exact lv_ineg hx hb d (k p e s m args below meth c H locs ls hC hl hP hD hS)
theorem wf_iushr {x y : Int32} (v : Int32) (d : decode cc pc = .ok (.iushr, 1)) (hv : (x.toUInt32 >>> (y.toUInt32 &&& Int32.toUInt32 31)).toInt32 = v) (k : WF l E own cc nL ret rm ini Xt QQ w0 ce sl (pc + 1) lv (.int v :: st) w) : WF l E own cc nL ret rm ini Xt QQ w0 ce sl pc lv (.int y :: .int x :: st) w := by
  intro p e s m args below meth c H locs ls hC hl hP hD hS
  obtain ⟨hx, hb, hml, hown, hts, hr, hlk, hEK, hES, hin, hXt⟩ := id hC
  exact lv_iushr hx hb d hv (k p e s m args below meth c H locs ls hC hl hP hD hS)
theorem wf_i2c {x : Int32} (v : Int32) (d : decode cc pc = .ok (.i2c, 1)) (hv : (x.toUInt32 % 65536).toInt32 = v) (k : WF l E own cc nL ret rm ini Xt QQ w0 ce sl (pc + 1) lv (.int v :: st) w) : WF l E own cc nL ret rm ini Xt QQ w0 ce sl pc lv (.int x :: st) w := by
  intro p e s m args below meth c H locs ls hC hl hP hD hS
  obtain ⟨hx, hb, hml, hown, hts, hr, hlk, hEK, hES, hin, hXt⟩ := id hC
  exact lv_i2c hx hb d hv (k p e s m args below meth c H locs ls hC hl hP hD hS)
theorem wf_i2b {x : Int32} (v : Int32) (d : decode cc pc = .ok (.i2b, 1)) (hv : x.toInt8.toInt32 = v) (k : WF l E own cc nL ret rm ini Xt QQ w0 ce sl (pc + 1) lv (.int v :: st) w) : WF l E own cc nL ret rm ini Xt QQ w0 ce sl pc lv (.int x :: st) w := by
  intro p e s m args below meth c H locs ls hC hl hP hD hS
  obtain ⟨hx, hb, hml, hown, hts, hr, hlk, hEK, hES, hin, hXt⟩ := id hC
  exact lv_i2b hx hb d hv (k p e s m args below meth c H locs ls hC hl hP hD hS)
theorem wf_dup {va : Value} (d : decode cc pc = .ok (.dup, 1)) (hva : va.category = 1) (k : WF l E own cc nL ret rm ini Xt QQ w0 ce sl (pc + 1) lv (va :: va :: st) w) : WF l E own cc nL ret rm ini Xt QQ w0 ce sl pc lv (va :: st) w := by
  intro p e s m args below meth c H locs ls hC hl hP hD hS
  obtain ⟨hx, hb, hml, hown, hts, hr, hlk, hEK, hES, hin, hXt⟩ := id hC
  exact lv_dup hx hb d hva (k p e s m args below meth c H locs ls hC hl hP hD hS)
theorem wf_pop {va : Value} (d : decode cc pc = .ok (.pop, 1)) (hva : va.category = 1) (k : WF l E own cc nL ret rm ini Xt QQ w0 ce sl (pc + 1) lv (st) w) : WF l E own cc nL ret rm ini Xt QQ w0 ce sl pc lv (va :: st) w := by
  intro p e s m args below meth c H locs ls hC hl hP hD hS
  obtain ⟨hx, hb, hml, hown, hts, hr, hlk, hEK, hES, hin, hXt⟩ := id hC
  exact lv_pop hx hb d hva (k p e s m args below meth c H locs ls hC hl hP hD hS)
theorem wf_dup_x1 {va vb : Value} (d : decode cc pc = .ok (.dup_x1, 1)) (hva : va.category = 1) (hvb : vb.category = 1) (k : WF l E own cc nL ret rm ini Xt QQ w0 ce sl (pc + 1) lv (va :: vb :: va :: st) w) : WF l E own cc nL ret rm ini Xt QQ w0 ce sl pc lv (va :: vb :: st) w := by
  intro p e s m args below meth c H locs ls hC hl hP hD hS
  obtain ⟨hx, hb, hml, hown, hts, hr, hlk, hEK, hES, hin, hXt⟩ := id hC
  exact lv_dup_x1 hx hb d hva hvb (k p e s m args below meth c H locs ls hC hl hP hD hS)
theorem wf_dup_x2 {va vb vd : Value} (d : decode cc pc = .ok (.dup_x2, 1)) (hva : va.category = 1) (hvb : vb.category = 1) (hvd : vd.category = 1) (k : WF l E own cc nL ret rm ini Xt QQ w0 ce sl (pc + 1) lv (va :: vb :: vd :: va :: st) w) : WF l E own cc nL ret rm ini Xt QQ w0 ce sl pc lv (va :: vb :: vd :: st) w := by
  intro p e s m args below meth c H locs ls hC hl hP hD hS
  obtain ⟨hx, hb, hml, hown, hts, hr, hlk, hEK, hES, hin, hXt⟩ := id hC
  exact lv_dup_x2 hx hb d hva hvb hvd (k p e s m args below meth c H locs ls hC hl hP hD hS)
theorem wf_dup2 {va vb : Value} (d : decode cc pc = .ok (.dup2, 1)) (hva : va.category = 1) (hvb : vb.category = 1) (k : WF l E own cc nL ret rm ini Xt QQ w0 ce sl (pc + 1) lv (va :: vb :: va :: vb :: st) w) : WF l E own cc nL ret rm ini Xt QQ w0 ce sl pc lv (va :: vb :: st) w := by
  intro p e s m args below meth c H locs ls hC hl hP hD hS
  obtain ⟨hx, hb, hml, hown, hts, hr, hlk, hEK, hES, hin, hXt⟩ := id hC
  exact lv_dup2_11 hx hb d hva hvb (k p e s m args below meth c H locs ls hC hl hP hD hS)
theorem wf_goto {off : Int} (tgt : Nat) (d : decode cc pc = .ok (.goto off, 3)) (ht : (pc : Int) + off = (tgt : Int)) (k : WF l E own cc nL ret rm ini Xt QQ w0 ce sl tgt lv (st) w) : WF l E own cc nL ret rm ini Xt QQ w0 ce sl pc lv (st) w := by
  intro p e s m args below meth c H locs ls hC hl hP hD hS
  obtain ⟨hx, hb, hml, hown, hts, hr, hlk, hEK, hES, hin, hXt⟩ := id hC
  exact lv_goto hx hb d ht (k p e s m args below meth c H locs ls hC hl hP hD hS)
theorem wf_icmp_eq {x y : Int32} {off : Int} (tgt : Nat) (d : decode cc pc = .ok (.if_icmp .eq off, 3)) (ht : (pc : Int) + off = (tgt : Int)) (kt : x = y → WF l E own cc nL ret rm ini Xt QQ w0 ce sl tgt lv st w) (kf : ¬ (x = y) → WF l E own cc nL ret rm ini Xt QQ w0 ce sl (pc + 3) lv st w) : WF l E own cc nL ret rm ini Xt QQ w0 ce sl pc lv (.int y :: .int x :: st) w := by
  intro p e s m args below meth c H locs ls hC hl hP hD hS
  obtain ⟨hx, hb, hml, hown, hts, hr, hlk, hEK, hES, hin, hXt⟩ := id hC
  exact lv_icmp_eq hx hb d ht (fun h => kt h p e s m args below meth c H locs ls hC hl hP hD hS) (fun h => kf h p e s m args below meth c H locs ls hC hl hP hD hS)
theorem wf_if_eq {x : Int32} {off : Int} (tgt : Nat) (d : decode cc pc = .ok (.ifCond .eq off, 3)) (ht : (pc : Int) + off = (tgt : Int)) (kt : x = 0 → WF l E own cc nL ret rm ini Xt QQ w0 ce sl tgt lv st w) (kf : ¬ (x = 0) → WF l E own cc nL ret rm ini Xt QQ w0 ce sl (pc + 3) lv st w) : WF l E own cc nL ret rm ini Xt QQ w0 ce sl pc lv (.int x :: st) w := by
  intro p e s m args below meth c H locs ls hC hl hP hD hS
  obtain ⟨hx, hb, hml, hown, hts, hr, hlk, hEK, hES, hin, hXt⟩ := id hC
  exact lv_if_eq hx hb d ht (fun h => kt h p e s m args below meth c H locs ls hC hl hP hD hS) (fun h => kf h p e s m args below meth c H locs ls hC hl hP hD hS)
theorem wf_icmp_ne {x y : Int32} {off : Int} (tgt : Nat) (d : decode cc pc = .ok (.if_icmp .ne off, 3)) (ht : (pc : Int) + off = (tgt : Int)) (kt : x ≠ y → WF l E own cc nL ret rm ini Xt QQ w0 ce sl tgt lv st w) (kf : x = y → WF l E own cc nL ret rm ini Xt QQ w0 ce sl (pc + 3) lv st w) : WF l E own cc nL ret rm ini Xt QQ w0 ce sl pc lv (.int y :: .int x :: st) w := by
  intro p e s m args below meth c H locs ls hC hl hP hD hS
  obtain ⟨hx, hb, hml, hown, hts, hr, hlk, hEK, hES, hin, hXt⟩ := id hC
  exact lv_icmp_ne hx hb d ht (fun h => kt h p e s m args below meth c H locs ls hC hl hP hD hS) (fun h => kf h p e s m args below meth c H locs ls hC hl hP hD hS)
theorem wf_if_ne {x : Int32} {off : Int} (tgt : Nat) (d : decode cc pc = .ok (.ifCond .ne off, 3)) (ht : (pc : Int) + off = (tgt : Int)) (kt : x ≠ 0 → WF l E own cc nL ret rm ini Xt QQ w0 ce sl tgt lv st w) (kf : x = 0 → WF l E own cc nL ret rm ini Xt QQ w0 ce sl (pc + 3) lv st w) : WF l E own cc nL ret rm ini Xt QQ w0 ce sl pc lv (.int x :: st) w := by
  intro p e s m args below meth c H locs ls hC hl hP hD hS
  obtain ⟨hx, hb, hml, hown, hts, hr, hlk, hEK, hES, hin, hXt⟩ := id hC
  exact lv_if_ne hx hb d ht (fun h => kt h p e s m args below meth c H locs ls hC hl hP hD hS) (fun h => kf h p e s m args below meth c H locs ls hC hl hP hD hS)
theorem wf_icmp_lt {x y : Int32} {off : Int} (tgt : Nat) (d : decode cc pc = .ok (.if_icmp .lt off, 3)) (ht : (pc : Int) + off = (tgt : Int)) (kt : x < y → WF l E own cc nL ret rm ini Xt QQ w0 ce sl tgt lv st w) (kf : ¬ (x < y) → WF l E own cc nL ret rm ini Xt QQ w0 ce sl (pc + 3) lv st w) : WF l E own cc nL ret rm ini Xt QQ w0 ce sl pc lv (.int y :: .int x :: st) w := by
  intro p e s m args below meth c H locs ls hC hl hP hD hS
  obtain ⟨hx, hb, hml, hown, hts, hr, hlk, hEK, hES, hin, hXt⟩ := id hC
  exact lv_icmp_lt hx hb d ht (fun h => kt h p e s m args below meth c H locs ls hC hl hP hD hS) (fun h => kf h p e s m args below meth c H locs ls hC hl hP hD hS)
theorem wf_if_lt {x : Int32} {off : Int} (tgt : Nat) (d : decode cc pc = .ok (.ifCond .lt off, 3)) (ht : (pc : Int) + off = (tgt : Int)) (kt : x < 0 → WF l E own cc nL ret rm ini Xt QQ w0 ce sl tgt lv st w) (kf : ¬ (x < 0) → WF l E own cc nL ret rm ini Xt QQ w0 ce sl (pc + 3) lv st w) : WF l E own cc nL ret rm ini Xt QQ w0 ce sl pc lv (.int x :: st) w := by
  intro p e s m args below meth c H locs ls hC hl hP hD hS
  obtain ⟨hx, hb, hml, hown, hts, hr, hlk, hEK, hES, hin, hXt⟩ := id hC
  exact lv_if_lt hx hb d ht (fun h => kt h p e s m args below meth c H locs ls hC hl hP hD hS) (fun h => kf h p e s m args below meth c H locs ls hC hl hP hD hS)
theorem wf_icmp_ge {x y : Int32} {off : Int} (tgt : Nat) (d : decode cc pc = .ok (.if_icmp .ge off, 3)) (ht : (pc : Int) + off = (tgt : Int)) (kt : y ≤ x → WF l E own cc nL ret rm ini Xt QQ w0 ce sl tgt lv st w) (kf : ¬ (y ≤ x) → WF l E own cc nL ret rm ini Xt QQ w0 ce sl (pc + 3) lv st w) : WF l E own cc nL ret rm ini Xt QQ w0 ce sl pc lv (.int y :: .int x :: st) w := by
  intro p e s m args below meth c H locs ls hC hl hP hD hS
  obtain ⟨hx, hb, hml, hown, hts, hr, hlk, hEK, hES, hin, hXt⟩ := id hC
  exact lv_icmp_ge hx hb d ht (fun h => kt h p e s m args below meth c H locs ls hC hl hP hD hS) (fun h => kf h p e s m args below meth c H locs ls hC hl hP hD hS)
theorem wf_if_ge {x : Int32} {off : Int} (tgt : Nat) (d : decode cc pc = .ok (.ifCond .ge off, 3)) (ht : (pc : Int) + off = (tgt : Int)) (kt : 0 ≤ x → WF l E own cc nL ret rm ini Xt QQ w0 ce sl tgt lv st w) (kf : ¬ (0 ≤ x) → WF l E own cc nL ret rm ini Xt QQ w0 ce sl (pc + 3) lv st w) : WF l E own cc nL ret rm ini Xt QQ w0 ce sl pc lv (.int x :: st) w := by
  intro p e s m args below meth c H locs ls hC hl hP hD hS
  obtain ⟨hx, hb, hml, hown, hts, hr, hlk, hEK, hES, hin, hXt⟩ := id hC
  exact lv_if_ge hx hb d ht (fun h => kt h p e s m args below meth c H locs ls hC hl hP hD hS) (fun h => kf h p e s m args below meth c H locs ls hC hl hP hD hS)
theorem wf_icmp_gt {x y : Int32} {off : Int} (tgt : Nat) (d : decode cc pc = .ok (.if_icmp .gt off, 3)) (ht : (pc : Int) + off = (tgt : Int)) (kt : y < x → WF l E own cc nL ret rm ini Xt QQ w0 ce sl tgt lv st w) (kf : ¬ (y < x) → WF l E own cc nL ret rm ini Xt QQ w0 ce sl (pc + 3) lv st w) : WF l E own cc nL ret rm ini Xt QQ w0 ce sl pc lv (.int y :: .int x :: st) w := by
  intro p e s m args below meth c H locs ls hC hl hP hD hS
  obtain ⟨hx, hb, hml, hown, hts, hr, hlk, hEK, hES, hin, hXt⟩ := id hC
  exact lv_icmp_gt hx hb d ht (fun h => kt h p e s m args below meth c H locs ls hC hl hP hD hS) (fun h => kf h p e s m args below meth c H locs ls hC hl hP hD hS)
theorem wf_if_gt {x : Int32} {off : Int} (tgt : Nat) (d : decode cc pc = .ok (.ifCond .gt off, 3)) (ht : (pc : Int) + off = (tgt : Int)) (kt : 0 < x → WF l E own cc nL ret rm ini Xt QQ w0 ce sl tgt lv st w) (kf : ¬ (0 < x) → WF l E own cc nL ret rm ini Xt QQ w0 ce sl (pc + 3) lv st w) : WF l E own cc nL ret rm ini Xt QQ w0 ce sl pc lv (.int x :: st) w := by
  intro p e s m args below meth c H locs ls hC hl hP hD hS
  obtain ⟨hx, hb, hml, hown, hts, hr, hlk, hEK, hES, hin, hXt⟩ := id hC
  exact lv_if_gt hx hb d ht (fun h => kt h p e s m args below meth c H locs ls hC hl hP hD hS) (fun h => kf h p e s m args below meth c H locs ls hC hl hP hD hS)
theorem wf_icmp_le {x y : Int32} {off : Int} (tgt : Nat) (d : decode cc pc = .ok (.if_icmp .le off, 3)) (ht : (pc : Int) + off = (tgt : Int)) (kt : x ≤ y → WF l E own cc nL ret rm ini Xt QQ w0 ce sl tgt lv st w) (kf : ¬ (x ≤ y) → WF l E own cc nL ret rm ini Xt QQ w0 ce sl (pc + 3) lv st w) : WF l E own cc nL ret rm ini Xt QQ w0 ce sl pc lv (.int y :: .int x :: st) w := by
  intro p e s m args below meth c H locs ls hC hl hP hD hS
  obtain ⟨hx, hb, hml, hown, hts, hr, hlk, hEK, hES, hin, hXt⟩ := id hC
  exact lv_icmp_le hx hb d ht (fun h => kt h p e s m args below meth c H locs ls hC hl hP hD hS) (fun h => kf h p e s m args below meth c H locs ls hC hl hP hD hS)
theorem wf_if_le {x : Int32} {off : Int} (tgt : Nat) (d : decode cc pc = .ok (.ifCond .le off, 3)) (ht : (pc : Int) + off = (tgt : Int)) (kt : x ≤ 0 → WF l E own cc nL ret rm ini Xt QQ w0 ce sl tgt lv st w) (kf : ¬ (x ≤ 0) → WF l E own cc nL ret rm ini Xt QQ w0 ce sl (pc + 3) lv st w) : WF l E own cc nL ret rm ini Xt QQ w0 ce sl pc lv (.int x :: st) w := by
  intro p e s m args below meth c H locs ls hC hl hP hD hS
  obtain ⟨hx, hb, hml, hown, hts, hr, hlk, hEK, hES, hin, hXt⟩ := id hC
  exact lv_if_le hx hb d ht (fun h => kt h p e s m args below meth c H locs ls hC hl hP hD hS) (fun h => kf h p e s m args below meth c H locs ls hC hl hP hD hS)
theorem wf_icmp_eq_n {a b : Nat} {off : Int} (tgt : Nat) (d : decode cc pc = .ok (.if_icmp .eq off, 3)) (ht : (pc : Int) + off = (tgt : Int)) (ha : a < 2 ^ 31) (hb : b < 2 ^ 31) (kt : a = b → WF l E own cc nL ret rm ini Xt QQ w0 ce sl tgt lv st w) (kf : a ≠ b → WF l E own cc nL ret rm ini Xt QQ w0 ce sl (pc + 3) lv st w) : WF l E own cc nL ret rm ini Xt QQ w0 ce sl pc lv (.int (nI b) :: .int (nI a) :: st) w :=
  wf_icmp_eq tgt d ht (fun h => kt ((nI_eq ha hb).mp h)) (fun h => kf (fun e => h ((nI_eq ha hb).mpr e)))
theorem wf_icmp_ne_n {a b : Nat} {off : Int} (tgt : Nat) (d : decode cc pc = .ok (.if_icmp .ne off, 3)) (ht : (pc : Int) + off = (tgt : Int)) (ha : a < 2 ^ 31) (hb : b < 2 ^ 31) (kt : a ≠ b → WF l E own cc nL ret rm ini Xt QQ w0 ce sl tgt lv st w) (kf : a = b → WF l E own cc nL ret rm ini Xt QQ w0 ce sl (pc + 3) lv st w) : WF l E own cc nL ret rm ini Xt QQ w0 ce sl pc lv (.int (nI b) :: .int (nI a) :: st) w :=
  wf_icmp_ne tgt d ht (fun h => kt (fun e => h ((nI_eq ha hb).mpr e))) (fun h => kf ((nI_eq ha hb).mp h))
theorem wf_icmp_lt_n {a b : Nat} {off : Int} (tgt : Nat) (d : decode cc pc = .ok (.if_icmp .lt off, 3)) (ht : (pc : Int) + off = (tgt : Int)) (ha : a < 2 ^ 31) (hb : b < 2 ^ 31) (kt : a < b → WF l E own cc nL ret rm ini Xt QQ w0 ce sl tgt lv st w) (kf : b ≤ a → WF l E own cc nL ret rm ini Xt QQ w0 ce sl (pc + 3) lv st w) : WF l E own cc nL ret rm ini Xt QQ w0 ce sl pc lv (.int (nI b) :: .int (nI a) :: st) w :=
  wf_icmp_lt tgt d ht (fun h => kt ((nI_ltI ha hb).mp h)) (fun h => kf (Nat.not_lt.mp (fun e => h ((nI_ltI ha hb).mpr e))))
theorem wf_icmp_ge_n {a b : Nat} {off : Int} (tgt : Nat) (d : decode cc pc = .ok (.if_icmp .ge off, 3)) (ht : (pc : Int) + off = (tgt : Int)) (ha : a < 2 ^ 31) (hb : b < 2 ^ 31) (kt : b ≤ a → WF l E own cc nL ret rm ini Xt QQ w0 ce sl tgt lv st w) (kf : a < b → WF l E own cc nL ret rm ini Xt QQ w0 ce sl (pc + 3) lv st w) : WF l E own cc nL ret rm ini Xt QQ w0 ce sl pc lv (.int (nI b) :: .int (nI a) :: st) w :=
  wf_icmp_ge tgt d ht (fun h => kt ((nI_leI hb ha).mp h)) (fun h => kf (Nat.not_le.mp (fun e => h ((nI_leI hb ha).mpr e))))
theorem wf_icmp_gt_n {a b : Nat} {off : Int} (tgt : Nat) (d : decode cc pc = .ok (.if_icmp .gt off, 3)) (ht : (pc : Int) + off = (tgt : Int)) (ha : a < 2 ^ 31) (hb : b < 2 ^ 31) (kt : b < a → WF l E own cc nL ret rm ini Xt QQ w0 ce sl tgt lv st w) (kf : a ≤ b → WF l E own cc nL ret rm ini Xt QQ w0 ce sl (pc + 3) lv st w) : WF l E own cc nL ret rm ini Xt QQ w0 ce sl pc lv (.int (nI b) :: .int (nI a) :: st) w :=
  wf_icmp_gt tgt d ht (fun h => kt ((nI_ltI hb ha).mp h)) (fun h => kf (Nat.not_lt.mp (fun e => h ((nI_ltI hb ha).mpr e))))
theorem wf_icmp_le_n {a b : Nat} {off : Int} (tgt : Nat) (d : decode cc pc = .ok (.if_icmp .le off, 3)) (ht : (pc : Int) + off = (tgt : Int)) (ha : a < 2 ^ 31) (hb : b < 2 ^ 31) (kt : a ≤ b → WF l E own cc nL ret rm ini Xt QQ w0 ce sl tgt lv st w) (kf : b < a → WF l E own cc nL ret rm ini Xt QQ w0 ce sl (pc + 3) lv st w) : WF l E own cc nL ret rm ini Xt QQ w0 ce sl pc lv (.int (nI b) :: .int (nI a) :: st) w :=
  wf_icmp_le tgt d ht (fun h => kt ((nI_leI ha hb).mp h)) (fun h => kf (Nat.not_le.mp (fun e => h ((nI_leI ha hb).mpr e))))
theorem wf_if_eq_n {a : Nat} {off : Int} (tgt : Nat) (d : decode cc pc = .ok (.ifCond .eq off, 3)) (ht : (pc : Int) + off = (tgt : Int)) (ha : a < 2 ^ 31) (kt : a = 0 → WF l E own cc nL ret rm ini Xt QQ w0 ce sl tgt lv st w) (kf : a ≠ 0 → WF l E own cc nL ret rm ini Xt QQ w0 ce sl (pc + 3) lv st w) : WF l E own cc nL ret rm ini Xt QQ w0 ce sl pc lv (.int (nI a) :: st) w :=
  wf_if_eq tgt d ht (fun h => kt ((nI_eq ha (by decide)).mp (h.trans nI_0.symm))) (fun h => kf (fun e => h (by rw [e]; exact nI_0)))
theorem wf_if_ne_n {a : Nat} {off : Int} (tgt : Nat) (d : decode cc pc = .ok (.ifCond .ne off, 3)) (ht : (pc : Int) + off = (tgt : Int)) (ha : a < 2 ^ 31) (kt : a ≠ 0 → WF l E own cc nL ret rm ini Xt QQ w0 ce sl tgt lv st w) (kf : a = 0 → WF l E own cc nL ret rm ini Xt QQ w0 ce sl (pc + 3) lv st w) : WF l E own cc nL ret rm ini Xt QQ w0 ce sl pc lv (.int (nI a) :: st) w :=
  wf_if_ne tgt d ht (fun h => kt (fun e => h (by rw [e]; exact nI_0))) (fun h => kf ((nI_eq ha (by decide)).mp (h.trans nI_0.symm)))
def bI (b : Bool) : Int32 := if b = true then 1 else 0
theorem bI_t : bI true = 1 := rfl
theorem bI_f : bI false = 0 := rfl
theorem bI_nar (b : Bool) : narrow .boolean (.int (bI b)) = .int (bI b) := by cases b <;> rfl
theorem bI_fit (b : Bool) : fits .boolean (.int (bI b)) = true := by cases b <;> rfl
theorem wf_if_eq_b {b : Bool} {off : Int} (tgt : Nat) (d : decode cc pc = .ok (.ifCond .eq off, 3)) (ht : (pc : Int) + off = (tgt : Int)) (kt : b = false → WF l E own cc nL ret rm ini Xt QQ w0 ce sl tgt lv st w) (kf : b = true → WF l E own cc nL ret rm ini Xt QQ w0 ce sl (pc + 3) lv st w) : WF l E own cc nL ret rm ini Xt QQ w0 ce sl pc lv (.int (bI b) :: st) w := by
  cases b
  · exact wf_if_eq tgt d ht (fun _ => kt rfl) (fun h => absurd rfl h)
  · exact wf_if_eq tgt d ht (fun h => absurd h (by decide)) (fun _ => kf rfl)
theorem wf_if_ne_b {b : Bool} {off : Int} (tgt : Nat) (d : decode cc pc = .ok (.ifCond .ne off, 3)) (ht : (pc : Int) + off = (tgt : Int)) (kt : b = true → WF l E own cc nL ret rm ini Xt QQ w0 ce sl tgt lv st w) (kf : b = false → WF l E own cc nL ret rm ini Xt QQ w0 ce sl (pc + 3) lv st w) : WF l E own cc nL ret rm ini Xt QQ w0 ce sl pc lv (.int (bI b) :: st) w := by
  cases b
  · exact wf_if_ne tgt d ht (fun h => absurd rfl h) (fun _ => kf rfl)
  · exact wf_if_ne tgt d ht (fun _ => kt rfl) (fun h => absurd h (by decide))
theorem wf_tableIn {dflt lo hi : Int} {offs : Array Int} {len : Nat} {x : Int32} {off : Int} (tgt : Nat) (d : decode cc pc = .ok (.tableswitch dflt lo hi offs, len)) (h1 : ¬ x.toInt < lo) (h2 : ¬ hi < x.toInt) (ho : offs[(x.toInt - lo).toNat]? = some off) (ht : (pc : Int) + off = (tgt : Int)) (k : WF l E own cc nL ret rm ini Xt QQ w0 ce sl tgt lv st w) : WF l E own cc nL ret rm ini Xt QQ w0 ce sl pc lv (.int x :: st) w := by
  intro p e s m args below meth c H locs ls hC hl hP hD hS
  obtain ⟨hx, hb, hml, hown, hts, hr, hlk, hEK, hES, hin, hXt⟩ := id hC
  exact lv_tableIn hx hb d h1 h2 ho ht (k p e s m args below meth c H locs ls hC hl hP hD hS)
theorem wf_tableOut {dflt lo hi : Int} {offs : Array Int} {len : Nat} {x : Int32} (tgt : Nat) (d : decode cc pc = .ok (.tableswitch dflt lo hi offs, len)) (h : x.toInt < lo ∨ hi < x.toInt) (ht : (pc : Int) + dflt = (tgt : Int)) (k : WF l E own cc nL ret rm ini Xt QQ w0 ce sl tgt lv st w) : WF l E own cc nL ret rm ini Xt QQ w0 ce sl pc lv (.int x :: st) w := by
  intro p e s m args below meth c H locs ls hC hl hP hD hS
  obtain ⟨hx, hb, hml, hown, hts, hr, hlk, hEK, hES, hin, hXt⟩ := id hC
  exact lv_tableOut hx hb d h ht (k p e s m args below meth c H locs ls hC hl hP hD hS)
theorem wf_lookup {dflt : Int} {ps : Array (Int × Int)} {len : Nat} {x : Int32} {off : Int} (tgt : Nat) (d : decode cc pc = .ok (.lookupswitch dflt ps, len)) (hp : (ps.toList.zip (ps.toList.drop 1)).all (fun (a, next) => a.1 < next.1) = true) (ho : Op.lookupswitch.offset ps.toList dflt x.toInt = off) (ht : (pc : Int) + off = (tgt : Int)) (k : WF l E own cc nL ret rm ini Xt QQ w0 ce sl tgt lv st w) : WF l E own cc nL ret rm ini Xt QQ w0 ce sl pc lv (.int x :: st) w := by
  intro p e s m args below meth c H locs ls hC hl hP hD hS
  obtain ⟨hx, hb, hml, hown, hts, hr, hlk, hEK, hES, hin, hXt⟩ := id hC
  exact lv_lookup hx hb d hp ho ht (k p e s m args below meth c H locs ls hC hl hP hD hS)
theorem wf_getf {C : String} {T : u_T} {N ci i a : Nat} {fs : List Value} {v : Value} (q0 k0 : Nat) (hin : ∀ w ∈ u_ws C T N, w ∈ TBg) (he : w[q0]? = some (a, .inr (ci, fs))) (hc : vwCl[ci]? = some (C, T, N)) (hk : k0 < N) (hlink : Cond.fieldLink own i (T k0).1 (T k0).2.1 (T k0).2.2.1 ∈ TBg) (hv : fs[k0]? = some v) (d : decode cc pc = .ok (.getfield i, 3)) (k : WF l E own cc nL ret rm ini Xt QQ w0 ce sl (pc + 3) lv (v :: st) w) : WF l E own cc nL ret rm ini Xt QQ w0 ce sl pc lv (.ref a :: st) w := by
  intro p e s m args below meth c H locs ls hC hl hP hD hS
  obtain ⟨hx, hb, hml, hown, hts, hr, hlk, hEK, hES, hni, hXt⟩ := id hC
  exact va_get hx hb hts hin hown hEK.1 hP q0 he hc k0 hk (hts _ hlink) (fun _ h => h) hv d (k p e s m args below meth c H locs ls hC hl hP hD hS)
theorem wf_putf {C : String} {T : u_T} {N ci i a : Nat} {fs : List Value} {v : Value} {ty : FieldType} (q0 k0 : Nat) (w' : va_W) (ty0 : Nat → FieldType) (hin : ∀ w ∈ u_ws C T N, w ∈ TBg) (hty : ∀ k, k < N → parseFieldDescriptor (T k).2.2.1 = some (ty0 k)) (hnm : ∀ a, a < N → ∀ b, b < N → a ≠ b → (T a).2.1 ≠ (T b).2.1) (he : w[q0]? = some (a, .inr (ci, fs))) (hc : vwCl[ci]? = some (C, T, N)) (hk : k0 < N) (hlink : Cond.fieldLink own i (T k0).1 (T k0).2.1 (T k0).2.2.1 ∈ TBg) (hfin : (T k0).2.2.2 = false) (hd : parseFieldDescriptor (T k0).2.2.1 = some ty) (hn : narrow ty v = v) (hfit : fits ty v = true) (hll : k0 < fs.length) (hw : w.set q0 (a, .inr (ci, fs.set k0 v)) = w') (d : decode cc pc = .ok (.putfield i, 3)) (k : WF l E own cc nL ret rm ini Xt QQ w0 ce sl (pc + 3) lv st w') : WF l E own cc nL ret rm ini Xt QQ w0 ce sl pc lv (v :: .ref a :: st) w := by
  intro p e s m args below meth c H locs ls hC hl hP hD hS
  obtain ⟨hx, hb, hml, hown, hts, hr, hlk, hEK, hES, hni, hXt⟩ := id hC
  subst hw
  exact va_put hx hb hts hin ty0 hty hnm hown hEK.1 hP hD hS q0 he hc k0 hk (hts _ hlink) (fun _ h => h) hfin hd hn hfit hll d (fun H locs hP hD hS => k p e s m args below meth c H locs ls hC hl hP hD hS)
theorem wf_putF {C : String} {T : u_T} {N ci i a : Nat} {fs : List Value} {v : Value} {ty : FieldType} (q0 k0 : Nat) (w' : va_W) (ty0 : Nat → FieldType) (hini : ini = true) (hin : ∀ w ∈ u_ws C T N, w ∈ TBg) (hty : ∀ k, k < N → parseFieldDescriptor (T k).2.2.1 = some (ty0 k)) (hnm : ∀ a, a < N → ∀ b, b < N → a ≠ b → (T a).2.1 ≠ (T b).2.1) (he : w[q0]? = some (a, .inr (ci, fs))) (hc : vwCl[ci]? = some (C, T, N)) (hk : k0 < N) (hlink : Cond.fieldLink own i (T k0).1 (T k0).2.1 (T k0).2.2.1 ∈ TBg) (hfin : (T k0).2.2.2 = true) (howns : (T k0).1 = own) (hd : parseFieldDescriptor (T k0).2.2.1 = some ty) (hn : narrow ty v = v) (hfit : fits ty v = true) (hll : k0 < fs.length) (hw : w.set q0 (a, .inr (ci, fs.set k0 v)) = w') (d : decode cc pc = .ok (.putfield i, 3)) (k : WF l E own cc nL ret rm ini Xt QQ w0 ce sl (pc + 3) lv st w') : WF l E own cc nL ret rm ini Xt QQ w0 ce sl pc lv (v :: .ref a :: st) w := by
  intro p e s m args below meth c H locs ls hC hl hP hD hS
  obtain ⟨hx, hb, hml, hown, hts, hr, hlk, hEK, hES, hni, hXt⟩ := id hC
  subst hw
  exact va_putF hx hb hts hin ty0 hty hnm hown hEK.1 hP hD hS q0 he hc k0 hk (hts _ hlink) (fun _ h => h) hfin (hni hini) howns hd hn hfit hll d (fun H locs hP hD hS => k p e s m args below meth c H locs ls hC hl hP hD hS)
theorem wf_iald {a n : Nat} {f : Nat → Int32} {i : Int32} (v : Int32) (q0 : Nat) (he : w[q0]? = some (a, .inl (E.2.1.1, n, .inl f))) (hi : vp_in i n) (hv : f i.toNatClampNeg = v) (d : decode cc pc = .ok (.iaload, 1)) (k : WF l E own cc nL ret rm ini Xt QQ w0 ce sl (pc + 1) lv (.int v :: st) w) : WF l E own cc nL ret rm ini Xt QQ w0 ce sl pc lv (.int i :: .ref a :: st) w := by
  intro p e s m args below meth c H locs ls hC hl hP hD hS
  obtain ⟨hx, hb, hml, hown, hts, hr, hlk, hEK, hES, hin, hXt⟩ := id hC
  subst hv
  exact va_iald hx hb hEK.1 hP q0 0 he rfl hi d (k p e s m args below meth c H locs ls hC hl hP hD hS)
theorem wf_iald_n {a n j : Nat} {f : Nat → Int32} (v : Int32) (q0 : Nat) (he : w[q0]? = some (a, .inl (E.2.1.1, n, .inl f))) (hj : j < n) (hn : n ≤ 1024) (hv : f j = v) (d : decode cc pc = .ok (.iaload, 1)) (k : WF l E own cc nL ret rm ini Xt QQ w0 ce sl (pc + 1) lv (.int v :: st) w) : WF l E own cc nL ret rm ini Xt QQ w0 ce sl pc lv (.int (nI j) :: .ref a :: st) w :=
  wf_iald v q0 he (vp_in_nI hj (by omega)) (by rw [nI_clamp (by omega)]; exact hv) d k
theorem wf_iast {a n : Nat} {f : Nat → Int32} {i x : Int32} (w' : va_W) (q0 : Nat) (he : w[q0]? = some (a, .inl (E.2.1.1, n, .inl f))) (hi : vp_in i n) (hw : w.set q0 (a, .inl (E.2.1.1, n, .inl (upd f i.toNatClampNeg x))) = w') (d : decode cc pc = .ok (.iastore, 1)) (k : WF l E own cc nL ret rm ini Xt QQ w0 ce sl (pc + 1) lv st w') : WF l E own cc nL ret rm ini Xt QQ w0 ce sl pc lv (.int x :: .int i :: .ref a :: st) w := by
  intro p e s m args below meth c H locs ls hC hl hP hD hS
  obtain ⟨hx, hb, hml, hown, hts, hr, hlk, hEK, hES, hin, hXt⟩ := id hC
  subst hw
  exact va_iast hx hb hEK.1 hP hD hS q0 0 he rfl hi d (fun H locs hP hD hS => k p e s m args below meth c H locs ls hC hl hP hD hS)
theorem wf_iast_n {a n j : Nat} {f : Nat → Int32} {x : Int32} (w' : va_W) (q0 : Nat) (he : w[q0]? = some (a, .inl (E.2.1.1, n, .inl f))) (hj : j < n) (hn : n ≤ 1024) (hw : w.set q0 (a, .inl (E.2.1.1, n, .inl (upd f j x))) = w') (d : decode cc pc = .ok (.iastore, 1)) (k : WF l E own cc nL ret rm ini Xt QQ w0 ce sl (pc + 1) lv st w') : WF l E own cc nL ret rm ini Xt QQ w0 ce sl pc lv (.int x :: .int (nI j) :: .ref a :: st) w :=
  wf_iast w' q0 he (vp_in_nI hj (by omega)) (by rw [nI_clamp (by omega)]; exact hw) d k
theorem wf_cald_n {a n j : Nat} {f : Nat → Int32} (v : Int32) (q0 : Nat) (he : w[q0]? = some (a, .inl (E.2.1.2.1, n, .inl f))) (hj : j < n) (hn : n ≤ 1024) (hv : f j = v) (d : decode cc pc = .ok (.caload, 1)) (k : WF l E own cc nL ret rm ini Xt QQ w0 ce sl (pc + 1) lv (.int v :: st) w) : WF l E own cc nL ret rm ini Xt QQ w0 ce sl pc lv (.int (nI j) :: .ref a :: st) w := by
  intro p e s m args below meth c H locs ls hC hl hP hD hS
  obtain ⟨hx, hb, hml, hown, hts, hr, hlk, hEK, hES, hin, hXt⟩ := id hC
  subst hv
  have hk := k p e s m args below meth c H locs ls hC hl hP hD hS
  rw [show f j = f (nI j).toNatClampNeg by rw [nI_clamp (by omega)]] at hk
  exact va_cald hx hb hEK.1 hP q0 1 he rfl (vp_in_nI hj (by omega)) d hk
theorem wf_cast_n {a n j : Nat} {f : Nat → Int32} {x : Int32} (w' : va_W) (q0 : Nat) (he : w[q0]? = some (a, .inl (E.2.1.2.1, n, .inl f))) (hj : j < n) (hn : n ≤ 1024) (hx0 : vp_nar .char x = x) (hw : w.set q0 (a, .inl (E.2.1.2.1, n, .inl (upd f j x))) = w') (d : decode cc pc = .ok (.castore, 1)) (k : WF l E own cc nL ret rm ini Xt QQ w0 ce sl (pc + 1) lv st w') : WF l E own cc nL ret rm ini Xt QQ w0 ce sl pc lv (.int x :: .int (nI j) :: .ref a :: st) w := by
  intro p e s m args below meth c H locs ls hC hl hP hD hS
  obtain ⟨hx, hb, hml, hown, hts, hr, hlk, hEK, hES, hin, hXt⟩ := id hC
  subst hw
  refine va_cast hx hb hEK.1 hP hD hS q0 1 he rfl (vp_in_nI hj (by omega)) d (fun H locs hP hD hS => ?_)
  rw [nI_clamp (by omega), hx0] at hP hD
  exact k p e s m args below meth c H locs ls hC hl hP hD hS
theorem wf_aald_n {a n j b : Nat} {f : Nat → Option Nat} (q0 : Nat) (he : w[q0]? = some (a, .inl (E.2.1.2.2, n, .inr (.inr (.inr (.inr f)))))) (hj : j < n) (hn : n ≤ 1024) (hv : f j = some b) (d : decode cc pc = .ok (.aaload, 1)) (k : WF l E own cc nL ret rm ini Xt QQ w0 ce sl (pc + 1) lv (.ref b :: st) w) : WF l E own cc nL ret rm ini Xt QQ w0 ce sl pc lv (.int (nI j) :: .ref a :: st) w := by
  intro p e s m args below meth c H locs ls hC hl hP hD hS
  obtain ⟨hx, hb, hml, hown, hts, hr, hlk, hEK, hES, hin, hXt⟩ := id hC
  have hk := k p e s m args below meth c H locs ls hC hl hP hD hS
  rw [show Value.ref b = va_rf (f (nI j).toNatClampNeg) by rw [nI_clamp (by omega), hv]; rfl] at hk
  exact va_aldq hx hb hEK.1 hP q0 2 he rfl (vp_in_nI hj (by omega)) d hk
theorem wf_alen {a t0 : Nat} {cA : ClassId} {z : vp_A} {ty : FieldType} (v : Int32) (q0 : Nat) (he : w[q0]? = some (a, .inl (cA, z))) (ht : (tysE E)[t0]? = some (cA, ty)) (hv : Int32.ofNat z.1 = v) (d : decode cc pc = .ok (.arraylength, 1)) (k : WF l E own cc nL ret rm ini Xt QQ w0 ce sl (pc + 1) lv (.int v :: st) w) : WF l E own cc nL ret rm ini Xt QQ w0 ce sl pc lv (.ref a :: st) w := by
  intro p e s m args below meth c H locs ls hC hl hP hD hS
  obtain ⟨hx, hb, hml, hown, hts, hr, hlk, hEK, hES, hin, hXt⟩ := id hC
  exact va_alen hx hb hEK.1 hP q0 t0 he ht hv d (k p e s m args below meth c H locs ls hC hl hP hD hS)

/-! calls: which words each needs -/
def CVw (own : String) (i : Nat) (y : MethodName) (b : ByteArray) (mL : Nat) (ret : Option FieldType) (n : Nat) : Prop :=
  Cond.methodLink own i y ∈ TBg ∧ Cond.instanceMethod y ∈ TBg ∧ Cond.selects y.cls y y ∈ TBg ∧ Cond.initialized y.cls ∈ TBg ∧ Cond.code y b mL ret ∈ TBg ∧ (y.cls ≠ "java/lang/invoke/MethodHandle" ∧ y.cls ≠ "java/lang/invoke/VarHandle" ∧ (parseMethodDescriptor y.desc).map (fun d => d.parameters.length) = some n)
def CSw (own : String) (i : Nat) (y : MethodName) (b : ByteArray) (mL : Nat) (ret : Option FieldType) (n : Nat) : Prop :=
  Cond.methodLink own i y ∈ TBg ∧ Cond.static y ∈ TBg ∧ Cond.initialized y.cls ∈ TBg ∧ Cond.code y b mL ret ∈ TBg ∧ (y.cls ≠ "java/lang/invoke/MethodHandle" ∧ y.cls ≠ "java/lang/invoke/VarHandle" ∧ (parseMethodDescriptor y.desc).map (fun d => d.parameters.length) = some n)
def CIw (own : String) (i : Nat) (y : MethodName) (b : ByteArray) (mL : Nat) (n : Nat) : Prop :=
  Cond.methodLink own i y ∈ TBg ∧ Cond.instanceMethod y ∈ TBg ∧ Cond.initialized y.cls ∈ TBg ∧ Cond.code y b mL none ∈ TBg ∧ y.name = "<init>" ∧ (y.cls ≠ "java/lang/invoke/MethodHandle" ∧ y.cls ≠ "java/lang/invoke/VarHandle" ∧ (parseMethodDescriptor y.desc).map (fun d => d.parameters.length) = some n)
def CNIw (own : String) (i : Nat) (y : MethodName) (host : String) (b : ByteArray) (mL : Nat) (n : Nat) : Prop :=
  (own, i, y, host) ∈ nestW ∧ Cond.instanceMethod y ∈ TBg ∧ Cond.initialized y.cls ∈ TBg ∧ Cond.code y b mL none ∈ TBg ∧ y.name = "<init>" ∧ (y.cls ≠ "java/lang/invoke/MethodHandle" ∧ y.cls ≠ "java/lang/invoke/VarHandle" ∧ (parseMethodDescriptor y.desc).map (fun d => d.parameters.length) = some n)
def CNSw (own : String) (i : Nat) (y : MethodName) (host : String) (b : ByteArray) (mL : Nat) (ret : Option FieldType) (n : Nat) : Prop :=
  (own, i, y, host) ∈ nestW ∧ Cond.static y ∈ TBg ∧ Cond.initialized y.cls ∈ TBg ∧ Cond.code y b mL ret ∈ TBg ∧ (y.cls ≠ "java/lang/invoke/MethodHandle" ∧ y.cls ≠ "java/lang/invoke/VarHandle" ∧ (parseMethodDescriptor y.desc).map (fun d => d.parameters.length) = some n)
/-- x is what the instruction names (of class Sparrow), y what runs for a receiver of class C -/
def CUw (own : String) (i : Nat) (C : String) (x y : MethodName) (b : ByteArray) (mL : Nat) (ret : Option FieldType) (n : Nat) : Prop :=
  Cond.methodLink own i x ∈ TBg ∧ Cond.sameMethod x.cls x.cls x.name x.desc ∈ TBg ∧ Cond.selects C x y ∈ TBg ∧ Cond.instanceMethod y ∈ TBg ∧ Cond.initialized y.cls ∈ TBg ∧ Cond.code y b mL ret ∈ TBg ∧ Cond.instanceMethod x ∈ TBg ∧ (∃ b0 m0 r0, Cond.code x b0 m0 r0 ∈ TBg) ∧ (x.cls ≠ "java/lang/invoke/MethodHandle" ∧ x.cls ≠ "java/lang/invoke/VarHandle" ∧ (parseMethodDescriptor x.desc).map (fun d => d.parameters.length) = some n)
theorem ent_blind {as : List Value} {sz : Nat} : FrameBlind (va_Pc as (Ent E w sz)) := fun a U g mk q => by
  obtain ⟨q0, q1, qP, qD, qK, qS⟩ := q
  exact ⟨q0, q1, qP, qD, qK.same rfl, ES.moved (u := U) (Vm.Alike.refl U.vm) qS⟩
theorem in_A {A0 : Nat → Prop} {s : State} {H : Heap} {locs : List Loc} (hD : va_D (va_A w0 s.heap.size) w) (hS : va_S (va_A w0 s.heap.size) s.heap H locs) : ∀ q, va_A w H.size q → va_A w0 s.heap.size q := by
  intro q h
  rcases h with ⟨k, e, h⟩ | h
  · exact hD.2 k _ h
  · exact Or.inr (Nat.le_trans hS.1 h)
/-- the callee's start out of where the caller stands -/
theorem ent_call {p : Program} {s U : State} {m : MethodId} {args : Array Value} {meth : Method} {c : Code} {H : Heap} {locs : List Loc} {as : List Value} (hC : Cx p s m args meth c E own cc nL ret ini Xt w0) (hP : va_P E.1 vwCl w H) (hD : va_D (va_A w0 s.heap.size) w) (hS : va_S (va_A w0 s.heap.size) s.heap H locs) (hU : U.heap = H) (hW : s.WarmedH U.vm) : va_Pc as (Ent E w H.size) as.toArray U := by
  obtain ⟨hx, hb, hml, hown, hts, hr, hlk, hEK, hES, hni, hXt⟩ := hC
  refine ⟨rfl, by rw [hU], by rw [hU]; exact hP, hD.weaken (fun _ _ _ _ => trivial), hEK.warm hW, ?_⟩
  rw [hU]
  exact ES.moved hW.alike ((hES.kept hS.2.1).narrow (in_A (A0 := fun _ => True) hD hS))
/-- behind a call -/
theorem wf_back {p : Program} {e : Env} {s : State} {m : MethodId} {args : Array Value} {below : List Frame} {meth : Method} {c : Code} {H : Heap} {locs : List Loc} {ls : Array Slot} {mc ms : Nat} {rest : List Value} {Post : Option Value → va_W → Prop} {a : Array Value}
    (hr : va_Run p l e rm s m args below meth c H locs ce sl mc ms (F0 m pc ls st) rest (EndW E w H.size Post a) (va_A w H.size)) (hC : Cx p s m args meth c E own cc nL ret ini Xt w0) (hl : lv_has ls nL lv) (hD : va_D (va_A w0 s.heap.size) w) (hS : va_S (va_A w0 s.heap.size) s.heap H locs)
    (k : ∀ v w2, Post v w2 → WF l E own cc nL ret rm ini Xt QQ w0 (ce + mc) (sl + ms) (pc + 3) lv (v.toList ++ rest) w2) : W p l e rm s m args below meth c H locs ce sl (QQ below args s) (F0 m pc ls st) := by
  have hA := in_A (A0 := fun _ => True) hD hS
  intro T hT X
  obtain ⟨v, st₀, t, T', L, h0, X', hL, e1, e2, ⟨⟨v', w2, hv, hp, hP2, hD2⟩, hz, hk⟩, stp⟩ := hr T hT X
  cases hv
  rw [h0] at hz hk
  obtain ⟨t2, a1, b1⟩ := k v w2 hp p e s m args below meth c T'.heap (locs ++ L) ls hC hl (by rw [e1]; exact hP2) (hD2.weaken (fun _ q _ h => hA q.1 h))
    ⟨Nat.le_trans hS.1 (by rw [e1]; exact hz), fun q h1 h2 => by rw [e1, hk q (Nat.lt_of_lt_of_le h1 hS.1) (fun z => h2 (hA q z))]; exact hS.2.1 q h1 h2, fun q hq => by
      rcases List.mem_append.mp hq with h | h
      · exact hS.2.2 q h
      · exact hA _ (hL q h)⟩ T' rfl X'
  exact ⟨t2, stp t2 a1, b1⟩
theorem wf_callV {i n a ci mL : Nat} {y : MethodName} {b : ByteArray} {ret2 : Option FieldType} {rm2 : Room} {As rest : List Value} {Post : Option Value → va_W → Prop} {fs : List Value} {T : u_T} {N : Nat} (q0 : Nat) (hM : CT l E y b mL ret2 rm2 (.ref a :: As) w Post) (hk : CVw own i y b mL ret2 n) (hn : As.length = n) (hR : rm2.frames + 1 ≤ rm.frames ∧ 8 + (mL + 11) + rm2.locals ≤ rm.locals) (hcs : ce + rm2.cells ≤ rm.cells ∧ sl + rm2.slots ≤ rm.slots) (hcat : (rest.map fun v => v.category).sum ≤ 8) (he : w[q0]? = some (a, .inr (ci, fs))) (hc : vwCl[ci]? = some (y.cls, T, N)) (hst : st = As.reverse ++ .ref a :: rest) (d : decode cc pc = .ok (.invokevirtual i, 3))
    (k : ∀ v w2, Post v w2 → WF l E own cc nL ret rm ini Xt QQ w0 (ce + rm2.cells) (sl + rm2.slots) (pc + 3) lv (v.toList ++ rest) w2) : WF l E own cc nL ret rm ini Xt QQ w0 ce sl pc lv st w := by
  intro p e s m args below meth c H locs ls hC hl hP hD hS
  obtain ⟨hx, hb, hml, hown, hts, hr, hlk, hEK, hES, hin, hXt⟩ := id hC
  obtain ⟨k1, k2, k3, k4, k5, k6, k7, k8⟩ := hk
  refine wf_back (va_runV (C := y.cls) (As := As) (rest := rest) ⟨hx, hb, hml, hown, hts⟩ (hM H.size) ⟨callB_of n hts (gi_tb k5) rfl rfl rfl (hts _ k4) (hts _ k1) ⟨k6, k7, k8⟩ hR, hts _ k2, hts _ k3⟩ ⟨ent_blind, va_recv hEK.1 hP hc he, fun U hU hW => ent_call hC hP hD hS hU hW⟩ rfl hn hl.1 hst (lv_room hcat) d hcs) hC hl hD hS k
theorem wf_callU {i n a ci mL : Nat} {C : String} {x y : MethodName} {b : ByteArray} {ret2 : Option FieldType} {rm2 : Room} {As rest : List Value} {Post : Option Value → va_W → Prop} {fs : List Value} {T : u_T} {N : Nat} (q0 : Nat) (hM : CT l E y b mL ret2 rm2 (.ref a :: As) w Post) (hk : CUw own i C x y b mL ret2 n) (hn : As.length = n) (hR : rm2.frames + 1 ≤ rm.frames ∧ 8 + (mL + 11) + rm2.locals ≤ rm.locals) (hcs : ce + rm2.cells ≤ rm.cells ∧ sl + rm2.slots ≤ rm.slots) (hcat : (rest.map fun v => v.category).sum ≤ 8) (he : w[q0]? = some (a, .inr (ci, fs))) (hc : vwCl[ci]? = some (C, T, N)) (hst : st = As.reverse ++ .ref a :: rest) (d : decode cc pc = .ok (.invokevirtual i, 3))
    (k : ∀ v w2, Post v w2 → WF l E own cc nL ret rm ini Xt QQ w0 (ce + rm2.cells) (sl + rm2.slots) (pc + 3) lv (v.toList ++ rest) w2) : WF l E own cc nL ret rm ini Xt QQ w0 ce sl pc lv st w := by
  intro p e s m args below meth c H locs ls hC hl hP hD hS
  obtain ⟨hx, hb, hml, hown, hts, hr, hlk, hEK, hES, hin, hXt⟩ := id hC
  obtain ⟨k1, k2, k3, k4, k5, k6, k7, ⟨b0, m0, r0, k8⟩, k9, k10, k11⟩ := hk
  have hG := gi_tb k6
  refine wf_back (va_runU (C := C) (owner := x.cls) (x := x) (As := As) (rest := rest) ⟨hx, hb, hml, hown, hts⟩ (hM H.size) ⟨⟨rfl, rfl, hR.1, hR.2, pay_in hts hG, List.mem_cons_self⟩, hts _ k6, hts _ k5, ⟨k9, k10⟩, fun sig h => ?_, hts _ k1, hts _ k2, va_Decl.of (hts _ k7) (hts _ k8), hts _ k3, hts _ k4⟩ ⟨ent_blind, va_recv hEK.1 hP hc he, fun U hU hW => ent_call hC hP hD hS hU hW⟩ rfl hn hl.1 hst (lv_room hcat) d hcs) hC hl hD hS k
  rw [h] at k11
  exact (Option.some.inj k11).symm
theorem wf_callS {i n mL : Nat} {y : MethodName} {b : ByteArray} {ret2 : Option FieldType} {rm2 : Room} {As rest : List Value} {Post : Option Value → va_W → Prop} (hM : CT l E y b mL ret2 rm2 As w Post) (hk : CSw own i y b mL ret2 n) (hn : As.length = n) (hR : rm2.frames + 1 ≤ rm.frames ∧ 8 + (mL + 11) + rm2.locals ≤ rm.locals) (hcs : ce + rm2.cells ≤ rm.cells ∧ sl + rm2.slots ≤ rm.slots) (hcat : (rest.map fun v => v.category).sum ≤ 8) (hst : st = As.reverse ++ rest) (d : decode cc pc = .ok (.invokestatic i, 3))
    (k : ∀ v w2, Post v w2 → WF l E own cc nL ret rm ini Xt QQ w0 (ce + rm2.cells) (sl + rm2.slots) (pc + 3) lv (v.toList ++ rest) w2) : WF l E own cc nL ret rm ini Xt QQ w0 ce sl pc lv st w := by
  intro p e s m args below meth c H locs ls hC hl hP hD hS
  obtain ⟨hx, hb, hml, hown, hts, hr, hlk, hEK, hES, hin, hXt⟩ := id hC
  obtain ⟨k1, k2, k4, k5, k6, k7, k8⟩ := hk
  refine wf_back (va_runS (As := As) (rest := rest) ⟨hx, hb, hml, hown, hts⟩ (hM H.size) ⟨callB_of n hts (gi_tb k5) rfl rfl rfl (hts _ k4) (hts _ k1) ⟨k6, k7, k8⟩ hR, hts _ k2⟩ ⟨ent_blind, fun U hU hW => ent_call hC hP hD hS hU hW⟩ rfl hn hl.1 hst (lv_room hcat) d hcs) hC hl hD hS k
theorem wf_callNS {i n mL : Nat} {y : MethodName} {host : String} {b : ByteArray} {ret2 : Option FieldType} {rm2 : Room} {As rest : List Value} {Post : Option Value → va_W → Prop} (hM : CT l E y b mL ret2 rm2 As w Post) (hk : CNSw own i y host b mL ret2 n) (hn : As.length = n) (hR : rm2.frames + 1 ≤ rm.frames ∧ 8 + (mL + 11) + rm2.locals ≤ rm.locals) (hcs : ce + rm2.cells ≤ rm.cells ∧ sl + rm2.slots ≤ rm.slots) (hcat : (rest.map fun v => v.category).sum ≤ 8) (hst : st = As.reverse ++ rest) (d : decode cc pc = .ok (.invokestatic i, 3))
    (k : ∀ v w2, Post v w2 → WF l E own cc nL ret rm ini Xt QQ w0 (ce + rm2.cells) (sl + rm2.slots) (pc + 3) lv (v.toList ++ rest) w2) : WF l E own cc nL ret rm ini Xt QQ w0 ce sl pc lv st w := by
  intro p e s m args below meth c H locs ls hC hl hP hD hS
  obtain ⟨hx, hb, hml, hown, hts, hr, hlk, hEK, hES, hin, hXt⟩ := id hC
  obtain ⟨k1, k2, k4, k5, k6, k7, k8⟩ := hk
  refine wf_back (va_runSN (host := host) (As := As) (rest := rest) ⟨hx, hb, hml, hown, hts⟩ (hM H.size) ⟨va_cnB n hts (gi_tb k5) rfl rfl rfl (hEK.2.1 _ k1) (hts _ k4) ⟨k6, k7, k8⟩ hR, hts _ k2, trivial⟩ ⟨ent_blind, fun U hU hW => ent_call hC hP hD hS hU hW⟩ rfl hn hl.1 hst (lv_room hcat) d hcs) hC hl hD hS k
theorem wf_callI {i n a mL : Nat} {y : MethodName} {b : ByteArray} {rm2 : Room} {As rest : List Value} {Post : Option Value → va_W → Prop} (hM : CT l E y b mL none rm2 (.ref a :: As) w Post) (hk : CIw own i y b mL n) (hn : As.length = n) (hR : rm2.frames + 1 ≤ rm.frames ∧ 8 + (mL + 11) + rm2.locals ≤ rm.locals) (hcs : ce + rm2.cells ≤ rm.cells ∧ sl + rm2.slots ≤ rm.slots) (hcat : (rest.map fun v => v.category).sum ≤ 8) (hst : st = As.reverse ++ .ref a :: rest) (d : decode cc pc = .ok (.invokespecial i, 3))
    (k : ∀ v w2, Post v w2 → WF l E own cc nL ret rm ini Xt QQ w0 (ce + rm2.cells) (sl + rm2.slots) (pc + 3) lv (v.toList ++ rest) w2) : WF l E own cc nL ret rm ini Xt QQ w0 ce sl pc lv st w := by
  intro p e s m args below meth c H locs ls hC hl hP hD hS
  obtain ⟨hx, hb, hml, hown, hts, hr, hlk, hEK, hES, hin, hXt⟩ := id hC
  obtain ⟨k1, k2, k4, k5, k9, k6, k7, k8⟩ := hk
  refine wf_back (va_runI (As := As) (rest := rest) ⟨hx, hb, hml, hown, hts⟩ (hM H.size) ⟨callB_of n hts (gi_tb k5) rfl rfl rfl (hts _ k4) (hts _ k1) ⟨k6, k7, k8⟩ hR, k9, hts _ k2⟩ ⟨ent_blind, fun U hU hW => ent_call (as := .ref a :: As) hC hP hD hS hU hW⟩ rfl hn hl.1 hst (lv_room hcat) d hcs) hC hl hD hS k
theorem wf_callNI {i n a mL : Nat} {y : MethodName} {host : String} {b : ByteArray} {rm2 : Room} {As rest : List Value} {Post : Option Value → va_W → Prop} (hM : CT l E y b mL none rm2 (.ref a :: As) w Post) (hk : CNIw own i y host b mL n) (hn : As.length = n) (hR : rm2.frames + 1 ≤ rm.frames ∧ 8 + (mL + 11) + rm2.locals ≤ rm.locals) (hcs : ce + rm2.cells ≤ rm.cells ∧ sl + rm2.slots ≤ rm.slots) (hcat : (rest.map fun v => v.category).sum ≤ 8) (hst : st = As.reverse ++ .ref a :: rest) (d : decode cc pc = .ok (.invokespecial i, 3))
    (k : ∀ v w2, Post v w2 → WF l E own cc nL ret rm ini Xt QQ w0 (ce + rm2.cells) (sl + rm2.slots) (pc + 3) lv (v.toList ++ rest) w2) : WF l E own cc nL ret rm ini Xt QQ w0 ce sl pc lv st w := by
  intro p e s m args below meth c H locs ls hC hl hP hD hS
  obtain ⟨hx, hb, hml, hown, hts, hr, hlk, hEK, hES, hin, hXt⟩ := id hC
  obtain ⟨k1, k2, k4, k5, k9, k6, k7, k8⟩ := hk
  refine wf_back (va_runIN (host := host) (As := As) (rest := rest) ⟨hx, hb, hml, hown, hts⟩ (hM H.size) ⟨va_cnB n hts (gi_tb k5) rfl rfl rfl (hEK.2.1 _ k1) (hts _ k4) ⟨k6, k7, k8⟩ hR, k9, hts _ k2⟩ ⟨ent_blind, fun U hU hW => ent_call (as := .ref a :: As) hC hP hD hS hU hW⟩ rfl hn hl.1 hst (lv_room hcat) d hcs) hC hl hD hS k
/-- an inherited member of a String constant's -/
theorem wf_callStr {i n i0 mL : Nat} {y : MethodName} {b : ByteArray} {ret2 : Option FieldType} {rm2 : Room} {As rest : List Value} {Post : Option Value → va_W → Prop} (hi0 : i0 < 5) (hM : CT l E y b mL ret2 rm2 (.ref (E.2.2.1 i0) :: As) w Post) (hk : CVw own i y b mL ret2 n) (hn : As.length = n) (hR : rm2.frames + 1 ≤ rm.frames ∧ 8 + (mL + 11) + rm2.locals ≤ rm.locals) (hcs : ce + rm2.cells ≤ rm.cells ∧ sl + rm2.slots ≤ rm.slots) (hcat : (rest.map fun v => v.category).sum ≤ 8) (hc : y.cls = "java/lang/String") (hst : st = As.reverse ++ .ref (E.2.2.1 i0) :: rest) (d : decode cc pc = .ok (.invokevirtual i, 3))
    (k : ∀ v w2, Post v w2 → WF l E own cc nL ret rm ini Xt QQ w0 (ce + rm2.cells) (sl + rm2.slots) (pc + 3) lv (v.toList ++ rest) w2) : WF l E own cc nL ret rm ini Xt QQ w0 ce sl pc lv st w := by
  intro p e s m args below meth c H locs ls hC hl hP hD hS
  obtain ⟨hx, hb, hml, hown, hts, hr, hlk, hEK, hES, hin, hXt⟩ := id hC
  obtain ⟨k1, k2, k3, k4, k5, k6, k7, k8⟩ := hk
  refine wf_back (va_runV (C := y.cls) (As := As) (rest := rest) ⟨hx, hb, hml, hown, hts⟩ (hM H.size) ⟨callB_of n hts (gi_tb k5) rfl rfl rfl (hts _ k4) (hts _ k1) ⟨k6, k7, k8⟩ hR, hts _ k2, hts _ k3⟩ ⟨ent_blind, by rw [hc]; exact vk_recv hES.1 hi0 hS, fun U hU hW => ent_call hC hP hD hS hU hW⟩ rfl hn hl.1 hst (lv_room hcat) d hcs) hC hl hD hS k
theorem wf_ldcS {i q : Nat} {tx : String} (hR : ∀ s : State, SR E.2.2.1 s → vk_R own i tx q s) (d : decode cc pc = .ok (.ldc i, 2)) (k : WF l E own cc nL ret rm ini Xt QQ w0 ce sl (pc + 2) lv (.ref q :: st) w) : WF l E own cc nL ret rm ini Xt QQ w0 ce sl pc lv st w := by
  intro p e s m args below meth c H locs ls hC hl hP hD hS
  obtain ⟨hx, hb, hml, hown, hts, hr, hlk, hEK, hES, hin, hXt⟩ := id hC
  exact va_ldcS hx hb hown (hR s hEK.2.2.1) d (k p e s m args below meth c H locs ls hC hl hP hD hS)
theorem wf_strval {i i0 : Nat} (hi0 : i0 < 5) (hlink : Cond.fieldLink own i "java/lang/String" "value" "[B" ∈ TBg) (d : decode cc pc = .ok (.getfield i, 3)) (k : WF l E own cc nL ret rm ini Xt QQ w0 ce sl (pc + 3) lv (.ref (E.2.2.2 i0) :: st) w) : WF l E own cc nL ret rm ini Xt QQ w0 ce sl pc lv (.ref (E.2.2.1 i0) :: st) w := by
  intro p e s m args below meth c H locs ls hC hl hP hD hS
  obtain ⟨hx, hb, hml, hown, hts, hr, hlk, hEK, hES, hin, hXt⟩ := id hC
  exact vk_getf hx hb (hES.1.1 i0 hi0).2.2.1 hS hown (hts _ hlink) (fun _ h => h) d (k p e s m args below meth c H locs ls hC hl hP hD hS)
theorem wf_strcoder {i i0 : Nat} (hi0 : i0 < 5) (hlink : Cond.fieldLink own i "java/lang/String" "coder" "B" ∈ TBg) (d : decode cc pc = .ok (.getfield i, 3)) (k : WF l E own cc nL ret rm ini Xt QQ w0 ce sl (pc + 3) lv (.int 0 :: st) w) : WF l E own cc nL ret rm ini Xt QQ w0 ce sl pc lv (.ref (E.2.2.1 i0) :: st) w := by
  intro p e s m args below meth c H locs ls hC hl hP hD hS
  obtain ⟨hx, hb, hml, hown, hts, hr, hlk, hEK, hES, hin, hXt⟩ := id hC
  exact vk_getf hx hb (hES.1.1 i0 hi0).2.1 hS hown (hts _ hlink) (fun _ h => h) d (k p e s m args below meth c H locs ls hC hl hP hD hS)
theorem wf_strlen {i0 : Nat} (v : Int32) (hi0 : i0 < 5) (hv : Int32.ofNat (lenS.getD i0 0) = v) (d : decode cc pc = .ok (.arraylength, 1)) (k : WF l E own cc nL ret rm ini Xt QQ w0 ce sl (pc + 1) lv (.int v :: st) w) : WF l E own cc nL ret rm ini Xt QQ w0 ce sl pc lv (.ref (E.2.2.2 i0) :: st) w := by
  intro p e s m args below meth c H locs ls hC hl hP hD hS
  obtain ⟨hx, hb, hml, hown, hts, hr, hlk, hEK, hES, hin, hXt⟩ := id hC
  exact va_tlen hx hb (hES.1.1 i0 hi0).2.2.2 hS hv d (k p e s m args below meth c H locs ls hC hl hP hD hS)
theorem wf_strbyte {i0 j : Nat} (v : Int32) (hi0 : i0 < 5) (hj : j < lenS.getD i0 0) (hn : j < 1024) (hv : (bytS.getD i0 []).getD j 0 = v) (d : decode cc pc = .ok (.baload, 1)) (k : WF l E own cc nL ret rm ini Xt QQ w0 ce sl (pc + 1) lv (.int v :: st) w) : WF l E own cc nL ret rm ini Xt QQ w0 ce sl pc lv (.int (nI j) :: .ref (E.2.2.2 i0) :: st) w := by
  intro p e s m args below meth c H locs ls hC hl hP hD hS
  obtain ⟨hx, hb, hml, hown, hts, hr, hlk, hEK, hES, hin, hXt⟩ := id hC
  have hin2 : vp_in (nI j) (lenS.getD i0 0) := by
    rw [vp_in_iff, nI_toInt (by omega)]; omega
  exact va_tb hx hb (hES.1.1 i0 hi0).2.2.2 hS hin2 (by rw [nI_clamp (by omega), hv]) d (k p e s m args below meth c H locs ls hC hl hP hD hS)
theorem wf_compact {i : Nat} (hlink : Cond.fieldLink own i "java/lang/String" "COMPACT_STRINGS" "Z" ∈ TBg) (d : decode cc pc = .ok (.getstatic i, 3)) (k : WF l E own cc nL ret rm ini Xt QQ w0 ce sl (pc + 3) lv (.int 1 :: st) w) : WF l E own cc nL ret rm ini Xt QQ w0 ce sl pc lv st w := by
  intro p e s m args below meth c H locs ls hC hl hP hD hS
  obtain ⟨hx, hb, hml, hown, hts, hr, hlk, hEK, hES, hin, hXt⟩ := id hC
  exact va_gets hx hb hES.2.1 hS hown (hts _ hlink) (fun _ h => h) d (k p e s m args below meth c H locs ls hC hl hP hD hS)
theorem wf_formatter {i : Nat} (hlink : Cond.fieldLink own i "jdk/internal/util/Preconditions" "SIOOBE_FORMATTER" "Ljava/util/function/BiFunction;" ∈ TBg) (d : decode cc pc = .ok (.getstatic i, 3)) (k0 : WF l E own cc nL ret rm ini Xt QQ w0 ce sl (pc + 3) lv (.null :: st) w) (k : ∀ q : Nat, WF l E own cc nL ret rm ini Xt QQ w0 ce sl (pc + 3) lv (.ref q :: st) w) : WF l E own cc nL ret rm ini Xt QQ w0 ce sl pc lv st w := by
  intro p e s m args below meth c H locs ls hC hl hP hD hS
  obtain ⟨hx, hb, hml, hown, hts, hr, hlk, hEK, hES, hin, hXt⟩ := id hC
  rcases hES.2.2 with h | ⟨t, h⟩
  · exact va_gets hx hb h hS hown (hts _ hlink) (fun _ h => h) d (k0 p e s m args below meth c H locs ls hC hl hP hD hS)
  · exact va_gets hx hb h hS hown (hts _ hlink) (fun _ h => h) d (k t p e s m args below meth c H locs ls hC hl hP hD hS)
theorem wf_math_min {i : Nat} {x y : Int32} (v : Int32) (hk : Cond.methodLink own i Lib.Math.min.name ∈ TBg ∧ Cond.static Lib.Math.min.name ∈ TBg ∧ Cond.initialized "java/lang/Math" ∈ TBg ∧ Cond.code Lib.Math.min.name Lib.Math.min.code 2 (some .int) ∈ TBg) (hf : 1 ≤ rm.frames) (hlo : (st.map fun v => v.category).sum + 13 ≤ rm.locals) (hc : ce ≤ rm.cells ∧ sl ≤ rm.slots) (hv : (if y < x then y else x) = v) (d : decode cc pc = .ok (.invokestatic i, 3)) (k : WF l E own cc nL ret rm ini Xt QQ w0 ce sl (pc + 3) lv (.int v :: st) w) : WF l E own cc nL ret rm ini Xt QQ w0 ce sl pc lv (.int y :: .int x :: st) w := by
  intro p e s m args below meth c H locs ls hC hl hP hD hS
  obtain ⟨hx, hb, hml, hown, hts, hr, hlk, hEK, hES, hin, hXt⟩ := id hC
  subst hv
  exact va_mmin hx hb (by rw [hml, hl.1]) hown (hts _ hk.1) (hts _ hk.2.1) (hts _ hk.2.2.1) (hts _ hk.2.2.2) hf hlo hc.1 hc.2 d (k p e s m args below meth c H locs ls hC hl hP hD hS)
theorem wf_math_max {i : Nat} {x y : Int32} (v : Int32) (hk : Cond.methodLink own i Lib.Math.max.name ∈ TBg ∧ Cond.static Lib.Math.max.name ∈ TBg ∧ Cond.initialized "java/lang/Math" ∈ TBg ∧ Cond.code Lib.Math.max.name Lib.Math.max.code 2 (some .int) ∈ TBg) (hf : 1 ≤ rm.frames) (hlo : (st.map fun v => v.category).sum + 13 ≤ rm.locals) (hc : ce ≤ rm.cells ∧ sl ≤ rm.slots) (hv : (if x < y then y else x) = v) (d : decode cc pc = .ok (.invokestatic i, 3)) (k : WF l E own cc nL ret rm ini Xt QQ w0 ce sl (pc + 3) lv (.int v :: st) w) : WF l E own cc nL ret rm ini Xt QQ w0 ce sl pc lv (.int y :: .int x :: st) w := by
  intro p e s m args below meth c H locs ls hC hl hP hD hS
  obtain ⟨hx, hb, hml, hown, hts, hr, hlk, hEK, hES, hin, hXt⟩ := id hC
  subst hv
  exact va_mmax hx hb (by rw [hml, hl.1]) hown (hts _ hk.1) (hts _ hk.2.1) (hts _ hk.2.2.1) (hts _ hk.2.2.2) hf hlo hc.1 hc.2 d (k p e s m args below meth c H locs ls hC hl hP hD hS)

theorem wf_copyi {i a a0 n0 n1 : Nat} {f g : Nat → Int32} (q0 q1 : Nat) (n : Nat) (w' : va_W) (hk : Cond.methodLink own i arraycopyName ∈ TBg ∧ Cond.native arraycopyName ∈ TBg ∧ Cond.static arraycopyName ∈ TBg ∧ Cond.initialized "java/lang/System" ∈ TBg) (he0 : w[q0]? = some (a0, .inl (E.2.1.1, n0, .inl f))) (he1 : w[q1]? = some (a, .inl (E.2.1.1, n1, .inl g))) (h4 : n ≤ n0) (h5 : n ≤ n1) (h6 : n ≤ 1024) (hf : 1 ≤ rm.frames) (hlo : (st.map fun v => v.category).sum + (nativeFrameWords "java/lang/System" "arraycopy" 5 + 11) ≤ rm.locals) (hw : w.set q1 (a, .inl (E.2.1.1, n1, .inl (va_cpy f g 0 0 n))) = w') (d : decode cc pc = .ok (.invokestatic i, 3)) (k : WF l E own cc nL ret rm ini Xt QQ w0 ce sl (pc + 3) lv st w') : WF l E own cc nL ret rm ini Xt QQ w0 ce sl pc lv (.int (nI n) :: .int (nI 0) :: .ref a :: .int (nI 0) :: .ref a0 :: st) w := by
  intro p e s m args below meth c H locs ls hC hl hP hD hS
  obtain ⟨hx, hb, hml, hown, hts, hr, hlk, hEK, hES, hin, hXt⟩ := id hC
  subst hw
  have e0 : (nI 0).toNatClampNeg = 0 := nI_clamp (by decide)
  have en : (nI n).toNatClampNeg = n := nI_clamp (by omega)
  refine va_copyi hx hb (by rw [hml, hl.1]) hown (hts _ hk.1) (hts _ hk.2.1) (hts _ hk.2.2.1) (hts _ hk.2.2.2) hEK.1 hP hD hS q0 q1 0 0 he0 he1 rfl rfl rfl (nI_pos (by decide)) (nI_pos (by decide)) (nI_pos (by omega)) (by rw [e0, en]; omega) (by rw [e0, en]; omega) (fun i hi => rfl) hf hlo d (fun H locs hP hD hS => ?_)
  rw [e0, en] at hP hD
  exact k p e s m args below meth c H locs ls hC hl hP hD hS
theorem wf_new {C : String} {T : u_T} {N ci i : Nat} (fs : List Value) (ty : Nat → FieldType) (hin : ∀ w ∈ u_ws C T N, w ∈ TBg) (hty : ∀ k, k < N → parseFieldDescriptor (T k).2.2.1 = some (ty k)) (hcl : Cond.classLink own i C ∈ TBg) (hinst : Cond.instantiable C N ∈ TBg) (hini : Cond.initialized C ∈ TBg) (hc : vwCl[ci]? = some (C, T, N)) (hfs : ∀ j, j < N → defaultValue (ty j) = vp_V fs j) (hcells : ce + 1 ≤ rm.cells) (hslots : sl + N ≤ rm.slots) (d : decode cc pc = .ok (.new i, 3))
    (k : ∀ q : Nat, WF l E own cc nL ret rm ini Xt QQ w0 (ce + 1) (sl + N) (pc + 3) lv (.ref q :: st) (w ++ [(q, .inr (ci, fs))])) : WF l E own cc nL ret rm ini Xt QQ w0 ce sl pc lv st w := by
  intro p e s m args below meth c H locs ls hC hl hP hD hS
  obtain ⟨hx, hb, hml, hown, hts, hr, hlk, hEK, hES, hni, hXt⟩ := id hC
  exact va_new hx hb hts hin ty hty hown (hts _ hcl) (hts _ hinst) (hts _ hini) hEK.1 hP hD hS (fun q h => Or.inr h) hc hfs hcells hslots d (fun q H hP hD hS => k q p e s m args below meth c H locs ls hC hl hP hD hS)
theorem wf_newi (N : Nat) (harr : Cond.arrayClass .int ∈ TBg) (hN : N ≤ 1024) (hcells : ce + 1 ≤ rm.cells) (hslots : sl + N ≤ rm.slots) (d : decode cc pc = .ok (.newarray .int, 2))
    (k : ∀ q : Nat, WF l E own cc nL ret rm ini Xt QQ w0 (ce + 1) (sl + N) (pc + 2) lv (.ref q :: st) (w ++ [(q, .inl (E.2.1.1, N, .inl (fun _ => 0)))])) : WF l E own cc nL ret rm ini Xt QQ w0 ce sl pc lv (.int (nI N) :: st) w := by
  intro p e s m args below meth c H locs ls hC hl hP hD hS
  obtain ⟨hx, hb, hml, hown, hts, hr, hlk, hEK, hES, hin, hXt⟩ := id hC
  refine va_newa (atype := .int) (ty := .int) (N' := N) (a0 := (N, .inl (fun _ => 0))) hx hb (hts _ harr) rfl hEK.1 hP hD hS (fun q h => Or.inr h) (fun cA => rfl) (nI_pos (by omega)) (nI_clamp (by omega)) (by show N * 4 ≤ _; omega) hcells hslots d (fun q cA H hK hP hD hS => ?_)
  have e1 : cA = E.2.1.1 := by
    have h1 := (hK.2 3 (cA, .int) rfl).2
    have h2 := (hK.2 0 (E.2.1.1, .int) rfl).2
    exact Option.some.inj (h1.symm.trans h2)
  subst e1
  exact k q p e s m args below meth c H locs ls hC hl hP hD hS
theorem wf_newc (N : Nat) (harr : Cond.arrayClass .char ∈ TBg) (hN : N ≤ 1024) (hcells : ce + 1 ≤ rm.cells) (hslots : sl + N ≤ rm.slots) (d : decode cc pc = .ok (.newarray .char, 2))
    (k : ∀ q : Nat, WF l E own cc nL ret rm ini Xt QQ w0 (ce + 1) (sl + N) (pc + 2) lv (.ref q :: st) (w ++ [(q, .inl (E.2.1.2.1, N, .inl (fun _ => 0)))])) : WF l E own cc nL ret rm ini Xt QQ w0 ce sl pc lv (.int (nI N) :: st) w := by
  intro p e s m args below meth c H locs ls hC hl hP hD hS
  obtain ⟨hx, hb, hml, hown, hts, hr, hlk, hEK, hES, hin, hXt⟩ := id hC
  refine va_newa (atype := .char) (ty := .char) (N' := N) (a0 := (N, .inl (fun _ => 0))) hx hb (hts _ harr) rfl hEK.1 hP hD hS (fun q h => Or.inr h) (fun cA => rfl) (nI_pos (by omega)) (nI_clamp (by omega)) (by show N * 2 ≤ _; omega) hcells hslots d (fun q cA H hK hP hD hS => ?_)
  have e1 : cA = E.2.1.2.1 := by
    have h1 := (hK.2 3 (cA, .char) rfl).2
    have h2 := (hK.2 1 (E.2.1.2.1, .char) rfl).2
    exact Option.some.inj (h1.symm.trans h2)
  subst e1
  exact k q p e s m args below meth c H locs ls hC hl hP hD hS
theorem wf_objInit {i a : Nat} (hl0 : Cond.methodLink own i objectInit ∈ TBg ∧ Cond.instanceMethod objectInit ∈ TBg ∧ Cond.code objectInit ⟨#[0xb1]⟩ 1 none ∈ TBg) (hf : 1 ≤ rm.frames) (hlo : (st.map fun v => v.category).sum + 12 ≤ rm.locals) (d : decode cc pc = .ok (.invokespecial i, 3)) (k : WF l E own cc nL ret rm ini Xt QQ w0 ce sl (pc + 3) lv st w) : WF l E own cc nL ret rm ini Xt QQ w0 ce sl pc lv (.ref a :: st) w := by
  intro p e s m args below meth c H locs ls hC hl hP hD hS
  obtain ⟨hx, hb, hml, hown, hts, hr, hlk, hEK, hES, hin, hXt⟩ := id hC
  exact W.objInit hx hb hown (hts _ hl0.1) (hts _ hl0.2.1) (hts _ hl0.2.2) rfl (by rw [hml]; exact hl.1) rfl d hf (by show 2 * 0 + _ + 12 ≤ _; omega) (k p e s m args below meth c H locs ls hC hl hP hD hS)

theorem wf_iret {Post : Option Value → va_W → Prop} {v : Int32} (ty : FieldType) (hret : ret = some ty) (hn : narrow ty (.int v) = .int v) (hc : ce = rm.cells ∧ sl = rm.slots) (hp : Post (some (.int v)) w) (d : decode cc pc = .ok (.ireturn, 1)) : WF l E own cc nL ret rm ini Xt (QM E w0 Post rm) w0 ce sl pc lv [.int v] w := by
  intro p e s m args below meth c H locs ls hC hl hP hD hS
  obtain ⟨hx, hb, hml, hown, hts, hr, hlk, hEK, hES, hin, hXt⟩ := id hC
  obtain ⟨rfl, rfl⟩ := hc
  exact W.zret hx hb (hr.trans hret) hn (fun t ht hW => ⟨⟨_, w, rfl, hp, by rw [ht]; exact hP, hD⟩, hS.F ht⟩) hS.2.2 d
theorem wf_vret {Post : Option Value → va_W → Prop} (hret : ret = none) (hc : ce = rm.cells ∧ sl = rm.slots) (hp : Post none w) (d : decode cc pc = .ok (.return_, 1)) : WF l E own cc nL ret rm ini Xt (QM E w0 Post rm) w0 ce sl pc lv [] w := by
  intro p e s m args below meth c H locs ls hC hl hP hD hS
  obtain ⟨hx, hb, hml, hown, hts, hr, hlk, hEK, hES, hin, hXt⟩ := id hC
  obtain ⟨rfl, rfl⟩ := hc
  exact W.vret hx hb (hr.trans hret) (fun t ht hW => ⟨⟨_, w, rfl, hp, by rw [ht]; exact hP, hD⟩, hS.F ht⟩) hS.2.2 d
theorem wf_aret {Post : Option Value → va_W → Prop} {a : Nat} (cn : String) (hret : ret = some (.object cn)) (hc : ce = rm.cells ∧ sl = rm.slots) (hp : Post (some (.ref a)) w) (d : decode cc pc = .ok (.areturn, 1)) : WF l E own cc nL ret rm ini Xt (QM E w0 Post rm) w0 ce sl pc lv [.ref a] w := by
  intro p e s m args below meth c H locs ls hC hl hP hD hS
  obtain ⟨hx, hb, hml, hown, hts, hr, hlk, hEK, hES, hin, hXt⟩ := id hC
  obtain ⟨rfl, rfl⟩ := hc
  exact W.aret hx hb (hr.trans hret) (Or.inl ⟨cn, rfl⟩) (Or.inr ⟨a, rfl⟩) (fun t ht hW => ⟨⟨_, w, rfl, hp, by rw [ht]; exact hP, hD⟩, hS.F ht⟩) hS.2.2 d
/-- a contract's end may say less -/
theorem CT.weaken {y : MethodName} {b : ByteArray} {mL : Nat} {as : List Value} {Post Post' : Option Value → va_W → Prop} (h : CT l E y b mL ret rm as w Post) (hp : ∀ v w2, Post v w2 → Post' v w2) : CT l E y b mL ret rm as w Post' := by
  intro sz
  have h1 := h sz
  refine fun p e ha hc hk s m args below hf hap hP hK => ?_
  obtain ⟨t, o, a1, a2, a3, ⟨⟨⟨v, w2, b1, b2, b3⟩, b4⟩, b5⟩⟩ := h1 p e ha hc hk s m args below hf hap hP hK
  exact ⟨t, o, a1, a2, a3, ⟨⟨⟨v, w2, b1, hp v w2 b2, b3⟩, b4⟩, b5⟩⟩
/-- the end that says all: this value, this world -/
def IS (r : Option Value) (w2 : va_W) : Option Value → va_W → Prop := fun v w => v = r ∧ w = w2

end WFS
