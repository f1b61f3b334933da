section
-- ===== PART A: goes FIRST, ahead of the names: the tables' words, and 'selects' of the private methods out of them =====
/-- a private method of a class that the tables say can be made, by its rows of tables_1 -/
def lw_okq (q : MethodName × Nat) : Prop := (q.1.cls ≠ "java/lang/invoke/MethodHandle" ∧ q.1.cls ≠ "java/lang/invoke/VarHandle") ∧ Cond.instantiable q.1.cls q.2 ∈ tables_1 ∧ Cond.privateMethod q.1 ∈ tables_1 ∧ Cond.instanceMethod q.1 ∈ tables_1
theorem lw_p0 : lw_okq (⟨"EatenByDusk", "refuse", "(I)I"⟩, 8) := ⟨⟨by decide +kernel, by decide +kernel⟩, List.mem_of_getElem? (i := 20) (by decide +kernel), List.mem_of_getElem? (i := 179) (by decide +kernel), List.mem_of_getElem? (i := 180) (by decide +kernel)⟩
theorem lw_p1 : lw_okq (⟨"EatenByDusk$Letters", "misspeltPlace", "()I"⟩, 2) := ⟨⟨by decide +kernel, by decide +kernel⟩, List.mem_of_getElem? (i := 135) (by decide +kernel), List.mem_of_getElem? (i := 200) (by decide +kernel), List.mem_of_getElem? (i := 201) (by decide +kernel)⟩
theorem lw_p2 : lw_okq (⟨"EatenByDusk$Letters", "letterAt", "(I)C"⟩, 2) := ⟨⟨by decide +kernel, by decide +kernel⟩, List.mem_of_getElem? (i := 135) (by decide +kernel), List.mem_of_getElem? (i := 204) (by decide +kernel), List.mem_of_getElem? (i := 205) (by decide +kernel)⟩
theorem lw_p3 : lw_okq (⟨"EatenByDusk$Letters", "unfitPlace", "(II)I"⟩, 2) := ⟨⟨by decide +kernel, by decide +kernel⟩, List.mem_of_getElem? (i := 135) (by decide +kernel), List.mem_of_getElem? (i := 330) (by decide +kernel), List.mem_of_getElem? (i := 331) (by decide +kernel)⟩
theorem lw_p4 : lw_okq (⟨"EatenByDusk$Letters", "beginsStatement", "(I)Z"⟩, 2) := ⟨⟨by decide +kernel, by decide +kernel⟩, List.mem_of_getElem? (i := 135) (by decide +kernel), List.mem_of_getElem? (i := 334) (by decide +kernel), List.mem_of_getElem? (i := 335) (by decide +kernel)⟩
theorem lw_p5 : lw_okq (⟨"EatenByDusk$Letters", "isFit", "(III)Z"⟩, 2) := ⟨⟨by decide +kernel, by decide +kernel⟩, List.mem_of_getElem? (i := 135) (by decide +kernel), List.mem_of_getElem? (i := 338) (by decide +kernel), List.mem_of_getElem? (i := 339) (by decide +kernel)⟩
theorem lw_p6 : lw_okq (⟨"EatenByDusk$Letters", "digitAt", "(I)I"⟩, 2) := ⟨⟨by decide +kernel, by decide +kernel⟩, List.mem_of_getElem? (i := 135) (by decide +kernel), List.mem_of_getElem? (i := 342) (by decide +kernel), List.mem_of_getElem? (i := 343) (by decide +kernel)⟩
theorem lw_p7 : lw_okq (⟨"EatenByDusk$Letters", "tellStatement", "(ILEatenByDusk$Garden;)V"⟩, 2) := ⟨⟨by decide +kernel, by decide +kernel⟩, List.mem_of_getElem? (i := 135) (by decide +kernel), List.mem_of_getElem? (i := 356) (by decide +kernel), List.mem_of_getElem? (i := 357) (by decide +kernel)⟩
theorem lw_p8 : lw_okq (⟨"EatenByDusk", "mindAsNow", "()LEatenByDusk$Garden;"⟩, 8) := ⟨⟨by decide +kernel, by decide +kernel⟩, List.mem_of_getElem? (i := 20) (by decide +kernel), List.mem_of_getElem? (i := 526) (by decide +kernel), List.mem_of_getElem? (i := 527) (by decide +kernel)⟩
theorem lw_p9 : lw_okq (⟨"EatenByDusk", "isKeptByWatching", "(II)Z"⟩, 8) := ⟨⟨by decide +kernel, by decide +kernel⟩, List.mem_of_getElem? (i := 20) (by decide +kernel), List.mem_of_getElem? (i := 582) (by decide +kernel), List.mem_of_getElem? (i := 583) (by decide +kernel)⟩
theorem lw_p10 : lw_okq (⟨"EatenByDusk", "countLeftByBitters", "(I)I"⟩, 8) := ⟨⟨by decide +kernel, by decide +kernel⟩, List.mem_of_getElem? (i := 20) (by decide +kernel), List.mem_of_getElem? (i := 623) (by decide +kernel), List.mem_of_getElem? (i := 624) (by decide +kernel)⟩
theorem lw_p11 : lw_okq (⟨"EatenByDuskModel", "no", "(I)I"⟩, 27) := ⟨⟨by decide +kernel, by decide +kernel⟩, List.mem_of_getElem? (i := 668) (by decide +kernel), List.mem_of_getElem? (i := 763) (by decide +kernel), List.mem_of_getElem? (i := 764) (by decide +kernel)⟩
theorem lw_p12 : lw_okq (⟨"EatenByDuskModel", "statement", "()Z"⟩, 27) := ⟨⟨by decide +kernel, by decide +kernel⟩, List.mem_of_getElem? (i := 668) (by decide +kernel), List.mem_of_getElem? (i := 771) (by decide +kernel), List.mem_of_getElem? (i := 772) (by decide +kernel)⟩
theorem lw_p13 : lw_okq (⟨"EatenByDuskModel", "next", "()I"⟩, 27) := ⟨⟨by decide +kernel, by decide +kernel⟩, List.mem_of_getElem? (i := 668) (by decide +kernel), List.mem_of_getElem? (i := 775) (by decide +kernel), List.mem_of_getElem? (i := 776) (by decide +kernel)⟩
theorem lw_p14 : lw_okq (⟨"EatenByDuskModel", "readsKind", "(I)Z"⟩, 27) := ⟨⟨by decide +kernel, by decide +kernel⟩, List.mem_of_getElem? (i := 668) (by decide +kernel), List.mem_of_getElem? (i := 779) (by decide +kernel), List.mem_of_getElem? (i := 780) (by decide +kernel)⟩
theorem lw_p15 : lw_okq (⟨"EatenByDuskModel", "readsOnes", "(II)Z"⟩, 27) := ⟨⟨by decide +kernel, by decide +kernel⟩, List.mem_of_getElem? (i := 668) (by decide +kernel), List.mem_of_getElem? (i := 786) (by decide +kernel), List.mem_of_getElem? (i := 787) (by decide +kernel)⟩
def lw_privs_1 : List (MethodName × Nat) := [(⟨"EatenByDusk", "refuse", "(I)I"⟩, 8), (⟨"EatenByDusk$Letters", "misspeltPlace", "()I"⟩, 2), (⟨"EatenByDusk$Letters", "letterAt", "(I)C"⟩, 2), (⟨"EatenByDusk$Letters", "unfitPlace", "(II)I"⟩, 2), (⟨"EatenByDusk$Letters", "beginsStatement", "(I)Z"⟩, 2), (⟨"EatenByDusk$Letters", "isFit", "(III)Z"⟩, 2), (⟨"EatenByDusk$Letters", "digitAt", "(I)I"⟩, 2), (⟨"EatenByDusk$Letters", "tellStatement", "(ILEatenByDusk$Garden;)V"⟩, 2), (⟨"EatenByDusk", "mindAsNow", "()LEatenByDusk$Garden;"⟩, 8), (⟨"EatenByDusk", "isKeptByWatching", "(II)Z"⟩, 8), (⟨"EatenByDusk", "countLeftByBitters", "(I)I"⟩, 8), (⟨"EatenByDuskModel", "no", "(I)I"⟩, 27), (⟨"EatenByDuskModel", "statement", "()Z"⟩, 27), (⟨"EatenByDuskModel", "next", "()I"⟩, 27), (⟨"EatenByDuskModel", "readsKind", "(I)Z"⟩, 27), (⟨"EatenByDuskModel", "readsOnes", "(II)Z"⟩, 27)]
theorem lw_r1 : ∀ q ∈ lw_privs_1, lw_okq q := List.forall_mem_cons.mpr ⟨lw_p0, List.forall_mem_cons.mpr ⟨lw_p1, List.forall_mem_cons.mpr ⟨lw_p2, List.forall_mem_cons.mpr ⟨lw_p3, List.forall_mem_cons.mpr ⟨lw_p4, List.forall_mem_cons.mpr ⟨lw_p5, List.forall_mem_cons.mpr ⟨lw_p6, List.forall_mem_cons.mpr ⟨lw_p7, List.forall_mem_cons.mpr ⟨lw_p8, List.forall_mem_cons.mpr ⟨lw_p9, List.forall_mem_cons.mpr ⟨lw_p10, List.forall_mem_cons.mpr ⟨lw_p11, List.forall_mem_cons.mpr ⟨lw_p12, List.forall_mem_cons.mpr ⟨lw_p13, List.forall_mem_cons.mpr ⟨lw_p14, List.forall_mem_cons.mpr ⟨lw_p15, fun _ h => absurd h List.not_mem_nil⟩⟩⟩⟩⟩⟩⟩⟩⟩⟩⟩⟩⟩⟩⟩⟩
theorem lw_p16 : lw_okq (⟨"EatenByDuskModel", "passesAll", "(IZ)V"⟩, 27) := ⟨⟨by decide +kernel, by decide +kernel⟩, List.mem_of_getElem? (i := 668) (by decide +kernel), List.mem_of_getElem? (i := 793) (by decide +kernel), List.mem_of_getElem? (i := 794) (by decide +kernel)⟩
theorem lw_p17 : lw_okq (⟨"EatenByDuskModel", "passes", "([I)V"⟩, 27) := ⟨⟨by decide +kernel, by decide +kernel⟩, List.mem_of_getElem? (i := 668) (by decide +kernel), List.mem_of_getElem? (i := 797) (by decide +kernel), List.mem_of_getElem? (i := 798) (by decide +kernel)⟩
theorem lw_p18 : lw_okq (⟨"EatenByDuskModel", "passOne", "(I)I"⟩, 27) := ⟨⟨by decide +kernel, by decide +kernel⟩, List.mem_of_getElem? (i := 668) (by decide +kernel), List.mem_of_getElem? (i := 801) (by decide +kernel), List.mem_of_getElem? (i := 802) (by decide +kernel)⟩
theorem lw_p19 : lw_okq (⟨"EatenByDuskModel", "comes", "(I)Z"⟩, 27) := ⟨⟨by decide +kernel, by decide +kernel⟩, List.mem_of_getElem? (i := 668) (by decide +kernel), List.mem_of_getElem? (i := 805) (by decide +kernel), List.mem_of_getElem? (i := 806) (by decide +kernel)⟩
theorem lw_p20 : lw_okq (⟨"EatenByDuskModel", "comesWord", "(I)Z"⟩, 27) := ⟨⟨by decide +kernel, by decide +kernel⟩, List.mem_of_getElem? (i := 668) (by decide +kernel), List.mem_of_getElem? (i := 809) (by decide +kernel), List.mem_of_getElem? (i := 810) (by decide +kernel)⟩
theorem lw_p21 : lw_okq (⟨"EatenByDuskModel", "comesBird", "(I)Z"⟩, 27) := ⟨⟨by decide +kernel, by decide +kernel⟩, List.mem_of_getElem? (i := 668) (by decide +kernel), List.mem_of_getElem? (i := 813) (by decide +kernel), List.mem_of_getElem? (i := 814) (by decide +kernel)⟩
theorem lw_p22 : lw_okq (⟨"EatenByDuskModel", "comesWatch", "(I)Z"⟩, 27) := ⟨⟨by decide +kernel, by decide +kernel⟩, List.mem_of_getElem? (i := 668) (by decide +kernel), List.mem_of_getElem? (i := 817) (by decide +kernel), List.mem_of_getElem? (i := 818) (by decide +kernel)⟩
theorem lw_p23 : lw_okq (⟨"EatenByDuskModel", "isWord", "(I)Z"⟩, 27) := ⟨⟨by decide +kernel, by decide +kernel⟩, List.mem_of_getElem? (i := 668) (by decide +kernel), List.mem_of_getElem? (i := 821) (by decide +kernel), List.mem_of_getElem? (i := 822) (by decide +kernel)⟩
theorem lw_p24 : lw_okq (⟨"EatenByDuskModel", "strengthOf", "(I)I"⟩, 27) := ⟨⟨by decide +kernel, by decide +kernel⟩, List.mem_of_getElem? (i := 668) (by decide +kernel), List.mem_of_getElem? (i := 837) (by decide +kernel), List.mem_of_getElem? (i := 838) (by decide +kernel)⟩
theorem lw_p25 : lw_okq (⟨"EatenByDuskModel", "isBird", "(I)Z"⟩, 27) := ⟨⟨by decide +kernel, by decide +kernel⟩, List.mem_of_getElem? (i := 668) (by decide +kernel), List.mem_of_getElem? (i := 845) (by decide +kernel), List.mem_of_getElem? (i := 846) (by decide +kernel)⟩
theorem lw_p26 : lw_okq (⟨"EatenByDuskModel", "eatsBy", "(I)I"⟩, 27) := ⟨⟨by decide +kernel, by decide +kernel⟩, List.mem_of_getElem? (i := 668) (by decide +kernel), List.mem_of_getElem? (i := 849) (by decide +kernel), List.mem_of_getElem? (i := 850) (by decide +kernel)⟩
theorem lw_p27 : lw_okq (⟨"EatenByDuskModel", "mayEat", "(II)Z"⟩, 27) := ⟨⟨by decide +kernel, by decide +kernel⟩, List.mem_of_getElem? (i := 668) (by decide +kernel), List.mem_of_getElem? (i := 853) (by decide +kernel), List.mem_of_getElem? (i := 854) (by decide +kernel)⟩
theorem lw_p28 : lw_okq (⟨"EatenByDuskModel", "isGone", "(I)Z"⟩, 27) := ⟨⟨by decide +kernel, by decide +kernel⟩, List.mem_of_getElem? (i := 668) (by decide +kernel), List.mem_of_getElem? (i := 857) (by decide +kernel), List.mem_of_getElem? (i := 858) (by decide +kernel)⟩
theorem lw_p29 : lw_okq (⟨"EatenByDuskModel", "isRather", "(III)Z"⟩, 27) := ⟨⟨by decide +kernel, by decide +kernel⟩, List.mem_of_getElem? (i := 668) (by decide +kernel), List.mem_of_getElem? (i := 861) (by decide +kernel), List.mem_of_getElem? (i := 862) (by decide +kernel)⟩
theorem lw_p30 : lw_okq (⟨"EatenByDuskModel", "goesHour", "()I"⟩, 27) := ⟨⟨by decide +kernel, by decide +kernel⟩, List.mem_of_getElem? (i := 668) (by decide +kernel), List.mem_of_getElem? (i := 884) (by decide +kernel), List.mem_of_getElem? (i := 885) (by decide +kernel)⟩
theorem lw_p31 : lw_okq (⟨"EatenByDuskModel", "eats", "(I)I"⟩, 27) := ⟨⟨by decide +kernel, by decide +kernel⟩, List.mem_of_getElem? (i := 668) (by decide +kernel), List.mem_of_getElem? (i := 888) (by decide +kernel), List.mem_of_getElem? (i := 889) (by decide +kernel)⟩
def lw_privs_2 : List (MethodName × Nat) := [(⟨"EatenByDuskModel", "passesAll", "(IZ)V"⟩, 27), (⟨"EatenByDuskModel", "passes", "([I)V"⟩, 27), (⟨"EatenByDuskModel", "passOne", "(I)I"⟩, 27), (⟨"EatenByDuskModel", "comes", "(I)Z"⟩, 27), (⟨"EatenByDuskModel", "comesWord", "(I)Z"⟩, 27), (⟨"EatenByDuskModel", "comesBird", "(I)Z"⟩, 27), (⟨"EatenByDuskModel", "comesWatch", "(I)Z"⟩, 27), (⟨"EatenByDuskModel", "isWord", "(I)Z"⟩, 27), (⟨"EatenByDuskModel", "strengthOf", "(I)I"⟩, 27), (⟨"EatenByDuskModel", "isBird", "(I)Z"⟩, 27), (⟨"EatenByDuskModel", "eatsBy", "(I)I"⟩, 27), (⟨"EatenByDuskModel", "mayEat", "(II)Z"⟩, 27), (⟨"EatenByDuskModel", "isGone", "(I)Z"⟩, 27), (⟨"EatenByDuskModel", "isRather", "(III)Z"⟩, 27), (⟨"EatenByDuskModel", "goesHour", "()I"⟩, 27), (⟨"EatenByDuskModel", "eats", "(I)I"⟩, 27)]
theorem lw_r2 : ∀ q ∈ lw_privs_2, lw_okq q := List.forall_mem_cons.mpr ⟨lw_p16, List.forall_mem_cons.mpr ⟨lw_p17, List.forall_mem_cons.mpr ⟨lw_p18, List.forall_mem_cons.mpr ⟨lw_p19, List.forall_mem_cons.mpr ⟨lw_p20, List.forall_mem_cons.mpr ⟨lw_p21, List.forall_mem_cons.mpr ⟨lw_p22, List.forall_mem_cons.mpr ⟨lw_p23, List.forall_mem_cons.mpr ⟨lw_p24, List.forall_mem_cons.mpr ⟨lw_p25, List.forall_mem_cons.mpr ⟨lw_p26, List.forall_mem_cons.mpr ⟨lw_p27, List.forall_mem_cons.mpr ⟨lw_p28, List.forall_mem_cons.mpr ⟨lw_p29, List.forall_mem_cons.mpr ⟨lw_p30, List.forall_mem_cons.mpr ⟨lw_p31, fun _ h => absurd h List.not_mem_nil⟩⟩⟩⟩⟩⟩⟩⟩⟩⟩⟩⟩⟩⟩⟩⟩
theorem lw_p32 : lw_okq (⟨"EatenByDuskModel", "leftNow", "()I"⟩, 27) := ⟨⟨by decide +kernel, by decide +kernel⟩, List.mem_of_getElem? (i := 668) (by decide +kernel), List.mem_of_getElem? (i := 900) (by decide +kernel), List.mem_of_getElem? (i := 901) (by decide +kernel)⟩
theorem lw_p33 : lw_okq (⟨"EatenByDuskModel", "goesIn", "(I)I"⟩, 27) := ⟨⟨by decide +kernel, by decide +kernel⟩, List.mem_of_getElem? (i := 668) (by decide +kernel), List.mem_of_getElem? (i := 908) (by decide +kernel), List.mem_of_getElem? (i := 909) (by decide +kernel)⟩
theorem lw_p34 : lw_okq (⟨"EatenByDuskModel", "leftAtDusk", "()I"⟩, 27) := ⟨⟨by decide +kernel, by decide +kernel⟩, List.mem_of_getElem? (i := 668) (by decide +kernel), List.mem_of_getElem? (i := 916) (by decide +kernel), List.mem_of_getElem? (i := 917) (by decide +kernel)⟩
theorem lw_p35 : lw_okq (⟨"EatenByDuskModel", "meaningsOf", "(I)I"⟩, 27) := ⟨⟨by decide +kernel, by decide +kernel⟩, List.mem_of_getElem? (i := 668) (by decide +kernel), List.mem_of_getElem? (i := 920) (by decide +kernel), List.mem_of_getElem? (i := 921) (by decide +kernel)⟩
theorem lw_p36 : lw_okq (⟨"EatenByDuskModel", "areWords", "(I)Z"⟩, 27) := ⟨⟨by decide +kernel, by decide +kernel⟩, List.mem_of_getElem? (i := 668) (by decide +kernel), List.mem_of_getElem? (i := 939) (by decide +kernel), List.mem_of_getElem? (i := 940) (by decide +kernel)⟩
theorem lw_p37 : lw_okq (⟨"EatenByDuskModel", "watchedLeft", "(II)I"⟩, 27) := ⟨⟨by decide +kernel, by decide +kernel⟩, List.mem_of_getElem? (i := 668) (by decide +kernel), List.mem_of_getElem? (i := 943) (by decide +kernel), List.mem_of_getElem? (i := 944) (by decide +kernel)⟩
theorem lw_p38 : lw_okq (⟨"EatenByDuskModel", "lower", "(I)I"⟩, 27) := ⟨⟨by decide +kernel, by decide +kernel⟩, List.mem_of_getElem? (i := 668) (by decide +kernel), List.mem_of_getElem? (i := 955) (by decide +kernel), List.mem_of_getElem? (i := 956) (by decide +kernel)⟩
theorem lw_p39 : lw_okq (⟨"EatenByDuskModel", "otherAt", "()I"⟩, 27) := ⟨⟨by decide +kernel, by decide +kernel⟩, List.mem_of_getElem? (i := 668) (by decide +kernel), List.mem_of_getElem? (i := 964) (by decide +kernel), List.mem_of_getElem? (i := 965) (by decide +kernel)⟩
def lw_privs_3 : List (MethodName × Nat) := [(⟨"EatenByDuskModel", "leftNow", "()I"⟩, 27), (⟨"EatenByDuskModel", "goesIn", "(I)I"⟩, 27), (⟨"EatenByDuskModel", "leftAtDusk", "()I"⟩, 27), (⟨"EatenByDuskModel", "meaningsOf", "(I)I"⟩, 27), (⟨"EatenByDuskModel", "areWords", "(I)Z"⟩, 27), (⟨"EatenByDuskModel", "watchedLeft", "(II)I"⟩, 27), (⟨"EatenByDuskModel", "lower", "(I)I"⟩, 27), (⟨"EatenByDuskModel", "otherAt", "()I"⟩, 27)]
theorem lw_r3 : ∀ q ∈ lw_privs_3, lw_okq q := List.forall_mem_cons.mpr ⟨lw_p32, List.forall_mem_cons.mpr ⟨lw_p33, List.forall_mem_cons.mpr ⟨lw_p34, List.forall_mem_cons.mpr ⟨lw_p35, List.forall_mem_cons.mpr ⟨lw_p36, List.forall_mem_cons.mpr ⟨lw_p37, List.forall_mem_cons.mpr ⟨lw_p38, List.forall_mem_cons.mpr ⟨lw_p39, fun _ h => absurd h List.not_mem_nil⟩⟩⟩⟩⟩⟩⟩⟩
def lw_privs : List (MethodName × Nat) := lw_privs_1 ++ (lw_privs_2 ++ (lw_privs_3))
def lw_tbl : List Cond := k2_sels lw_privs ++ tables_1
theorem lw_privs_ok : ∀ q ∈ lw_privs, lw_okq q := by
  show ∀ q ∈ lw_privs_1 ++ (lw_privs_2 ++ (lw_privs_3)), lw_okq q
  exact List.forall_mem_append.mpr ⟨lw_r1, List.forall_mem_append.mpr ⟨lw_r2, lw_r3⟩⟩
end
section
def RX0 : String := "EatenByDusk$Crow"
def TX0 : u_T := fun k => match k with
  | _ => ("", "", "", false)
def tyX0 : Nat → FieldType := fun k => match k with
  | _ => .int
theorem nmX0 : ∀ a, a < 0 → ∀ b, b < 0 → a ≠ b → (TX0 a).2.1 ≠ (TX0 b).2.1 := by decide +kernel
theorem tyX0_ok : ∀ k, k < 0 → parseFieldDescriptor (TX0 k).2.2.1 = some (tyX0 k) := by decide +kernel
abbrev cX0_init : ByteArray := prog_2_method_1_code
def yX0_init : MethodName := ⟨RX0, "<init>", "()V"⟩
abbrev cX0_prefers : ByteArray := prog_2_method_2_code
def yX0_prefers : MethodName := ⟨RX0, "prefers", "(LEatenByDusk$Garden;II)Z"⟩
def RX1 : String := "EatenByDusk$Finch"
def TX1 : u_T := fun k => match k with
  | _ => ("", "", "", false)
def tyX1 : Nat → FieldType := fun k => match k with
  | _ => .int
theorem nmX1 : ∀ a, a < 0 → ∀ b, b < 0 → a ≠ b → (TX1 a).2.1 ≠ (TX1 b).2.1 := by decide +kernel
theorem tyX1_ok : ∀ k, k < 0 → parseFieldDescriptor (TX1 k).2.2.1 = some (tyX1 k) := by decide +kernel
abbrev cX1_init : ByteArray := prog_3_method_1_code
def yX1_init : MethodName := ⟨RX1, "<init>", "()V"⟩
abbrev cX1_reaches : ByteArray := prog_3_method_2_code
def yX1_reaches : MethodName := ⟨RX1, "reaches", "(LEatenByDusk$Garden;I)Z"⟩
def RX2 : String := "EatenByDusk$Garden"
def TX2 : u_T := fun k => match k with
  | 0 => ("EatenByDusk$Garden", "kinds", "[LEatenByDusk$Sparrow;", true)
  | 1 => ("EatenByDusk$Garden", "sweet", "[I", true)
  | 2 => ("EatenByDusk$Garden", "inkOf", "[I", true)
  | 3 => ("EatenByDusk$Garden", "meaning", "[I", true)
  | 4 => ("EatenByDusk$Garden", "wordCount", "I", false)
  | 5 => ("EatenByDusk$Garden", "kind", "[I", true)
  | 6 => ("EatenByDusk$Garden", "taste", "[I", true)
  | 7 => ("EatenByDusk$Garden", "from", "[I", true)
  | 8 => ("EatenByDusk$Garden", "till", "[I", true)
  | 9 => ("EatenByDusk$Garden", "birdCount", "I", false)
  | 10 => ("EatenByDusk$Garden", "bitterOf", "[I", true)
  | 11 => ("EatenByDusk$Garden", "watched", "[I", true)
  | 12 => ("EatenByDusk$Garden", "gone", "I", false)
  | _ => ("EatenByDusk$Garden", "hour", "I", false)
def tyX2 : Nat → FieldType := fun k => match k with
  | 0 => .array (.object "EatenByDusk$Sparrow")
  | 1 => .array .int
  | 2 => .array .int
  | 3 => .array .int
  | 4 => .int
  | 5 => .array .int
  | 6 => .array .int
  | 7 => .array .int
  | 8 => .array .int
  | 9 => .int
  | 10 => .array .int
  | 11 => .array .int
  | 12 => .int
  | _ => .int
theorem nmX2 : ∀ a, a < 14 → ∀ b, b < 14 → a ≠ b → (TX2 a).2.1 ≠ (TX2 b).2.1 := by decide +kernel
theorem tyX2_ok : ∀ k, k < 14 → parseFieldDescriptor (TX2 k).2.2.1 = some (tyX2 k) := by decide +kernel
abbrev cX2_init : ByteArray := prog_4_method_1_code
def yX2_init : MethodName := ⟨RX2, "<init>", "([LEatenByDusk$Sparrow;)V"⟩
abbrev cX2_becomeAs : ByteArray := prog_4_method_2_code
def yX2_becomeAs : MethodName := ⟨RX2, "becomeAs", "(LEatenByDusk$Garden;)V"⟩
abbrev cX2_hasWord : ByteArray := prog_4_method_3_code
def yX2_hasWord : MethodName := ⟨RX2, "hasWord", "(I)Z"⟩
abbrev cX2_hasWords : ByteArray := prog_4_method_4_code
def yX2_hasWords : MethodName := ⟨RX2, "hasWords", "(I)Z"⟩
abbrev cX2_hasBird : ByteArray := prog_4_method_5_code
def yX2_hasBird : MethodName := ⟨RX2, "hasBird", "(I)Z"⟩
abbrev cX2_addWord : ByteArray := prog_4_method_6_code
def yX2_addWord : MethodName := ⟨RX2, "addWord", "(III)V"⟩
abbrev cX2_addBird : ByteArray := prog_4_method_7_code
def yX2_addBird : MethodName := ⟨RX2, "addBird", "(IIII)V"⟩
abbrev cX2_keepAway : ByteArray := prog_4_method_8_code
def yX2_keepAway : MethodName := ⟨RX2, "keepAway", "(I)V"⟩
abbrev cX2_setBitter : ByteArray := prog_4_method_9_code
def yX2_setBitter : MethodName := ⟨RX2, "setBitter", "(II)V"⟩
abbrev cX2_setWatched : ByteArray := prog_4_method_10_code
def yX2_setWatched : MethodName := ⟨RX2, "setWatched", "(IIZ)V"⟩
abbrev cX2_isWatched : ByteArray := prog_4_method_11_code
def yX2_isWatched : MethodName := ⟨RX2, "isWatched", "(II)Z"⟩
abbrev cX2_isGone : ByteArray := prog_4_method_12_code
def yX2_isGone : MethodName := ⟨RX2, "isGone", "(I)Z"⟩
abbrev cX2_strength : ByteArray := prog_4_method_13_code
def yX2_strength : MethodName := ⟨RX2, "strength", "(I)I"⟩
abbrev cX2_mayBeEaten : ByteArray := prog_4_method_14_code
def yX2_mayBeEaten : MethodName := ⟨RX2, "mayBeEaten", "(II)Z"⟩
abbrev cX2_kindOf : ByteArray := prog_4_method_15_code
def yX2_kindOf : MethodName := ⟨RX2, "kindOf", "(I)LEatenByDusk$Sparrow;"⟩
abbrev cX2_passHour : ByteArray := prog_4_method_16_code
def yX2_passHour : MethodName := ⟨RX2, "passHour", "()I"⟩
abbrev cX2_passTillDusk : ByteArray := prog_4_method_17_code
def yX2_passTillDusk : MethodName := ⟨RX2, "passTillDusk", "()I"⟩
abbrev cX2_hourOfGoing : ByteArray := prog_4_method_18_code
def yX2_hourOfGoing : MethodName := ⟨RX2, "hourOfGoing", "(I)I"⟩
abbrev cX2_allWords : ByteArray := prog_4_method_19_code
def yX2_allWords : MethodName := ⟨RX2, "allWords", "()I"⟩
abbrev cX2_leftWords : ByteArray := prog_4_method_20_code
def yX2_leftWords : MethodName := ⟨RX2, "leftWords", "()I"⟩
abbrev cX2_countLeft : ByteArray := prog_4_method_21_code
def yX2_countLeft : MethodName := ⟨RX2, "countLeft", "()I"⟩
abbrev cX2_countLeftOf : ByteArray := prog_4_method_22_code
def yX2_countLeftOf : MethodName := ⟨RX2, "countLeftOf", "(I)I"⟩
abbrev cX2_leftMeanings : ByteArray := prog_4_method_23_code
def yX2_leftMeanings : MethodName := ⟨RX2, "leftMeanings", "()I"⟩
abbrev cX2_strengthLeft : ByteArray := prog_4_method_24_code
def yX2_strengthLeft : MethodName := ⟨RX2, "strengthLeft", "()I"⟩
abbrev cX2_placeOtherThan : ByteArray := prog_4_method_25_code
def yX2_placeOtherThan : MethodName := ⟨RX2, "placeOtherThan", "([II)I"⟩
def RX3 : String := "EatenByDusk$Greedy"
def TX3 : u_T := fun k => match k with
  | _ => ("", "", "", false)
def tyX3 : Nat → FieldType := fun k => match k with
  | _ => .int
theorem nmX3 : ∀ a, a < 0 → ∀ b, b < 0 → a ≠ b → (TX3 a).2.1 ≠ (TX3 b).2.1 := by decide +kernel
theorem tyX3_ok : ∀ k, k < 0 → parseFieldDescriptor (TX3 k).2.2.1 = some (tyX3 k) := by decide +kernel
abbrev cX3_init : ByteArray := prog_5_method_1_code
def yX3_init : MethodName := ⟨RX3, "<init>", "()V"⟩
abbrev cX3_meals : ByteArray := prog_5_method_2_code
def yX3_meals : MethodName := ⟨RX3, "meals", "()I"⟩
def RX4 : String := "EatenByDusk$Letters"
def TX4 : u_T := fun k => match k with
  | 0 => ("EatenByDusk$Letters", "letters", "[C", true)
  | _ => ("EatenByDusk$Letters", "size", "I", false)
def tyX4 : Nat → FieldType := fun k => match k with
  | 0 => .array .char
  | _ => .int
theorem nmX4 : ∀ a, a < 2 → ∀ b, b < 2 → a ≠ b → (TX4 a).2.1 ≠ (TX4 b).2.1 := by decide +kernel
theorem tyX4_ok : ∀ k, k < 2 → parseFieldDescriptor (TX4 k).2.2.1 = some (tyX4 k) := by decide +kernel
abbrev cX4_init : ByteArray := prog_6_method_1_code
def yX4_init : MethodName := ⟨RX4, "<init>", "()V"⟩
abbrev cX4_isFull : ByteArray := prog_6_method_2_code
def yX4_isFull : MethodName := ⟨RX4, "isFull", "()Z"⟩
abbrev cX4_add : ByteArray := prog_6_method_3_code
def yX4_add : MethodName := ⟨RX4, "add", "(C)I"⟩
abbrev cX4_clear : ByteArray := prog_6_method_4_code
def yX4_clear : MethodName := ⟨RX4, "clear", "()V"⟩
abbrev cX4_fault : ByteArray := prog_6_method_5_code
def yX4_fault : MethodName := ⟨RX4, "fault", "(II)I"⟩
abbrev cX4_tellTo : ByteArray := prog_6_method_6_code
def yX4_tellTo : MethodName := ⟨RX4, "tellTo", "(LEatenByDusk$Garden;)I"⟩
abbrev cX4_misspeltPlace : ByteArray := prog_6_method_7_code
def yX4_misspeltPlace : MethodName := ⟨RX4, "misspeltPlace", "()I"⟩
abbrev cX4_unfitPlace : ByteArray := prog_6_method_8_code
def yX4_unfitPlace : MethodName := ⟨RX4, "unfitPlace", "(II)I"⟩
abbrev cX4_isFit : ByteArray := prog_6_method_9_code
def yX4_isFit : MethodName := ⟨RX4, "isFit", "(III)Z"⟩
abbrev cX4_tellStatement : ByteArray := prog_6_method_10_code
def yX4_tellStatement : MethodName := ⟨RX4, "tellStatement", "(ILEatenByDusk$Garden;)V"⟩
abbrev cX4_formBehind : ByteArray := prog_6_method_11_code
def yX4_formBehind : MethodName := ⟨RX4, "formBehind", "(C)Ljava/lang/String;"⟩
abbrev cX4_isOfForm : ByteArray := prog_6_method_12_code
def yX4_isOfForm : MethodName := ⟨RX4, "isOfForm", "(CC)Z"⟩
abbrev cX4_areHours : ByteArray := prog_6_method_13_code
def yX4_areHours : MethodName := ⟨RX4, "areHours", "(II)Z"⟩
abbrev cX4_beginsStatement : ByteArray := prog_6_method_14_code
def yX4_beginsStatement : MethodName := ⟨RX4, "beginsStatement", "(I)Z"⟩
abbrev cX4_letterAt : ByteArray := prog_6_method_15_code
def yX4_letterAt : MethodName := ⟨RX4, "letterAt", "(I)C"⟩
abbrev cX4_digitAt : ByteArray := prog_6_method_16_code
def yX4_digitAt : MethodName := ⟨RX4, "digitAt", "(I)I"⟩
def RX5 : String := "EatenByDusk$Owl"
def TX5 : u_T := fun k => match k with
  | _ => ("", "", "", false)
def tyX5 : Nat → FieldType := fun k => match k with
  | _ => .int
theorem nmX5 : ∀ a, a < 0 → ∀ b, b < 0 → a ≠ b → (TX5 a).2.1 ≠ (TX5 b).2.1 := by decide +kernel
theorem tyX5_ok : ∀ k, k < 0 → parseFieldDescriptor (TX5 k).2.2.1 = some (tyX5 k) := by decide +kernel
abbrev cX5_init : ByteArray := prog_7_method_1_code
def yX5_init : MethodName := ⟨RX5, "<init>", "()V"⟩
abbrev cX5_prefers : ByteArray := prog_7_method_2_code
def yX5_prefers : MethodName := ⟨RX5, "prefers", "(LEatenByDusk$Garden;II)Z"⟩
def RX6 : String := "EatenByDusk$Sparrow"
def TX6 : u_T := fun k => match k with
  | _ => ("", "", "", false)
def tyX6 : Nat → FieldType := fun k => match k with
  | _ => .int
theorem nmX6 : ∀ a, a < 0 → ∀ b, b < 0 → a ≠ b → (TX6 a).2.1 ≠ (TX6 b).2.1 := by decide +kernel
theorem tyX6_ok : ∀ k, k < 0 → parseFieldDescriptor (TX6 k).2.2.1 = some (tyX6 k) := by decide +kernel
abbrev cX6_init : ByteArray := prog_8_method_1_code
def yX6_init : MethodName := ⟨RX6, "<init>", "()V"⟩
abbrev cX6_choice : ByteArray := prog_8_method_2_code
def yX6_choice : MethodName := ⟨RX6, "choice", "(LEatenByDusk$Garden;I)I"⟩
abbrev cX6_meals : ByteArray := prog_8_method_3_code
def yX6_meals : MethodName := ⟨RX6, "meals", "()I"⟩
abbrev cX6_reaches : ByteArray := prog_8_method_4_code
def yX6_reaches : MethodName := ⟨RX6, "reaches", "(LEatenByDusk$Garden;I)Z"⟩
abbrev cX6_prefers : ByteArray := prog_8_method_5_code
def yX6_prefers : MethodName := ⟨RX6, "prefers", "(LEatenByDusk$Garden;II)Z"⟩
def RX7 : String := "EatenByDusk$Thrush"
def TX7 : u_T := fun k => match k with
  | _ => ("", "", "", false)
def tyX7 : Nat → FieldType := fun k => match k with
  | _ => .int
theorem nmX7 : ∀ a, a < 0 → ∀ b, b < 0 → a ≠ b → (TX7 a).2.1 ≠ (TX7 b).2.1 := by decide +kernel
theorem tyX7_ok : ∀ k, k < 0 → parseFieldDescriptor (TX7 k).2.2.1 = some (tyX7 k) := by decide +kernel
abbrev cX7_init : ByteArray := prog_9_method_1_code
def yX7_init : MethodName := ⟨RX7, "<init>", "()V"⟩
abbrev cX7_prefers : ByteArray := prog_9_method_2_code
def yX7_prefers : MethodName := ⟨RX7, "prefers", "(LEatenByDusk$Garden;II)Z"⟩
def RX8 : String := "EatenByDusk"
def TX8 : u_T := fun k => match k with
  | 0 => ("EatenByDusk", "now", "LEatenByDusk$Garden;", true)
  | 1 => ("EatenByDusk", "mind", "LEatenByDusk$Garden;", true)
  | 2 => ("EatenByDusk", "image", "LEatenByDusk$Garden;", true)
  | 3 => ("EatenByDusk", "imageTaken", "Z", false)
  | 4 => ("EatenByDusk", "letters", "LEatenByDusk$Letters;", true)
  | 5 => ("EatenByDusk", "row", "[I", true)
  | 6 => ("EatenByDusk", "rowLength", "I", false)
  | _ => ("EatenByDusk", "refusals", "[I", true)
def tyX8 : Nat → FieldType := fun k => match k with
  | 0 => .object "EatenByDusk$Garden"
  | 1 => .object "EatenByDusk$Garden"
  | 2 => .object "EatenByDusk$Garden"
  | 3 => .boolean
  | 4 => .object "EatenByDusk$Letters"
  | 5 => .array .int
  | 6 => .int
  | _ => .array .int
theorem nmX8 : ∀ a, a < 8 → ∀ b, b < 8 → a ≠ b → (TX8 a).2.1 ≠ (TX8 b).2.1 := by decide +kernel
theorem tyX8_ok : ∀ k, k < 8 → parseFieldDescriptor (TX8 k).2.2.1 = some (tyX8 k) := by decide +kernel
abbrev cX8_init : ByteArray := prog_1_method_1_code
def yX8_init : MethodName := ⟨RX8, "<init>", "()V"⟩
abbrev cX8_letter : ByteArray := prog_1_method_2_code
def yX8_letter : MethodName := ⟨RX8, "letter", "(I)I"⟩
abbrev cX8_text : ByteArray := prog_1_method_3_code
def yX8_text : MethodName := ⟨RX8, "text", "()I"⟩
abbrev cX8_word : ByteArray := prog_1_method_4_code
def yX8_word : MethodName := ⟨RX8, "word", "(II)I"⟩
abbrev cX8_bird : ByteArray := prog_1_method_5_code
def yX8_bird : MethodName := ⟨RX8, "bird", "(II)I"⟩
abbrev cX8_bitter : ByteArray := prog_1_method_6_code
def yX8_bitter : MethodName := ⟨RX8, "bitter", "(II)I"⟩
abbrev cX8_ink : ByteArray := prog_1_method_7_code
def yX8_ink : MethodName := ⟨RX8, "ink", "(II)I"⟩
abbrev cX8_watch : ByteArray := prog_1_method_8_code
def yX8_watch : MethodName := ⟨RX8, "watch", "(III)I"⟩
abbrev cX8_hour : ByteArray := prog_1_method_9_code
def yX8_hour : MethodName := ⟨RX8, "hour", "()I"⟩
abbrev cX8_anew : ByteArray := prog_1_method_10_code
def yX8_anew : MethodName := ⟨RX8, "anew", "()I"⟩
abbrev cX8_left : ByteArray := prog_1_method_11_code
def yX8_left : MethodName := ⟨RX8, "left", "(I)I"⟩
abbrev cX8_eaten : ByteArray := prog_1_method_12_code
def yX8_eaten : MethodName := ⟨RX8, "eaten", "(I)I"⟩
abbrev cX8_meanings : ByteArray := prog_1_method_13_code
def yX8_meanings : MethodName := ⟨RX8, "meanings", "()I"⟩
abbrev cX8_remain : ByteArray := prog_1_method_14_code
def yX8_remain : MethodName := ⟨RX8, "remain", "()I"⟩
abbrev cX8_holds : ByteArray := prog_1_method_15_code
def yX8_holds : MethodName := ⟨RX8, "holds", "(I)I"⟩
abbrev cX8_boys : ByteArray := prog_1_method_16_code
def yX8_boys : MethodName := ⟨RX8, "boys", "(I)I"⟩
abbrev cX8_guard : ByteArray := prog_1_method_17_code
def yX8_guard : MethodName := ⟨RX8, "guard", "()I"⟩
abbrev cX8_winter : ByteArray := prog_1_method_18_code
def yX8_winter : MethodName := ⟨RX8, "winter", "(I)I"⟩
abbrev cX8_becomes : ByteArray := prog_1_method_19_code
def yX8_becomes : MethodName := ⟨RX8, "becomes", "()I"⟩
abbrev cX8_danger : ByteArray := prog_1_method_20_code
def yX8_danger : MethodName := ⟨RX8, "danger", "()I"⟩
abbrev cX8_lasts : ByteArray := prog_1_method_21_code
def yX8_lasts : MethodName := ⟨RX8, "lasts", "(I)I"⟩
abbrev cX8_mixed : ByteArray := prog_1_method_22_code
def yX8_mixed : MethodName := ⟨RX8, "mixed", "(II)I"⟩
abbrev cX8_tastes : ByteArray := prog_1_method_23_code
def yX8_tastes : MethodName := ⟨RX8, "tastes", "(II)I"⟩
abbrev cX8_fitting : ByteArray := prog_1_method_24_code
def yX8_fitting : MethodName := ⟨RX8, "fitting", "(II)I"⟩
abbrev cX8_seeds : ByteArray := prog_1_method_25_code
def yX8_seeds : MethodName := ⟨RX8, "seeds", "(II)I"⟩
abbrev cX8_row : ByteArray := prog_1_method_26_code
def yX8_row : MethodName := ⟨RX8, "row", "(I)I"⟩
abbrev cX8_judge : ByteArray := prog_1_method_27_code
def yX8_judge : MethodName := ⟨RX8, "judge", "()I"⟩
abbrev cX8_image : ByteArray := prog_1_method_28_code
def yX8_image : MethodName := ⟨RX8, "image", "()I"⟩
abbrev cX8_on : ByteArray := prog_1_method_29_code
def yX8_on : MethodName := ⟨RX8, "on", "()I"⟩
abbrev cX8_count : ByteArray := prog_1_method_30_code
def yX8_count : MethodName := ⟨RX8, "count", "(I)I"⟩
abbrev cX8_refuse : ByteArray := prog_1_method_31_code
def yX8_refuse : MethodName := ⟨RX8, "refuse", "(I)I"⟩
abbrev cX8_mindAsNow : ByteArray := prog_1_method_32_code
def yX8_mindAsNow : MethodName := ⟨RX8, "mindAsNow", "()LEatenByDusk$Garden;"⟩
abbrev cX8_isKeptByWatching : ByteArray := prog_1_method_33_code
def yX8_isKeptByWatching : MethodName := ⟨RX8, "isKeptByWatching", "(II)Z"⟩
abbrev cX8_countLeftByBitters : ByteArray := prog_1_method_34_code
def yX8_countLeftByBitters : MethodName := ⟨RX8, "countLeftByBitters", "(I)I"⟩
abbrev cX8_sumOfDigits : ByteArray := prog_1_method_35_code
def yX8_sumOfDigits : MethodName := ⟨RX8, "sumOfDigits", "(I)I"⟩
abbrev cX8_isInk : ByteArray := prog_1_method_36_code
def yX8_isInk : MethodName := ⟨RX8, "isInk", "(I)Z"⟩
def RX9 : String := "EatenByDuskModel"
def TX9 : u_T := fun k => match k with
  | 0 => ("EatenByDuskModel", "refused", "[I", true)
  | 1 => ("EatenByDuskModel", "sweet", "[I", true)
  | 2 => ("EatenByDuskModel", "inkOf", "[I", true)
  | 3 => ("EatenByDuskModel", "meaning", "[I", true)
  | 4 => ("EatenByDuskModel", "kind", "[I", true)
  | 5 => ("EatenByDuskModel", "taste", "[I", true)
  | 6 => ("EatenByDuskModel", "from", "[I", true)
  | 7 => ("EatenByDuskModel", "till", "[I", true)
  | 8 => ("EatenByDuskModel", "bitter", "[I", true)
  | 9 => ("EatenByDuskModel", "watched", "[I", true)
  | 10 => ("EatenByDuskModel", "words", "I", false)
  | 11 => ("EatenByDuskModel", "birds", "I", false)
  | 12 => ("EatenByDuskModel", "hour", "I", false)
  | 13 => ("EatenByDuskModel", "gone", "I", false)
  | 14 => ("EatenByDuskModel", "tape", "[I", true)
  | 15 => ("EatenByDuskModel", "letter", "[I", true)
  | 16 => ("EatenByDuskModel", "letterAt", "[I", true)
  | 17 => ("EatenByDuskModel", "told", "[I", true)
  | 18 => ("EatenByDuskModel", "taped", "I", false)
  | 19 => ("EatenByDuskModel", "at", "I", false)
  | 20 => ("EatenByDuskModel", "statements", "I", false)
  | 21 => ("EatenByDuskModel", "kept", "[I", true)
  | 22 => ("EatenByDuskModel", "hasImage", "Z", false)
  | 23 => ("EatenByDuskModel", "isKeeping", "Z", false)
  | 24 => ("EatenByDuskModel", "cursor", "I", false)
  | 25 => ("EatenByDuskModel", "row", "[I", true)
  | _ => ("EatenByDuskModel", "rowMany", "I", false)
def tyX9 : Nat → FieldType := fun k => match k with
  | 0 => .array .int
  | 1 => .array .int
  | 2 => .array .int
  | 3 => .array .int
  | 4 => .array .int
  | 5 => .array .int
  | 6 => .array .int
  | 7 => .array .int
  | 8 => .array .int
  | 9 => .array .int
  | 10 => .int
  | 11 => .int
  | 12 => .int
  | 13 => .int
  | 14 => .array .int
  | 15 => .array .int
  | 16 => .array .int
  | 17 => .array .int
  | 18 => .int
  | 19 => .int
  | 20 => .int
  | 21 => .array .int
  | 22 => .boolean
  | 23 => .boolean
  | 24 => .int
  | 25 => .array .int
  | _ => .int
theorem nmX9 : ∀ a, a < 27 → ∀ b, b < 27 → a ≠ b → (TX9 a).2.1 ≠ (TX9 b).2.1 := by decide +kernel
theorem tyX9_ok : ∀ k, k < 27 → parseFieldDescriptor (TX9 k).2.2.1 = some (tyX9 k) := by decide +kernel
abbrev cX9_init : ByteArray := prog_11_method_1_code
def yX9_init : MethodName := ⟨RX9, "<init>", "()V"⟩
abbrev cX9_no : ByteArray := prog_11_method_2_code
def yX9_no : MethodName := ⟨RX9, "no", "(I)I"⟩
abbrev cX9_lower : ByteArray := prog_11_method_3_code
def yX9_lower : MethodName := ⟨RX9, "lower", "(I)I"⟩
abbrev cX9_isIn : ByteArray := prog_11_method_4_code
def yX9_isIn : MethodName := ⟨RX9, "isIn", "(III)Z"⟩
abbrev cX9_bound : ByteArray := prog_11_method_5_code
def yX9_bound : MethodName := ⟨RX9, "bound", "(III)I"⟩
abbrev cX9_isWord : ByteArray := prog_11_method_6_code
def yX9_isWord : MethodName := ⟨RX9, "isWord", "(I)Z"⟩
abbrev cX9_isBird : ByteArray := prog_11_method_7_code
def yX9_isBird : MethodName := ⟨RX9, "isBird", "(I)Z"⟩
abbrev cX9_areWords : ByteArray := prog_11_method_8_code
def yX9_areWords : MethodName := ⟨RX9, "areWords", "(I)Z"⟩
abbrev cX9_letter : ByteArray := prog_11_method_9_code
def yX9_letter : MethodName := ⟨RX9, "letter", "(I)I"⟩
abbrev cX9_next : ByteArray := prog_11_method_10_code
def yX9_next : MethodName := ⟨RX9, "next", "()I"⟩
abbrev cX9_kindOf : ByteArray := prog_11_method_11_code
def yX9_kindOf : MethodName := ⟨RX9, "kindOf", "(I)I"⟩
abbrev cX9_readsKind : ByteArray := prog_11_method_12_code
def yX9_readsKind : MethodName := ⟨RX9, "readsKind", "(I)Z"⟩
abbrev cX9_readsOnes : ByteArray := prog_11_method_13_code
def yX9_readsOnes : MethodName := ⟨RX9, "readsOnes", "(II)Z"⟩
abbrev cX9_statement : ByteArray := prog_11_method_14_code
def yX9_statement : MethodName := ⟨RX9, "statement", "()Z"⟩
abbrev cX9_comesWord : ByteArray := prog_11_method_15_code
def yX9_comesWord : MethodName := ⟨RX9, "comesWord", "(I)Z"⟩
abbrev cX9_comesBird : ByteArray := prog_11_method_16_code
def yX9_comesBird : MethodName := ⟨RX9, "comesBird", "(I)Z"⟩
abbrev cX9_comesWatch : ByteArray := prog_11_method_17_code
def yX9_comesWatch : MethodName := ⟨RX9, "comesWatch", "(I)Z"⟩
abbrev cX9_comes : ByteArray := prog_11_method_18_code
def yX9_comes : MethodName := ⟨RX9, "comes", "(I)Z"⟩
abbrev cX9_text : ByteArray := prog_11_method_19_code
def yX9_text : MethodName := ⟨RX9, "text", "()I"⟩
abbrev cX9_passes : ByteArray := prog_11_method_20_code
def yX9_passes : MethodName := ⟨RX9, "passes", "([I)V"⟩
abbrev cX9_passOne : ByteArray := prog_11_method_21_code
def yX9_passOne : MethodName := ⟨RX9, "passOne", "(I)I"⟩
abbrev cX9_passesAll : ByteArray := prog_11_method_22_code
def yX9_passesAll : MethodName := ⟨RX9, "passesAll", "(IZ)V"⟩
abbrev cX9_image : ByteArray := prog_11_method_23_code
def yX9_image : MethodName := ⟨RX9, "image", "()I"⟩
abbrev cX9_on : ByteArray := prog_11_method_24_code
def yX9_on : MethodName := ⟨RX9, "on", "()I"⟩
abbrev cX9_strengthOf : ByteArray := prog_11_method_25_code
def yX9_strengthOf : MethodName := ⟨RX9, "strengthOf", "(I)I"⟩
abbrev cX9_isGone : ByteArray := prog_11_method_26_code
def yX9_isGone : MethodName := ⟨RX9, "isGone", "(I)Z"⟩
abbrev cX9_mayEat : ByteArray := prog_11_method_27_code
def yX9_mayEat : MethodName := ⟨RX9, "mayEat", "(II)Z"⟩
abbrev cX9_isRather : ByteArray := prog_11_method_28_code
def yX9_isRather : MethodName := ⟨RX9, "isRather", "(III)Z"⟩
abbrev cX9_eatsBy : ByteArray := prog_11_method_29_code
def yX9_eatsBy : MethodName := ⟨RX9, "eatsBy", "(I)I"⟩
abbrev cX9_eats : ByteArray := prog_11_method_30_code
def yX9_eats : MethodName := ⟨RX9, "eats", "(I)I"⟩
abbrev cX9_goesHour : ByteArray := prog_11_method_31_code
def yX9_goesHour : MethodName := ⟨RX9, "goesHour", "()I"⟩
abbrev cX9_leftNow : ByteArray := prog_11_method_32_code
def yX9_leftNow : MethodName := ⟨RX9, "leftNow", "()I"⟩
abbrev cX9_bits : ByteArray := prog_11_method_33_code
def yX9_bits : MethodName := ⟨RX9, "bits", "(I)I"⟩
abbrev cX9_leftAtDusk : ByteArray := prog_11_method_34_code
def yX9_leftAtDusk : MethodName := ⟨RX9, "leftAtDusk", "()I"⟩
abbrev cX9_word : ByteArray := prog_11_method_35_code
def yX9_word : MethodName := ⟨RX9, "word", "(II)I"⟩
abbrev cX9_bird : ByteArray := prog_11_method_36_code
def yX9_bird : MethodName := ⟨RX9, "bird", "(II)I"⟩
abbrev cX9_isInk : ByteArray := prog_11_method_37_code
def yX9_isInk : MethodName := ⟨RX9, "isInk", "(I)Z"⟩
abbrev cX9_bitter : ByteArray := prog_11_method_38_code
def yX9_bitter : MethodName := ⟨RX9, "bitter", "(II)I"⟩
abbrev cX9_ink : ByteArray := prog_11_method_39_code
def yX9_ink : MethodName := ⟨RX9, "ink", "(II)I"⟩
abbrev cX9_watch : ByteArray := prog_11_method_40_code
def yX9_watch : MethodName := ⟨RX9, "watch", "(III)I"⟩
abbrev cX9_hour : ByteArray := prog_11_method_41_code
def yX9_hour : MethodName := ⟨RX9, "hour", "()I"⟩
abbrev cX9_anew : ByteArray := prog_11_method_42_code
def yX9_anew : MethodName := ⟨RX9, "anew", "()I"⟩
abbrev cX9_left : ByteArray := prog_11_method_43_code
def yX9_left : MethodName := ⟨RX9, "left", "(I)I"⟩
abbrev cX9_goesIn : ByteArray := prog_11_method_44_code
def yX9_goesIn : MethodName := ⟨RX9, "goesIn", "(I)I"⟩
abbrev cX9_eaten : ByteArray := prog_11_method_45_code
def yX9_eaten : MethodName := ⟨RX9, "eaten", "(I)I"⟩
abbrev cX9_meaningsOf : ByteArray := prog_11_method_46_code
def yX9_meaningsOf : MethodName := ⟨RX9, "meaningsOf", "(I)I"⟩
abbrev cX9_meanings : ByteArray := prog_11_method_47_code
def yX9_meanings : MethodName := ⟨RX9, "meanings", "()I"⟩
abbrev cX9_remain : ByteArray := prog_11_method_48_code
def yX9_remain : MethodName := ⟨RX9, "remain", "()I"⟩
abbrev cX9_holds : ByteArray := prog_11_method_49_code
def yX9_holds : MethodName := ⟨RX9, "holds", "(I)I"⟩
abbrev cX9_watchedLeft : ByteArray := prog_11_method_50_code
def yX9_watchedLeft : MethodName := ⟨RX9, "watchedLeft", "(II)I"⟩
abbrev cX9_boys : ByteArray := prog_11_method_51_code
def yX9_boys : MethodName := ⟨RX9, "boys", "(I)I"⟩
abbrev cX9_guard : ByteArray := prog_11_method_52_code
def yX9_guard : MethodName := ⟨RX9, "guard", "()I"⟩
abbrev cX9_winter : ByteArray := prog_11_method_53_code
def yX9_winter : MethodName := ⟨RX9, "winter", "(I)I"⟩
abbrev cX9_otherAt : ByteArray := prog_11_method_54_code
def yX9_otherAt : MethodName := ⟨RX9, "otherAt", "()I"⟩
abbrev cX9_becomes : ByteArray := prog_11_method_55_code
def yX9_becomes : MethodName := ⟨RX9, "becomes", "()I"⟩
abbrev cX9_danger : ByteArray := prog_11_method_56_code
def yX9_danger : MethodName := ⟨RX9, "danger", "()I"⟩
abbrev cX9_lasts : ByteArray := prog_11_method_57_code
def yX9_lasts : MethodName := ⟨RX9, "lasts", "(I)I"⟩
abbrev cX9_mixed : ByteArray := prog_11_method_58_code
def yX9_mixed : MethodName := ⟨RX9, "mixed", "(II)I"⟩
abbrev cX9_tastes : ByteArray := prog_11_method_59_code
def yX9_tastes : MethodName := ⟨RX9, "tastes", "(II)I"⟩
abbrev cX9_fitting : ByteArray := prog_11_method_60_code
def yX9_fitting : MethodName := ⟨RX9, "fitting", "(II)I"⟩
abbrev cX9_row : ByteArray := prog_11_method_61_code
def yX9_row : MethodName := ⟨RX9, "row", "(I)I"⟩
abbrev cX9_judge : ByteArray := prog_11_method_62_code
def yX9_judge : MethodName := ⟨RX9, "judge", "()I"⟩
abbrev cX9_seeds : ByteArray := prog_11_method_63_code
def yX9_seeds : MethodName := ⟨RX9, "seeds", "(II)I"⟩
abbrev cX9_count : ByteArray := prog_11_method_64_code
def yX9_count : MethodName := ⟨RX9, "count", "(I)I"⟩
def RJ11 : String := "java/lang/Character"
def TJ11 : u_T := fun k => match k with
  | _ => ("", "", "", false)
def tyJ11 : Nat → FieldType := fun k => match k with
  | _ => .int
theorem nmJ11 : ∀ a, a < 0 → ∀ b, b < 0 → a ≠ b → (TJ11 a).2.1 ≠ (TJ11 b).2.1 := by decide +kernel
theorem tyJ11_ok : ∀ k, k < 0 → parseFieldDescriptor (TJ11 k).2.2.1 = some (tyJ11 k) := by decide +kernel
abbrev cJ11_isValidCodePoint_9a6ad : ByteArray := prog_12_method_11_code
def yJ11_isValidCodePoint_9a6ad : MethodName := ⟨RJ11, "isValidCodePoint", "(I)Z"⟩
abbrev cJ11_highSurrogate_5068e : ByteArray := prog_12_method_28_code
def yJ11_highSurrogate_5068e : MethodName := ⟨RJ11, "highSurrogate", "(I)C"⟩
abbrev cJ11_lowSurrogate_5068e : ByteArray := prog_12_method_29_code
def yJ11_lowSurrogate_5068e : MethodName := ⟨RJ11, "lowSurrogate", "(I)C"⟩
def RJ6 : String := "java/lang/Integer"
def TJ6 : u_T := fun k => match k with
  | _ => ("", "", "", false)
def tyJ6 : Nat → FieldType := fun k => match k with
  | _ => .int
theorem nmJ6 : ∀ a, a < 0 → ∀ b, b < 0 → a ≠ b → (TJ6 a).2.1 ≠ (TJ6 b).2.1 := by decide +kernel
theorem tyJ6_ok : ∀ k, k < 0 → parseFieldDescriptor (TJ6 k).2.2.1 = some (tyJ6 k) := by decide +kernel
abbrev cJ6_bitCount_0f7a4 : ByteArray := prog_13_method_49_code
def yJ6_bitCount_0f7a4 : MethodName := ⟨RJ6, "bitCount", "(I)I"⟩
def RJ9 : String := "java/lang/Math"
def TJ9 : u_T := fun k => match k with
  | _ => ("", "", "", false)
def tyJ9 : Nat → FieldType := fun k => match k with
  | _ => .int
theorem nmJ9 : ∀ a, a < 0 → ∀ b, b < 0 → a ≠ b → (TJ9 a).2.1 ≠ (TJ9 b).2.1 := by decide +kernel
theorem tyJ9_ok : ∀ k, k < 0 → parseFieldDescriptor (TJ9 k).2.2.1 = some (tyJ9 k) := by decide +kernel
abbrev cJ9_max_7cf53 : ByteArray := prog_14_method_65_code
def yJ9_max_7cf53 : MethodName := ⟨RJ9, "max", "(II)I"⟩
abbrev cJ9_min_7cf53 : ByteArray := prog_14_method_69_code
def yJ9_min_7cf53 : MethodName := ⟨RJ9, "min", "(II)I"⟩
def RJ0 : String := "java/lang/String"
def TJ0 : u_T := fun k => match k with
  | _ => ("", "", "", false)
def tyJ0 : Nat → FieldType := fun k => match k with
  | _ => .int
theorem nmJ0 : ∀ a, a < 0 → ∀ b, b < 0 → a ≠ b → (TJ0 a).2.1 ≠ (TJ0 b).2.1 := by decide +kernel
theorem tyJ0_ok : ∀ k, k < 0 → parseFieldDescriptor (TJ0 k).2.2.1 = some (tyJ0 k) := by decide +kernel
abbrev cJ0_length_8abf5 : ByteArray := prog_15_method_54_code
def yJ0_length_8abf5 : MethodName := ⟨RJ0, "length", "()I"⟩
abbrev cJ0_isEmpty_aae02 : ByteArray := prog_15_method_55_code
def yJ0_isEmpty_aae02 : MethodName := ⟨RJ0, "isEmpty", "()Z"⟩
abbrev cJ0_charAt_5068e : ByteArray := prog_15_method_56_code
def yJ0_charAt_5068e : MethodName := ⟨RJ0, "charAt", "(I)C"⟩
abbrev cJ0_indexOf_0f7a4 : ByteArray := prog_15_method_79_code
def yJ0_indexOf_0f7a4 : MethodName := ⟨RJ0, "indexOf", "(I)I"⟩
abbrev cJ0_indexOf_7cf53 : ByteArray := prog_15_method_80_code
def yJ0_indexOf_7cf53 : MethodName := ⟨RJ0, "indexOf", "(II)I"⟩
abbrev cJ0_coder_7d493 : ByteArray := prog_15_method_152_code
def yJ0_coder_7d493 : MethodName := ⟨RJ0, "coder", "()B"⟩
abbrev cJ0_isLatin1_aae02 : ByteArray := prog_15_method_154_code
def yJ0_isLatin1_aae02 : MethodName := ⟨RJ0, "isLatin1", "()Z"⟩
abbrev cJ0_checkIndex_df160 : ByteArray := prog_15_method_155_code
def yJ0_checkIndex_df160 : MethodName := ⟨RJ0, "checkIndex", "(II)V"⟩
abbrev cJ0_checkBoundsBeginEnd_23922 : ByteArray := prog_15_method_158_code
def yJ0_checkBoundsBeginEnd_23922 : MethodName := ⟨RJ0, "checkBoundsBeginEnd", "(III)V"⟩
def RJ1 : String := "java/lang/StringLatin1"
def TJ1 : u_T := fun k => match k with
  | _ => ("", "", "", false)
def tyJ1 : Nat → FieldType := fun k => match k with
  | _ => .int
theorem nmJ1 : ∀ a, a < 0 → ∀ b, b < 0 → a ≠ b → (TJ1 a).2.1 ≠ (TJ1 b).2.1 := by decide +kernel
theorem tyJ1_ok : ∀ k, k < 0 → parseFieldDescriptor (TJ1 k).2.2.1 = some (tyJ1 k) := by decide +kernel
abbrev cJ1_charAt_3b067 : ByteArray := prog_16_method_2_code
def yJ1_charAt_3b067 : MethodName := ⟨RJ1, "charAt", "([BI)C"⟩
abbrev cJ1_canEncode_9a6ad : ByteArray := prog_16_method_4_code
def yJ1_canEncode_9a6ad : MethodName := ⟨RJ1, "canEncode", "(I)Z"⟩
abbrev cJ1_indexOf_4cfef : ByteArray := prog_16_method_22_code
def yJ1_indexOf_4cfef : MethodName := ⟨RJ1, "indexOf", "([BIII)I"⟩
abbrev cJ1_indexOfChar_4cfef : ByteArray := prog_16_method_23_code
def yJ1_indexOfChar_4cfef : MethodName := ⟨RJ1, "indexOfChar", "([BIII)I"⟩
def RJ2 : String := "java/lang/StringUTF16"
def TJ2 : u_T := fun k => match k with
  | _ => ("", "", "", false)
def tyJ2 : Nat → FieldType := fun k => match k with
  | _ => .int
theorem nmJ2 : ∀ a, a < 0 → ∀ b, b < 0 → a ≠ b → (TJ2 a).2.1 ≠ (TJ2 b).2.1 := by decide +kernel
theorem tyJ2_ok : ∀ k, k < 0 → parseFieldDescriptor (TJ2 k).2.2.1 = some (tyJ2 k) := by decide +kernel
abbrev cJ2_getChar_3b067 : ByteArray := prog_17_method_5_code
def yJ2_getChar_3b067 : MethodName := ⟨RJ2, "getChar", "([BI)C"⟩
abbrev cJ2_length_9d52b : ByteArray := prog_17_method_6_code
def yJ2_length_9d52b : MethodName := ⟨RJ2, "length", "([B)I"⟩
abbrev cJ2_indexOf_4cfef : ByteArray := prog_17_method_40_code
def yJ2_indexOf_4cfef : MethodName := ⟨RJ2, "indexOf", "([BIII)I"⟩
abbrev cJ2_indexOfChar_4cfef : ByteArray := prog_17_method_47_code
def yJ2_indexOfChar_4cfef : MethodName := ⟨RJ2, "indexOfChar", "([BIII)I"⟩
abbrev cJ2_indexOfCharUnsafe_4cfef : ByteArray := prog_17_method_48_code
def yJ2_indexOfCharUnsafe_4cfef : MethodName := ⟨RJ2, "indexOfCharUnsafe", "([BIII)I"⟩
abbrev cJ2_indexOfSupplementary_4cfef : ByteArray := prog_17_method_49_code
def yJ2_indexOfSupplementary_4cfef : MethodName := ⟨RJ2, "indexOfSupplementary", "([BIII)I"⟩
abbrev cJ2_charAt_3b067 : ByteArray := prog_17_method_83_code
def yJ2_charAt_3b067 : MethodName := ⟨RJ2, "charAt", "([BI)C"⟩
abbrev cJ2_checkIndex_2214a : ByteArray := prog_17_method_91_code
def yJ2_checkIndex_2214a : MethodName := ⟨RJ2, "checkIndex", "(I[B)V"⟩
abbrev cJ2_checkBoundsBeginEnd_d044e : ByteArray := prog_17_method_93_code
def yJ2_checkBoundsBeginEnd_d044e : MethodName := ⟨RJ2, "checkBoundsBeginEnd", "(II[B)V"⟩
def RJ10 : String := "java/lang/System"
def TJ10 : u_T := fun k => match k with
  | _ => ("", "", "", false)
def tyJ10 : Nat → FieldType := fun k => match k with
  | _ => .int
theorem nmJ10 : ∀ a, a < 0 → ∀ b, b < 0 → a ≠ b → (TJ10 a).2.1 ≠ (TJ10 b).2.1 := by decide +kernel
theorem tyJ10_ok : ∀ k, k < 0 → parseFieldDescriptor (TJ10 k).2.2.1 = some (tyJ10 k) := by decide +kernel
def RJ3 : String := "jdk/internal/util/Preconditions"
def TJ3 : u_T := fun k => match k with
  | _ => ("", "", "", false)
def tyJ3 : Nat → FieldType := fun k => match k with
  | _ => .int
theorem nmJ3 : ∀ a, a < 0 → ∀ b, b < 0 → a ≠ b → (TJ3 a).2.1 ≠ (TJ3 b).2.1 := by decide +kernel
theorem tyJ3_ok : ∀ k, k < 0 → parseFieldDescriptor (TJ3 k).2.2.1 = some (tyJ3 k) := by decide +kernel
abbrev cJ3_checkIndex_8e157 : ByteArray := prog_19_method_11_code
def yJ3_checkIndex_8e157 : MethodName := ⟨RJ3, "checkIndex", "(IILjava/util/function/BiFunction;)I"⟩
abbrev cJ3_checkFromToIndex_8c36e : ByteArray := prog_19_method_12_code
def yJ3_checkFromToIndex_8c36e : MethodName := ⟨RJ3, "checkFromToIndex", "(IIILjava/util/function/BiFunction;)I"⟩
def RL : String := "EatenByDuskLaw"
abbrev cL_law : ByteArray := code
def yL_law : MethodName := ⟨RL, "law", "([I)Z"⟩
abbrev vwCl : List vw_C := [(RX0, TX0, 0), (RX1, TX1, 0), (RX2, TX2, 14), (RX3, TX3, 0), (RX4, TX4, 2), (RX5, TX5, 0), (RX6, TX6, 0), (RX7, TX7, 0), (RX8, TX8, 8), (RX9, TX9, 27)]
end
section
/-! THE FRAME: the words of the tables in one list (TBg); what holds around every method (EK, ES); a contract (CT); the walk of a method over a named world (WF), a row an instruction. -/
def TBg : List Cond := lw_tbl.filter goodWord
theorem tb_of {w : Cond} (i : Nat) (h : lw_tbl[i]? = some w) (g : goodWord w = true) : w ∈ TBg := List.mem_filter.mpr ⟨List.mem_of_getElem? h, g⟩
theorem tb_lw {w : Cond} (h : w ∈ TBg) : w ∈ lw_tbl := (List.mem_filter.mp h).1
theorem tb_good {w : Cond} (h : w ∈ TBg) : (w.onTables && w.keeps) = true ∨ ∃ ty, w = .arrayClass ty := good_of_word (List.mem_filter.mp h).2
theorem gi_tb {c' : Cond} (h : c' ∈ TBg) : GoodIn TBg (c' :: TBg) := by
  intro w hw
  rcases List.mem_cons.mp hw with rfl | hw
  · exact ⟨h, tb_good h⟩
  · exact ⟨hw, tb_good hw⟩
def nestW : List (String × Nat × MethodName × String) := [(RX8, 9, yX6_init, RX8), (RX8, 12, yX7_init, RX8), (RX7, 1, yX6_init, RX8), (RX8, 15, yX0_init, RX8), (RX0, 1, yX6_init, RX8), (RX8, 18, yX5_init, RX8), (RX5, 1, yX7_init, RX8), (RX8, 21, yX3_init, RX8), (RX3, 1, yX6_init, RX8), (RX8, 24, yX1_init, RX8), (RX1, 1, yX0_init, RX8), (RX8, 44, yX4_init, RX8), (RX4, 70, yX8_isInk, RX8), (RX2, 66, yX8_isInk, RX8)]
def NF (U : State) : Prop := ∀ q ∈ nestW, va_Nw (.methodLinkNest q.1 q.2.1 q.2.2.1 q.2.2.2) U
theorem NF.warm {s U : State} (hW : s.WarmedH U.vm) (h : NF s) : NF U := fun q hq => va_Nw.warmM hW (h q hq)
theorem NF.same {s U : State} (hv : s.vm = U.vm) (h : NF s) : NF U := fun q hq => va_Nw.same rfl hv (h q hq)
abbrev Ev : Type := va_G × (ClassId × ClassId × ClassId) × (Nat → Nat) × (Nat → Nat)
def tysE (E : Ev) : List (ClassId × FieldType) := [(E.2.1.1, .int), (E.2.1.2.1, .char), (E.2.1.2.2, .object "EatenByDusk$Sparrow")]
def lenS : List Nat := [4, 5, 3, 0, 6]
def bytS : List (List Int32) := [[100, 100, 100, 59], [107, 100, 100, 100, 59], [100, 100, 59], [], [115, 116, 99, 111, 103, 102]]
def SR (ad : Nat → Nat) (U : State) : Prop := vk_R "EatenByDusk$Letters" 100 "ddd;" (ad 0) U ∧ vk_R "EatenByDusk$Letters" 102 "kddd;" (ad 1) U ∧ vk_R "EatenByDusk$Letters" 104 "dd;" (ad 2) U ∧ vk_R "EatenByDusk$Letters" 106 "" (ad 3) U ∧ vk_R "EatenByDusk$Letters" 83 "stcogf" (ad 4) U ∧ vk_R "EatenByDusk" 218 "stcogf" (ad 4) U
theorem SR.warm {ad : Nat → Nat} {s U : State} (hW : s.WarmedH U.vm) (h : SR ad s) : SR ad U := ⟨h.1.warm hW, h.2.1.warm hW, h.2.2.1.warm hW, h.2.2.2.1.warm hW, h.2.2.2.2.1.warm hW, h.2.2.2.2.2.warm hW⟩
theorem SR.same {ad : Nat → Nat} {s U : State} (hv : U.vm = s.vm) (h : SR ad s) : SR ad U := ⟨h.1.same hv, h.2.1.same hv, h.2.2.1.same hv, h.2.2.2.1.same hv, h.2.2.2.2.1.same hv, h.2.2.2.2.2.same hv⟩
def EK (E : Ev) (U : State) : Prop := va_K E.1 vwCl (tysE E) U ∧ NF U ∧ SR E.2.2.1 U
theorem EK.warm {E : Ev} {s U : State} (hW : s.WarmedH U.vm) (h : EK E s) : EK E U := ⟨va_K.moved hW.alike h.1, h.2.1.warm hW, h.2.2.warm hW⟩
theorem EK.same {E : Ev} {s U : State} (hv : s.vm = U.vm) (h : EK E s) : EK E U := ⟨va_K.moved (hv ▸ Vm.Alike.refl s.vm) h.1, h.2.1.same hv, h.2.2.same hv.symm⟩
def ES (E : Ev) (A : Nat → Prop) (U : State) (H : Heap) : Prop := vk_S 5 lenS bytS E.2.2.1 E.2.2.2 A U H ∧ va_Z "java/lang/String" "COMPACT_STRINGS" "Z" (.int 1) A U H ∧ va_Zq "jdk/internal/util/Preconditions" "SIOOBE_FORMATTER" "Ljava/util/function/BiFunction;" A U H
theorem ES.moved {E : Ev} {A : Nat → Prop} {u U : State} {H : Heap} (hvm : u.vm.Alike U.vm) (h : ES E A u H) : ES E A U H := ⟨h.1.moved hvm, h.2.1.moved hvm, h.2.2.moved hvm⟩
theorem ES.kept {E : Ev} {A : Nat → Prop} {U : State} {H H1 : Heap} (h : ES E A U H) (hq : ∀ a : Nat, a < H.size → ¬ A a → H1[a]? = H[a]?) : ES E A U H1 := ⟨h.1.kept hq, h.2.1.kept hq, h.2.2.kept hq⟩
theorem ES.narrow {E : Ev} {A B : Nat → Prop} {U : State} {H : Heap} (h : ES E A U H) (hAB : ∀ q, B q → A q) : ES E B U H := ⟨h.1.narrow hAB, h.2.1.narrow hAB, h.2.2.narrow hAB⟩
/-- the start of a method, with the world w -/
def Ent (E : Ev) (w : va_W) (sz : Nat) (U : State) : Prop := U.heap.size = sz ∧ va_P E.1 vwCl w U.heap ∧ va_D (fun _ => True) w ∧ EK E U ∧ ES E (va_A w sz) U U.heap
/-- the end of a method that began with the world w -/
def EndW (E : Ev) (w : va_W) (sz : Nat) (Post : Option Value → va_W → Prop) : Array Value → State → Outcome → State → Prop := fun _ st oc t =>
  (∃ (v : Option Value) (w2 : va_W), oc = .returned v ∧ Post v w2 ∧ va_P E.1 vwCl w2 t.heap ∧ va_D (va_A w sz) w2) ∧ va_F (va_A w sz) st t
/-- a contract -/
def CT (l : Launch) (E : Ev) (y : MethodName) (b : ByteArray) (mL : Nat) (ret : Option FieldType) (rm : Room) (as : List Value) (w : va_W) (Post : Option Value → va_W → Prop) : Prop :=
  ∀ sz : Nat, Met l y (.code y b mL ret :: TBg) rm (va_Pc as (Ent E w sz)) (EndW E w sz Post) rm.cells rm.slots (va_A w sz)
def Cx (p : Program) (s : State) (m : MethodId) (args : Array Value) (meth : Method) (c : Code) (E : Ev) (own : String) (cc : ByteArray) (nL : Nat) (ret : Option FieldType) (ini : Bool) (Xt : State → Prop) (w0 : va_W) : Prop :=
  p.tables.exec = Jvm.exec ∧ c.code = cc ∧ c.maxLocals = nL ∧ s.vm.findClass own = some m.cls ∧ (∀ w ∈ TBg, w.before args s = true) ∧ meth.sig.returnType = ret ∧ meth.locks = false ∧ EK E s ∧ ES E (va_A w0 s.heap.size) s s.heap ∧ (ini = true → meth.name = "<init>") ∧ Xt s
abbrev Qe : Type := List Frame → Array Value → State → State → Prop
def WF (l : Launch) (E : Ev) (own : String) (cc : ByteArray) (nL : Nat) (ret : Option FieldType) (rm : Room) (ini : Bool) (Xt : State → Prop) (QQ : Qe) (w0 : va_W) (ce sl pc : Nat) (lv : List (Nat × Value)) (st : List Value) (w : va_W) : Prop :=
  ∀ (p : Program) (e : Env) (s : State) (m : MethodId) (args : Array Value) (below : List Frame) (meth : Method) (c : Code) (H : Heap) (locs : List Loc) (ls : Array Slot),
    Cx p s m args meth c E own cc nL ret ini Xt w0 → lv_has ls nL lv → va_P E.1 vwCl w H → va_D (va_A w0 s.heap.size) w → va_S (va_A w0 s.heap.size) s.heap H locs →
    W p l e rm s m args below meth c H locs ce sl (QQ below args s) (F0 m pc ls st)
def QM (E : Ev) (w0 : va_W) (Post : Option Value → va_W → Prop) (rm : Room) : Qe := fun below args s => MQ below (EndW E w0 s.heap.size Post) args s rm.cells rm.slots (va_A w0 s.heap.size)
section WFS
variable {l : Launch} {E : Ev} {own : String} {cc : ByteArray} {nL : Nat} {ret : Option FieldType} {rm : Room} {ini : Bool} {Xt : State → Prop} {QQ : Qe} {w0 : va_W} {ce sl pc : Nat} {lv lv' : List (Nat × Value)} {st : List Value} {w : va_W}
/-- a contract out of the walk of the method's body -/
theorem CT.of {y : MethodName} {as : List Value} {Post : Option Value → va_W → Prop} (ini : Bool) (hy : plainName y.cls = true) (hin : ini = true → y.name = "<init>") (hl : (lg_sl as).length ≤ nL) (hlv : lv_args 0 as = lv)
    (body : WF l E y.cls cc nL ret rm ini (fun _ => True) (QM E w Post rm) w 0 0 0 lv [] w) : CT l E y cc nL ret rm as w Post := by
  intro sz
  refine Met.ofW (cc := cc) (maxL := nL) (ret := ret) hy rfl ?_
  intro p e s m args below meth c s₁ B hml hv
  obtain ⟨rfl, hsz, hP, hD0, hEK, hES⟩ := hv
  have hts := atoms_spec (ws := .code y cc nL ret :: TBg) B.pre
  subst hsz
  rw [lg_entry_eq]
  refine body p e s m _ below meth c s.heap [] _ ⟨B.exec, B.bytes, hml, findClass_of_methodNamed B.named, fun w hw => hts w (List.mem_cons_of_mem _ hw), B.returns, B.notSynchronized, hEK, hES, fun h => ?_, trivial⟩ ?_ hP hD0.self va_S.rf
  · rw [(name_of_methodNamed B.named B.method).1]; exact hin h
  · rw [← hlv]; exact lv_entry as hl
theorem wf_world (w' : va_W) (h : w = w') (k : WF l E own cc nL ret rm ini Xt QQ w0 ce sl pc lv st w') : WF l E own cc nL ret rm ini Xt QQ w0 ce sl pc lv st w := h ▸ k
theorem wf_st (st' : List Value) (h : st = st') (k : WF l E own cc nL ret rm ini Xt QQ w0 ce sl pc lv st' w) : WF l E own cc nL ret rm ini Xt QQ w0 ce sl pc lv st w := h ▸ k
theorem wf_sub (ks : List Nat) (h : lv_pick lv ks = lv') (k : WF l E own cc nL ret rm ini Xt QQ w0 ce sl pc lv' st w) : WF l E own cc nL ret rm ini Xt QQ w0 ce sl pc lv st w :=
  fun p e s m args below meth c H locs ls hC hl hP hD hS => k p e s m args below meth c H locs ls hC (lv_sub hl ks h) hP hD hS
theorem va_D.perm {A : Nat → Prop} {w w' : va_W} (h : w.Perm w') (hD : va_D A w) : va_D A w' := by
  have key : ∀ v : va_W, va_D A v ↔ (v.Pairwise (fun p q => p.1 ≠ q.1) ∧ ∀ q ∈ v, A q.1) := by
    intro v
    constructor
    · intro h
      refine ⟨List.pairwise_iff_getElem.mpr (fun i j hi hj hij e => ?_), fun q hq => ?_⟩
      · have := h.1 i j v[i] v[j] (List.getElem?_eq_getElem hi) (List.getElem?_eq_getElem hj) e
        omega
      · obtain ⟨k, hk⟩ := List.getElem?_of_mem hq
        exact h.2 k q hk
    · intro h
      refine ⟨fun i j p q hi hj e => ?_, fun k q hk => h.2 q (List.mem_of_getElem? hk)⟩
      obtain ⟨hi1, hi2⟩ := List.getElem?_eq_some_iff.mp hi
      obtain ⟨hj1, hj2⟩ := List.getElem?_eq_some_iff.mp hj
      have hp := List.pairwise_iff_getElem.mp h.1
      rcases Nat.lt_trichotomy i j with h1 | h1 | h1
      · exact absurd (by rw [hi2, hj2]; exact e) (hp i j hi1 hj1 h1)
      · exact h1
      · exact absurd (by rw [hi2, hj2]; exact e.symm) (hp j i hj1 hi1 h1)
  rw [key] at hD ⊢
  exact ⟨(h.pairwise_iff (fun {a b} (h : a.1 ≠ b.1) => h.symm)).mp hD.1, fun q hq => hD.2 q (h.mem_iff.mpr hq)⟩
theorem va_P.perm {D : va_G} {cl : List vw_C} {w w' : va_W} {H : Heap} (h : w.Perm w') (hP : va_P D cl w H) : va_P D cl w' H := by
  intro k q hk
  obtain ⟨j, hj⟩ := List.getElem?_of_mem (h.mem_iff.mpr (List.mem_of_getElem? hk))
  exact hP j q hj
theorem wf_perm {w' : va_W} (h : w.Perm w') (k : WF l E own cc nL ret rm ini Xt QQ w0 ce sl pc lv st w') : WF l E own cc nL ret rm ini Xt QQ w0 ce sl pc lv st w :=
  fun p e s m args below meth c H locs ls hC hl hP hD hS => k p e s m args below meth c H locs ls hC hl (hP.perm h) (hD.perm h) hS
/-- the same cells in other words: equal addresses, equal cells -/
theorem wf_cells {w' : va_W} (ha : w.map (·.1) = w'.map (·.1)) (hc : ∀ (D : va_G) (H : Heap), va_P D vwCl w H → va_P D vwCl w' H) (k : WF l E own cc nL ret rm ini Xt QQ w0 ce sl pc lv st w') : WF l E own cc nL ret rm ini Xt QQ w0 ce sl pc lv st w := by
  intro p e s m args below meth c H locs ls hC hl hP hD hS
  refine k p e s m args below meth c H locs ls hC hl (hc _ _ hP) ?_ hS
  have key : ∀ (i : Nat) (q : Nat × va_E), w'[i]? = some q → ∃ q', w[i]? = some q' ∧ q'.1 = q.1 := by
    intro i q hq
    have h1 : (w'.map (·.1))[i]? = some q.1 := by rw [List.getElem?_map, hq]; rfl
    rw [← ha, List.getElem?_map] at h1
    cases h2 : w[i]? with
    | none => rw [h2] at h1; cases h1
    | some q' => rw [h2] at h1; exact ⟨q', rfl, Option.some.inj h1⟩
  refine ⟨fun i j x y hi hj e => ?_, fun i q hi => ?_⟩
  · obtain ⟨x', h1, h2⟩ := key i x hi
    obtain ⟨y', h3, h4⟩ := key j y hj
    exact hD.1 i j x' y' h1 h3 (by rw [h2, h4]; exact e)
  · obtain ⟨x', h1, h2⟩ := key i q hi
    rw [← h2]; exact hD.2 i x' h1
theorem wf_widen (ce' sl' : Nat) (h1 : ce ≤ ce') (h2 : sl ≤ sl') (h3 : ce' ≤ rm.cells) (h4 : sl' ≤ rm.slots) (k : WF l E own cc nL ret rm ini Xt QQ w0 ce' sl' pc lv st w) : WF l E own cc nL ret rm ini Xt QQ w0 ce sl pc lv st w :=
  fun p e s m args below meth c H locs ls hC hl hP hD hS => W.widen h1 h2 (k p e s m args below meth c H locs ls hC hl hP hD hS)

theorem wf_iconst {n : Int} (v : Int32) (d : decode cc pc = .ok (.iconst n, 1)) (hv : Int32.ofInt n = v) (k : WF l E own cc nL ret rm ini Xt QQ w0 ce sl (pc + 1) lv (.int v :: st) w) : WF l E own cc nL ret rm ini Xt QQ w0 ce sl pc lv (st) w := by
  intro p e s m args below meth c H locs ls hC hl hP hD hS
  obtain ⟨hx, hb, hml, hown, hts, hr, hlk, hEK, hES, hin, hXt⟩ := id hC
  exact lv_iconst hx hb (v := v) d hv (k p e s m args below meth c H locs ls hC hl hP hD hS)
theorem wf_bipush {n : Int} (v : Int32) (d : decode cc pc = .ok (.bipush n, 2)) (hv : (Int8.ofInt n).toInt32 = v) (k : WF l E own cc nL ret rm ini Xt QQ w0 ce sl (pc + 2) lv (.int v :: st) w) : WF l E own cc nL ret rm ini Xt QQ w0 ce sl pc lv (st) w := by
  intro p e s m args below meth c H locs ls hC hl hP hD hS
  obtain ⟨hx, hb, hml, hown, hts, hr, hlk, hEK, hES, hin, hXt⟩ := id hC
  exact lv_bipush hx hb (v := v) d hv (k p e s m args below meth c H locs ls hC hl hP hD hS)
theorem wf_sipush {n : Int} (v : Int32) (d : decode cc pc = .ok (.sipush n, 3)) (hv : (Int16.ofInt n).toInt32 = v) (k : WF l E own cc nL ret rm ini Xt QQ w0 ce sl (pc + 3) lv (.int v :: st) w) : WF l E own cc nL ret rm ini Xt QQ w0 ce sl pc lv (st) w := by
  intro p e s m args below meth c H locs ls hC hl hP hD hS
  obtain ⟨hx, hb, hml, hown, hts, hr, hlk, hEK, hES, hin, hXt⟩ := id hC
  exact lv_sipush hx hb (v := v) d hv (k p e s m args below meth c H locs ls hC hl hP hD hS)
theorem wf_ldc {i : Nat} {v : Int32} (hk : Cond.constant own i v ∈ TBg) (d : decode cc pc = .ok (.ldc i, 2)) (k : WF l E own cc nL ret rm ini Xt QQ w0 ce sl (pc + 2) lv (.int v :: st) w) : WF l E own cc nL ret rm ini Xt QQ w0 ce sl pc lv (st) w := by
  intro p e s m args below meth c H locs ls hC hl hP hD hS
  obtain ⟨hx, hb, hml, hown, hts, hr, hlk, hEK, hES, hin, hXt⟩ := id hC
  exact lv_ldc hx hb hown (hts _ hk) d (k p e s m args below meth c H locs ls hC hl hP hD hS)
theorem wf_ldcw {i : Nat} {v : Int32} (hk : Cond.constant own i v ∈ TBg) (d : decode cc pc = .ok (.ldc_w i, 3)) (k : WF l E own cc nL ret rm ini Xt QQ w0 ce sl (pc + 3) lv (.int v :: st) w) : WF l E own cc nL ret rm ini Xt QQ w0 ce sl pc lv (st) w := by
  intro p e s m args below meth c H locs ls hC hl hP hD hS
  obtain ⟨hx, hb, hml, hown, hts, hr, hlk, hEK, hES, hin, hXt⟩ := id hC
  exact lv_ldcw hx hb hown (hts _ hk) d (k p e s m args below meth c H locs ls hC hl hP hD hS)
theorem wf_iload_n {i : Fin 4} {x : Int32} (j : Nat) (d : decode cc pc = .ok (.iload_n i, 1)) (h : lv[j]? = some ((i : Nat), .int x)) (k : WF l E own cc nL ret rm ini Xt QQ w0 ce sl (pc + 1) lv (.int x :: st) w) : WF l E own cc nL ret rm ini Xt QQ w0 ce sl pc lv (st) w := by
  intro p e s m args below meth c H locs ls hC hl hP hD hS
  obtain ⟨hx, hb, hml, hown, hts, hr, hlk, hEK, hES, hin, hXt⟩ := id hC
  exact lv_iload_n hx hb d rfl (lv_at hl j h) (k p e s m args below meth c H locs ls hC hl hP hD hS)
theorem wf_iload {i : Nat} {x : Int32} (j : Nat) (d : decode cc pc = .ok (.iload i, 2)) (h : lv[j]? = some (i, .int x)) (k : WF l E own cc nL ret rm ini Xt QQ w0 ce sl (pc + 2) lv (.int x :: st) w) : WF l E own cc nL ret rm ini Xt QQ w0 ce sl pc lv (st) w := by
  intro p e s m args below meth c H locs ls hC hl hP hD hS
  obtain ⟨hx, hb, hml, hown, hts, hr, hlk, hEK, hES, hin, hXt⟩ := id hC
  exact lv_iload hx hb d (lv_at hl j h) (k p e s m args below meth c H locs ls hC hl hP hD hS)
theorem wf_aload_n {i : Fin 4} {x : Nat} (j : Nat) (d : decode cc pc = .ok (.aload_n i, 1)) (h : lv[j]? = some ((i : Nat), .ref x)) (k : WF l E own cc nL ret rm ini Xt QQ w0 ce sl (pc + 1) lv (.ref x :: st) w) : WF l E own cc nL ret rm ini Xt QQ w0 ce sl pc lv (st) w := by
  intro p e s m args below meth c H locs ls hC hl hP hD hS
  obtain ⟨hx, hb, hml, hown, hts, hr, hlk, hEK, hES, hin, hXt⟩ := id hC
  exact lv_aload_n hx hb d rfl (lv_at hl j h) (k p e s m args below meth c H locs ls hC hl hP hD hS)
theorem wf_aload {i : Nat} {x : Nat} (j : Nat) (d : decode cc pc = .ok (.aload i, 2)) (h : lv[j]? = some (i, .ref x)) (k : WF l E own cc nL ret rm ini Xt QQ w0 ce sl (pc + 2) lv (.ref x :: st) w) : WF l E own cc nL ret rm ini Xt QQ w0 ce sl pc lv (st) w := by
  intro p e s m args below meth c H locs ls hC hl hP hD hS
  obtain ⟨hx, hb, hml, hown, hts, hr, hlk, hEK, hES, hin, hXt⟩ := id hC
  exact lv_aload hx hb d (lv_at hl j h) (k p e s m args below meth c H locs ls hC hl hP hD hS)
theorem wf_istore_n {f : Fin 4} {i : Nat} {x : Int32} (lv' : List (Nat × Value)) (d : decode cc pc = .ok (.istore_n f, 1)) (hi : (f : Nat) = i) (hn : i < nL) (h : (i, Value.int x) :: lv.filter (fun q => !(q.1 == i) && !(q.1 + 1 == i && q.2.category == 2)) = lv') (k : WF l E own cc nL ret rm ini Xt QQ w0 ce sl (pc + 1) lv' st w) : WF l E own cc nL ret rm ini Xt QQ w0 ce sl pc lv (.int x :: st) w := by
  intro p e s m args below meth c H locs ls hC hl hP hD hS
  obtain ⟨hx, hb, hml, hown, hts, hr, hlk, hEK, hES, hin, hXt⟩ := id hC
  exact lv_istore_n hx hb d hi hl hn h (fun ls hl => k p e s m args below meth c H locs ls hC hl hP hD hS)
theorem wf_istore {i : Nat} {x : Int32} (lv' : List (Nat × Value)) (d : decode cc pc = .ok (.istore i, 2)) (hn : i < nL) (h : (i, Value.int x) :: lv.filter (fun q => !(q.1 == i) && !(q.1 + 1 == i && q.2.category == 2)) = lv') (k : WF l E own cc nL ret rm ini Xt QQ w0 ce sl (pc + 2) lv' st w) : WF l E own cc nL ret rm ini Xt QQ w0 ce sl pc lv (.int x :: st) w := by
  intro p e s m args below meth c H locs ls hC hl hP hD hS
  obtain ⟨hx, hb, hml, hown, hts, hr, hlk, hEK, hES, hin, hXt⟩ := id hC
  exact lv_istore hx hb d hl hn h (fun ls hl => k p e s m args below meth c H locs ls hC hl hP hD hS)
theorem wf_astore_n {f : Fin 4} {i : Nat} {x : Nat} (lv' : List (Nat × Value)) (d : decode cc pc = .ok (.astore_n f, 1)) (hi : (f : Nat) = i) (hn : i < nL) (h : (i, Value.ref x) :: lv.filter (fun q => !(q.1 == i) && !(q.1 + 1 == i && q.2.category == 2)) = lv') (k : WF l E own cc nL ret rm ini Xt QQ w0 ce sl (pc + 1) lv' st w) : WF l E own cc nL ret rm ini Xt QQ w0 ce sl pc lv (.ref x :: st) w := by
  intro p e s m args below meth c H locs ls hC hl hP hD hS
  obtain ⟨hx, hb, hml, hown, hts, hr, hlk, hEK, hES, hin, hXt⟩ := id hC
  exact lv_astore_n hx hb d hi hl hn h (fun ls hl => k p e s m args below meth c H locs ls hC hl hP hD hS)
theorem wf_astore {i : Nat} {x : Nat} (lv' : List (Nat × Value)) (d : decode cc pc = .ok (.astore i, 2)) (hn : i < nL) (h : (i, Value.ref x) :: lv.filter (fun q => !(q.1 == i) && !(q.1 + 1 == i && q.2.category == 2)) = lv') (k : WF l E own cc nL ret rm ini Xt QQ w0 ce sl (pc + 2) lv' st w) : WF l E own cc nL ret rm ini Xt QQ w0 ce sl pc lv (.ref x :: st) w := by
  intro p e s m args below meth c H locs ls hC hl hP hD hS
  obtain ⟨hx, hb, hml, hown, hts, hr, hlk, hEK, hES, hin, hXt⟩ := id hC
  exact lv_astore hx hb d hl hn h (fun ls hl => k p e s m args below meth c H locs ls hC hl hP hD hS)
theorem wf_iinc {i : Nat} {n : Int} {x : Int32} (v : Int32) (j : Nat) (lv' : List (Nat × Value)) (d : decode cc pc = .ok (.iinc i n, 3)) (hj : lv[j]? = some (i, .int x)) (hv : x + Int32.ofInt n = v) (hn : i < nL) (h : (i, Value.int v) :: lv.filter (fun q => !(q.1 == i) && !(q.1 + 1 == i && q.2.category == 2)) = lv') (k : WF l E own cc nL ret rm ini Xt QQ w0 ce sl (pc + 3) lv' st w) : WF l E own cc nL ret rm ini Xt QQ w0 ce sl pc lv st w := by
  intro p e s m args below meth c H locs ls hC hl hP hD hS
  obtain ⟨hx, hb, hml, hown, hts, hr, hlk, hEK, hES, hin, hXt⟩ := id hC
  exact lv_iinc hx hb d hl hj hv hn h (fun ls hl => k p e s m args below meth c H locs ls hC hl hP hD hS)
theorem wf_iadd {x y : Int32} (v : Int32) (d : decode cc pc = .ok (.iadd, 1)) (hv : x + y = v) (k : WF l E own cc nL ret rm ini Xt QQ w0 ce sl (pc + 1) lv (.int v :: st) w) : WF l E own cc nL ret rm ini Xt QQ w0 ce sl pc lv (.int y :: .int x :: st) w := by
  intro p e s m args below meth c H locs ls hC hl hP hD hS
  obtain ⟨hx, hb, hml, hown, hts, hr, hlk, hEK, hES, hin, hXt⟩ := id hC
  subst hv
  exact lv_iadd hx hb d (k p e s m args below meth c H locs ls hC hl hP hD hS)
theorem wf_isub {x y : Int32} (v : Int32) (d : decode cc pc = .ok (.isub, 1)) (hv : x - y = v) (k : WF l E own cc nL ret rm ini Xt QQ w0 ce sl (pc + 1) lv (.int v :: st) w) : WF l E own cc nL ret rm ini Xt QQ w0 ce sl pc lv (.int y :: .int x :: st) w := by
  intro p e s m args below meth c H locs ls hC hl hP hD hS
  obtain ⟨hx, hb, hml, hown, hts, hr, hlk, hEK, hES, hin, hXt⟩ := id hC
  subst hv
  exact lv_isub hx hb d (k p e s m args below meth c H locs ls hC hl hP hD hS)
theorem wf_imul {x y : Int32} (v : Int32) (d : decode cc pc = .ok (.imul, 1)) (hv : x * y = v) (k : WF l E own cc nL ret rm ini Xt QQ w0 ce sl (pc + 1) lv (.int v :: st) w) : WF l E own cc nL ret rm ini Xt QQ w0 ce sl pc lv (.int y :: .int x :: st) w := by
  intro p e s m args below meth c H locs ls hC hl hP hD hS
  obtain ⟨hx, hb, hml, hown, hts, hr, hlk, hEK, hES, hin, hXt⟩ := id hC
  subst hv
  exact lv_imul hx hb d (k p e s m args below meth c H locs ls hC hl hP hD hS)
theorem wf_iand {x y : Int32} (v : Int32) (d : decode cc pc = .ok (.iand, 1)) (hv : x &&& y = v) (k : WF l E own cc nL ret rm ini Xt QQ w0 ce sl (pc + 1) lv (.int v :: st) w) : WF l E own cc nL ret rm ini Xt QQ w0 ce sl pc lv (.int y :: .int x :: st) w := by
  intro p e s m args below meth c H locs ls hC hl hP hD hS
  obtain ⟨hx, hb, hml, hown, hts, hr, hlk, hEK, hES, hin, hXt⟩ := id hC
  subst hv
  exact lv_iand hx hb d (k p e s m args below meth c H locs ls hC hl hP hD hS)
theorem wf_ior {x y : Int32} (v : Int32) (d : decode cc pc = .ok (.ior, 1)) (hv : x ||| y = v) (k : WF l E own cc nL ret rm ini Xt QQ w0 ce sl (pc + 1) lv (.int v :: st) w) : WF l E own cc nL ret rm ini Xt QQ w0 ce sl pc lv (.int y :: .int x :: st) w := by
  intro p e s m args below meth c H locs ls hC hl hP hD hS
  obtain ⟨hx, hb, hml, hown, hts, hr, hlk, hEK, hES, hin, hXt⟩ := id hC
  subst hv
  exact lv_ior hx hb d (k p e s m args below meth c H locs ls hC hl hP hD hS)
theorem wf_ixor {x y : Int32} (v : Int32) (d : decode cc pc = .ok (.ixor, 1)) (hv : x ^^^ y = v) (k : WF l E own cc nL ret rm ini Xt QQ w0 ce sl (pc + 1) lv (.int v :: st) w) : WF l E own cc nL ret rm ini Xt QQ w0 ce sl pc lv (.int y :: .int x :: st) w := by
  intro p e s m args below meth c H locs ls hC hl hP hD hS
  obtain ⟨hx, hb, hml, hown, hts, hr, hlk, hEK, hES, hin, hXt⟩ := id hC
  subst hv
  exact lv_ixor hx hb d (k p e s m args below meth c H locs ls hC hl hP hD hS)
theorem wf_ishl {x y : Int32} (v : Int32) (d : decode cc pc = .ok (.ishl, 1)) (hv : x <<< (y &&& 31) = v) (k : WF l E own cc nL ret rm ini Xt QQ w0 ce sl (pc + 1) lv (.int v :: st) w) : WF l E own cc nL ret rm ini Xt QQ w0 ce sl pc lv (.int y :: .int x :: st) w := by
  intro p e s m args below meth c H locs ls hC hl hP hD hS
  obtain ⟨hx, hb, hml, hown, hts, hr, hlk, hEK, hES, hin, hXt⟩ := id hC
  subst hv
  exact lv_ishl hx hb d (k p e s m args below meth c H locs ls hC hl hP hD hS)
theorem wf_ishr {x y : Int32} (v : Int32) (d : decode cc pc = .ok (.ishr, 1)) (hv : x >>> (y &&& 31) = v) (k : WF l E own cc nL ret rm ini Xt QQ w0 ce sl (pc + 1) lv (.int v :: st) w) : WF l E own cc nL ret rm ini Xt QQ w0 ce sl pc lv (.int y :: .int x :: st) w := by
  intro p e s m args below meth c H locs ls hC hl hP hD hS
  obtain ⟨hx, hb, hml, hown, hts, hr, hlk, hEK, hES, hin, hXt⟩ := id hC
  subst hv
  exact lv_ishr hx hb d (k p e s m args below meth c H locs ls hC hl hP hD hS)
theorem wf_idiv {x y : Int32} (v : Int32) (d : decode cc pc = .ok (.idiv, 1)) (hy : ¬ y = 0) (hv : x / y = v) (k : WF l E own cc nL ret rm ini Xt QQ w0 ce sl (pc + 1) lv (.int v :: st) w) : WF l E own cc nL ret rm ini Xt QQ w0 ce sl pc lv (.int y :: .int x :: st) w := by
  intro p e s m args below meth c H locs ls hC hl hP hD hS
  obtain ⟨hx, hb, hml, hown, hts, hr, hlk, hEK, hES, hin, hXt⟩ := id hC
  subst hv
  exact lv_idiv hx hb d hy (k p e s m args below meth c H locs ls hC hl hP hD hS)
theorem wf_irem {x y : Int32} (v : Int32) (d : decode cc pc = .ok (.irem, 1)) (hy : ¬ y = 0) (hv : x - x / y * y = v) (k : WF l E own cc nL ret rm ini Xt QQ w0 ce sl (pc + 1) lv (.int v :: st) w) : WF l E own cc nL ret rm ini Xt QQ w0 ce sl pc lv (.int y :: .int x :: st) w := by
  intro p e s m args below meth c H locs ls hC hl hP hD hS
  obtain ⟨hx, hb, hml, hown, hts, hr, hlk, hEK, hES, hin, hXt⟩ := id hC
  subst hv
  exact lv_irem hx hb d hy (k p e s m args below meth c H locs ls hC hl hP hD hS)
theorem wf_ineg {x : Int32} (v : Int32) (d : decode cc pc = .ok (.ineg, 1)) (hv : -x = v) (k : WF l E own cc nL ret rm ini Xt QQ w0 ce sl (pc + 1) lv (.int v :: st) w) : WF l E own cc nL ret rm ini Xt QQ w0 ce sl pc lv (.int x :: st) w := by
  intro p e s m args below meth c H locs ls hC hl hP hD hS
  obtain ⟨hx, hb, hml, hown, hts, hr, hlk, hEK, hES, hin, hXt⟩ := id hC
  subst hv
  exact lv_ineg hx hb d (k p e s m args below meth c H locs ls hC hl hP hD hS)
theorem wf_iushr {x y : Int32} (v : Int32) (d : decode cc pc = .ok (.iushr, 1)) (hv : (x.toUInt32 >>> (y.toUInt32 &&& Int32.toUInt32 31)).toInt32 = v) (k : WF l E own cc nL ret rm ini Xt QQ w0 ce sl (pc + 1) lv (.int v :: st) w) : WF l E own cc nL ret rm ini Xt QQ w0 ce sl pc lv (.int y :: .int x :: st) w := by
  intro p e s m args below meth c H locs ls hC hl hP hD hS
  obtain ⟨hx, hb, hml, hown, hts, hr, hlk, hEK, hES, hin, hXt⟩ := id hC
  exact lv_iushr hx hb d hv (k p e s m args below meth c H locs ls hC hl hP hD hS)
theorem wf_i2c {x : Int32} (v : Int32) (d : decode cc pc = .ok (.i2c, 1)) (hv : (x.toUInt32 % 65536).toInt32 = v) (k : WF l E own cc nL ret rm ini Xt QQ w0 ce sl (pc + 1) lv (.int v :: st) w) : WF l E own cc nL ret rm ini Xt QQ w0 ce sl pc lv (.int x :: st) w := by
  intro p e s m args below meth c H locs ls hC hl hP hD hS
  obtain ⟨hx, hb, hml, hown, hts, hr, hlk, hEK, hES, hin, hXt⟩ := id hC
  exact lv_i2c hx hb d hv (k p e s m args below meth c H locs ls hC hl hP hD hS)
theorem wf_i2b {x : Int32} (v : Int32) (d : decode cc pc = .ok (.i2b, 1)) (hv : x.toInt8.toInt32 = v) (k : WF l E own cc nL ret rm ini Xt QQ w0 ce sl (pc + 1) lv (.int v :: st) w) : WF l E own cc nL ret rm ini Xt QQ w0 ce sl pc lv (.int x :: st) w := by
  intro p e s m args below meth c H locs ls hC hl hP hD hS
  obtain ⟨hx, hb, hml, hown, hts, hr, hlk, hEK, hES, hin, hXt⟩ := id hC
  exact lv_i2b hx hb d hv (k p e s m args below meth c H locs ls hC hl hP hD hS)
theorem wf_dup {va : Value} (d : decode cc pc = .ok (.dup, 1)) (hva : va.category = 1) (k : WF l E own cc nL ret rm ini Xt QQ w0 ce sl (pc + 1) lv (va :: va :: st) w) : WF l E own cc nL ret rm ini Xt QQ w0 ce sl pc lv (va :: st) w := by
  intro p e s m args below meth c H locs ls hC hl hP hD hS
  obtain ⟨hx, hb, hml, hown, hts, hr, hlk, hEK, hES, hin, hXt⟩ := id hC
  exact lv_dup hx hb d hva (k p e s m args below meth c H locs ls hC hl hP hD hS)
theorem wf_pop {va : Value} (d : decode cc pc = .ok (.pop, 1)) (hva : va.category = 1) (k : WF l E own cc nL ret rm ini Xt QQ w0 ce sl (pc + 1) lv (st) w) : WF l E own cc nL ret rm ini Xt QQ w0 ce sl pc lv (va :: st) w := by
  intro p e s m args below meth c H locs ls hC hl hP hD hS
  obtain ⟨hx, hb, hml, hown, hts, hr, hlk, hEK, hES, hin, hXt⟩ := id hC
  exact lv_pop hx hb d hva (k p e s m args below meth c H locs ls hC hl hP hD hS)
theorem wf_dup_x1 {va vb : Value} (d : decode cc pc = .ok (.dup_x1, 1)) (hva : va.category = 1) (hvb : vb.category = 1) (k : WF l E own cc nL ret rm ini Xt QQ w0 ce sl (pc + 1) lv (va :: vb :: va :: st) w) : WF l E own cc nL ret rm ini Xt QQ w0 ce sl pc lv (va :: vb :: st) w := by
  intro p e s m args below meth c H locs ls hC hl hP hD hS
  obtain ⟨hx, hb, hml, hown, hts, hr, hlk, hEK, hES, hin, hXt⟩ := id hC
  exact lv_dup_x1 hx hb d hva hvb (k p e s m args below meth c H locs ls hC hl hP hD hS)
theorem wf_dup_x2 {va vb vd : Value} (d : decode cc pc = .ok (.dup_x2, 1)) (hva : va.category = 1) (hvb : vb.category = 1) (hvd : vd.category = 1) (k : WF l E own cc nL ret rm ini Xt QQ w0 ce sl (pc + 1) lv (va :: vb :: vd :: va :: st) w) : WF l E own cc nL ret rm ini Xt QQ w0 ce sl pc lv (va :: vb :: vd :: st) w := by
  intro p e s m args below meth c H locs ls hC hl hP hD hS
  obtain ⟨hx, hb, hml, hown, hts, hr, hlk, hEK, hES, hin, hXt⟩ := id hC
  exact lv_dup_x2 hx hb d hva hvb hvd (k p e s m args below meth c H locs ls hC hl hP hD hS)
theorem wf_dup2 {va vb : Value} (d : decode cc pc = .ok (.dup2, 1)) (hva : va.category = 1) (hvb : vb.category = 1) (k : WF l E own cc nL ret rm ini Xt QQ w0 ce sl (pc + 1) lv (va :: vb :: va :: vb :: st) w) : WF l E own cc nL ret rm ini Xt QQ w0 ce sl pc lv (va :: vb :: st) w := by
  intro p e s m args below meth c H locs ls hC hl hP hD hS
  obtain ⟨hx, hb, hml, hown, hts, hr, hlk, hEK, hES, hin, hXt⟩ := id hC
  exact lv_dup2_11 hx hb d hva hvb (k p e s m args below meth c H locs ls hC hl hP hD hS)
theorem wf_goto {off : Int} (tgt : Nat) (d : decode cc pc = .ok (.goto off, 3)) (ht : (pc : Int) + off = (tgt : Int)) (k : WF l E own cc nL ret rm ini Xt QQ w0 ce sl tgt lv (st) w) : WF l E own cc nL ret rm ini Xt QQ w0 ce sl pc lv (st) w := by
  intro p e s m args below meth c H locs ls hC hl hP hD hS
  obtain ⟨hx, hb, hml, hown, hts, hr, hlk, hEK, hES, hin, hXt⟩ := id hC
  exact lv_goto hx hb d ht (k p e s m args below meth c H locs ls hC hl hP hD hS)
theorem wf_icmp_eq {x y : Int32} {off : Int} (tgt : Nat) (d : decode cc pc = .ok (.if_icmp .eq off, 3)) (ht : (pc : Int) + off = (tgt : Int)) (kt : x = y → WF l E own cc nL ret rm ini Xt QQ w0 ce sl tgt lv st w) (kf : ¬ (x = y) → WF l E own cc nL ret rm ini Xt QQ w0 ce sl (pc + 3) lv st w) : WF l E own cc nL ret rm ini Xt QQ w0 ce sl pc lv (.int y :: .int x :: st) w := by
  intro p e s m args below meth c H locs ls hC hl hP hD hS
  obtain ⟨hx, hb, hml, hown, hts, hr, hlk, hEK, hES, hin, hXt⟩ := id hC
  exact lv_icmp_eq hx hb d ht (fun h => kt h p e s m args below meth c H locs ls hC hl hP hD hS) (fun h => kf h p e s m args below meth c H locs ls hC hl hP hD hS)
theorem wf_if_eq {x : Int32} {off : Int} (tgt : Nat) (d : decode cc pc = .ok (.ifCond .eq off, 3)) (ht : (pc : Int) + off = (tgt : Int)) (kt : x = 0 → WF l E own cc nL ret rm ini Xt QQ w0 ce sl tgt lv st w) (kf : ¬ (x = 0) → WF l E own cc nL ret rm ini Xt QQ w0 ce sl (pc + 3) lv st w) : WF l E own cc nL ret rm ini Xt QQ w0 ce sl pc lv (.int x :: st) w := by
  intro p e s m args below meth c H locs ls hC hl hP hD hS
  obtain ⟨hx, hb, hml, hown, hts, hr, hlk, hEK, hES, hin, hXt⟩ := id hC
  exact lv_if_eq hx hb d ht (fun h => kt h p e s m args below meth c H locs ls hC hl hP hD hS) (fun h => kf h p e s m args below meth c H locs ls hC hl hP hD hS)
theorem wf_icmp_ne {x y : Int32} {off : Int} (tgt : Nat) (d : decode cc pc = .ok (.if_icmp .ne off, 3)) (ht : (pc : Int) + off = (tgt : Int)) (kt : x ≠ y → WF l E own cc nL ret rm ini Xt QQ w0 ce sl tgt lv st w) (kf : x = y → WF l E own cc nL ret rm ini Xt QQ w0 ce sl (pc + 3) lv st w) : WF l E own cc nL ret rm ini Xt QQ w0 ce sl pc lv (.int y :: .int x :: st) w := by
  intro p e s m args below meth c H locs ls hC hl hP hD hS
  obtain ⟨hx, hb, hml, hown, hts, hr, hlk, hEK, hES, hin, hXt⟩ := id hC
  exact lv_icmp_ne hx hb d ht (fun h => kt h p e s m args below meth c H locs ls hC hl hP hD hS) (fun h => kf h p e s m args below meth c H locs ls hC hl hP hD hS)
theorem wf_if_ne {x : Int32} {off : Int} (tgt : Nat) (d : decode cc pc = .ok (.ifCond .ne off, 3)) (ht : (pc : Int) + off = (tgt : Int)) (kt : x ≠ 0 → WF l E own cc nL ret rm ini Xt QQ w0 ce sl tgt lv st w) (kf : x = 0 → WF l E own cc nL ret rm ini Xt QQ w0 ce sl (pc + 3) lv st w) : WF l E own cc nL ret rm ini Xt QQ w0 ce sl pc lv (.int x :: st) w := by
  intro p e s m args below meth c H locs ls hC hl hP hD hS
  obtain ⟨hx, hb, hml, hown, hts, hr, hlk, hEK, hES, hin, hXt⟩ := id hC
  exact lv_if_ne hx hb d ht (fun h => kt h p e s m args below meth c H locs ls hC hl hP hD hS) (fun h => kf h p e s m args below meth c H locs ls hC hl hP hD hS)
theorem wf_icmp_lt {x y : Int32} {off : Int} (tgt : Nat) (d : decode cc pc = .ok (.if_icmp .lt off, 3)) (ht : (pc : Int) + off = (tgt : Int)) (kt : x < y → WF l E own cc nL ret rm ini Xt QQ w0 ce sl tgt lv st w) (kf : ¬ (x < y) → WF l E own cc nL ret rm ini Xt QQ w0 ce sl (pc + 3) lv st w) : WF l E own cc nL ret rm ini Xt QQ w0 ce sl pc lv (.int y :: .int x :: st) w := by
  intro p e s m args below meth c H locs ls hC hl hP hD hS
  obtain ⟨hx, hb, hml, hown, hts, hr, hlk, hEK, hES, hin, hXt⟩ := id hC
  exact lv_icmp_lt hx hb d ht (fun h => kt h p e s m args below meth c H locs ls hC hl hP hD hS) (fun h => kf h p e s m args below meth c H locs ls hC hl hP hD hS)
theorem wf_if_lt {x : Int32} {off : Int} (tgt : Nat) (d : decode cc pc = .ok (.ifCond .lt off, 3)) (ht : (pc : Int) + off = (tgt : Int)) (kt : x < 0 → WF l E own cc nL ret rm ini Xt QQ w0 ce sl tgt lv st w) (kf : ¬ (x < 0) → WF l E own cc nL ret rm ini Xt QQ w0 ce sl (pc + 3) lv st w) : WF l E own cc nL ret rm ini Xt QQ w0 ce sl pc lv (.int x :: st) w := by
  intro p e s m args below meth c H locs ls hC hl hP hD hS
  obtain ⟨hx, hb, hml, hown, hts, hr, hlk, hEK, hES, hin, hXt⟩ := id hC
  exact lv_if_lt hx hb d ht (fun h => kt h p e s m args below meth c H locs ls hC hl hP hD hS) (fun h => kf h p e s m args below meth c H locs ls hC hl hP hD hS)
theorem wf_icmp_ge {x y : Int32} {off : Int} (tgt : Nat) (d : decode cc pc = .ok (.if_icmp .ge off, 3)) (ht : (pc : Int) + off = (tgt : Int)) (kt : y ≤ x → WF l E own cc nL ret rm ini Xt QQ w0 ce sl tgt lv st w) (kf : ¬ (y ≤ x) → WF l E own cc nL ret rm ini Xt QQ w0 ce sl (pc + 3) lv st w) : WF l E own cc nL ret rm ini Xt QQ w0 ce sl pc lv (.int y :: .int x :: st) w := by
  intro p e s m args below meth c H locs ls hC hl hP hD hS
  obtain ⟨hx, hb, hml, hown, hts, hr, hlk, hEK, hES, hin, hXt⟩ := id hC
  exact lv_icmp_ge hx hb d ht (fun h => kt h p e s m args below meth c H locs ls hC hl hP hD hS) (fun h => kf h p e s m args below meth c H locs ls hC hl hP hD hS)
theorem wf_if_ge {x : Int32} {off : Int} (tgt : Nat) (d : decode cc pc = .ok (.ifCond .ge off, 3)) (ht : (pc : Int) + off = (tgt : Int)) (kt : 0 ≤ x → WF l E own cc nL ret rm ini Xt QQ w0 ce sl tgt lv st w) (kf : ¬ (0 ≤ x) → WF l E own cc nL ret rm ini Xt QQ w0 ce sl (pc + 3) lv st w) : WF l E own cc nL ret rm ini Xt QQ w0 ce sl pc lv (.int x :: st) w := by
  intro p e s m args below meth c H locs ls hC hl hP hD hS
  obtain ⟨hx, hb, hml, hown, hts, hr, hlk, hEK, hES, hin, hXt⟩ := id hC
  exact lv_if_ge hx hb d ht (fun h => kt h p e s m args below meth c H locs ls hC hl hP hD hS) (fun h => kf h p e s m args below meth c H locs ls hC hl hP hD hS)
theorem wf_icmp_gt {x y : Int32} {off : Int} (tgt : Nat) (d : decode cc pc = .ok (.if_icmp .gt off, 3)) (ht : (pc : Int) + off = (tgt : Int)) (kt : y < x → WF l E own cc nL ret rm ini Xt QQ w0 ce sl tgt lv st w) (kf : ¬ (y < x) → WF l E own cc nL ret rm ini Xt QQ w0 ce sl (pc + 3) lv st w) : WF l E own cc nL ret rm ini Xt QQ w0 ce sl pc lv (.int y :: .int x :: st) w := by
  intro p e s m args below meth c H locs ls hC hl hP hD hS
  obtain ⟨hx, hb, hml, hown, hts, hr, hlk, hEK, hES, hin, hXt⟩ := id hC
  exact lv_icmp_gt hx hb d ht (fun h => kt h p e s m args below meth c H locs ls hC hl hP hD hS) (fun h => kf h p e s m args below meth c H locs ls hC hl hP hD hS)
theorem wf_if_gt {x : Int32} {off : Int} (tgt : Nat) (d : decode cc pc = .ok (.ifCond .gt off, 3)) (ht : (pc : Int) + off = (tgt : Int)) (kt : 0 < x → WF l E own cc nL ret rm ini Xt QQ w0 ce sl tgt lv st w) (kf : ¬ (0 < x) → WF l E own cc nL ret rm ini Xt QQ w0 ce sl (pc + 3) lv st w) : WF l E own cc nL ret rm ini Xt QQ w0 ce sl pc lv (.int x :: st) w := by
  intro p e s m args below meth c H locs ls hC hl hP hD hS
  obtain ⟨hx, hb, hml, hown, hts, hr, hlk, hEK, hES, hin, hXt⟩ := id hC
  exact lv_if_gt hx hb d ht (fun h => kt h p e s m args below meth c H locs ls hC hl hP hD hS) (fun h => kf h p e s m args below meth c H locs ls hC hl hP hD hS)
theorem wf_icmp_le {x y : Int32} {off : Int} (tgt : Nat) (d : decode cc pc = .ok (.if_icmp .le off, 3)) (ht : (pc : Int) + off = (tgt : Int)) (kt : x ≤ y → WF l E own cc nL ret rm ini Xt QQ w0 ce sl tgt lv st w) (kf : ¬ (x ≤ y) → WF l E own cc nL ret rm ini Xt QQ w0 ce sl (pc + 3) lv st w) : WF l E own cc nL ret rm ini Xt QQ w0 ce sl pc lv (.int y :: .int x :: st) w := by
  intro p e s m args below meth c H locs ls hC hl hP hD hS
  obtain ⟨hx, hb, hml, hown, hts, hr, hlk, hEK, hES, hin, hXt⟩ := id hC
  exact lv_icmp_le hx hb d ht (fun h => kt h p e s m args below meth c H locs ls hC hl hP hD hS) (fun h => kf h p e s m args below meth c H locs ls hC hl hP hD hS)
theorem wf_if_le {x : Int32} {off : Int} (tgt : Nat) (d : decode cc pc = .ok (.ifCond .le off, 3)) (ht : (pc : Int) + off = (tgt : Int)) (kt : x ≤ 0 → WF l E own cc nL ret rm ini Xt QQ w0 ce sl tgt lv st w) (kf : ¬ (x ≤ 0) → WF l E own cc nL ret rm ini Xt QQ w0 ce sl (pc + 3) lv st w) : WF l E own cc nL ret rm ini Xt QQ w0 ce sl pc lv (.int x :: st) w := by
  intro p e s m args below meth c H locs ls hC hl hP hD hS
  obtain ⟨hx, hb, hml, hown, hts, hr, hlk, hEK, hES, hin, hXt⟩ := id hC
  exact lv_if_le hx hb d ht (fun h => kt h p e s m args below meth c H locs ls hC hl hP hD hS) (fun h => kf h p e s m args below meth c H locs ls hC hl hP hD hS)
theorem wf_icmp_eq_n {a b : Nat} {off : Int} (tgt : Nat) (d : decode cc pc = .ok (.if_icmp .eq off, 3)) (ht : (pc : Int) + off = (tgt : Int)) (ha : a < 2 ^ 31) (hb : b < 2 ^ 31) (kt : a = b → WF l E own cc nL ret rm ini Xt QQ w0 ce sl tgt lv st w) (kf : a ≠ b → WF l E own cc nL ret rm ini Xt QQ w0 ce sl (pc + 3) lv st w) : WF l E own cc nL ret rm ini Xt QQ w0 ce sl pc lv (.int (nI b) :: .int (nI a) :: st) w :=
  wf_icmp_eq tgt d ht (fun h => kt ((nI_eq ha hb).mp h)) (fun h => kf (fun e => h ((nI_eq ha hb).mpr e)))
theorem wf_icmp_ne_n {a b : Nat} {off : Int} (tgt : Nat) (d : decode cc pc = .ok (.if_icmp .ne off, 3)) (ht : (pc : Int) + off = (tgt : Int)) (ha : a < 2 ^ 31) (hb : b < 2 ^ 31) (kt : a ≠ b → WF l E own cc nL ret rm ini Xt QQ w0 ce sl tgt lv st w) (kf : a = b → WF l E own cc nL ret rm ini Xt QQ w0 ce sl (pc + 3) lv st w) : WF l E own cc nL ret rm ini Xt QQ w0 ce sl pc lv (.int (nI b) :: .int (nI a) :: st) w :=
  wf_icmp_ne tgt d ht (fun h => kt (fun e => h ((nI_eq ha hb).mpr e))) (fun h => kf ((nI_eq ha hb).mp h))
theorem wf_icmp_lt_n {a b : Nat} {off : Int} (tgt : Nat) (d : decode cc pc = .ok (.if_icmp .lt off, 3)) (ht : (pc : Int) + off = (tgt : Int)) (ha : a < 2 ^ 31) (hb : b < 2 ^ 31) (kt : a < b → WF l E own cc nL ret rm ini Xt QQ w0 ce sl tgt lv st w) (kf : b ≤ a → WF l E own cc nL ret rm ini Xt QQ w0 ce sl (pc + 3) lv st w) : WF l E own cc nL ret rm ini Xt QQ w0 ce sl pc lv (.int (nI b) :: .int (nI a) :: st) w :=
  wf_icmp_lt tgt d ht (fun h => kt ((nI_ltI ha hb).mp h)) (fun h => kf (Nat.not_lt.mp (fun e => h ((nI_ltI ha hb).mpr e))))
theorem wf_icmp_ge_n {a b : Nat} {off : Int} (tgt : Nat) (d : decode cc pc = .ok (.if_icmp .ge off, 3)) (ht : (pc : Int) + off = (tgt : Int)) (ha : a < 2 ^ 31) (hb : b < 2 ^ 31) (kt : b ≤ a → WF l E own cc nL ret rm ini Xt QQ w0 ce sl tgt lv st w) (kf : a < b → WF l E own cc nL ret rm ini Xt QQ w0 ce sl (pc + 3) lv st w) : WF l E own cc nL ret rm ini Xt QQ w0 ce sl pc lv (.int (nI b) :: .int (nI a) :: st) w :=
  wf_icmp_ge tgt d ht (fun h => kt ((nI_leI hb ha).mp h)) (fun h => kf (Nat.not_le.mp (fun e => h ((nI_leI hb ha).mpr e))))
theorem wf_icmp_gt_n {a b : Nat} {off : Int} (tgt : Nat) (d : decode cc pc = .ok (.if_icmp .gt off, 3)) (ht : (pc : Int) + off = (tgt : Int)) (ha : a < 2 ^ 31) (hb : b < 2 ^ 31) (kt : b < a → WF l E own cc nL ret rm ini Xt QQ w0 ce sl tgt lv st w) (kf : a ≤ b → WF l E own cc nL ret rm ini Xt QQ w0 ce sl (pc + 3) lv st w) : WF l E own cc nL ret rm ini Xt QQ w0 ce sl pc lv (.int (nI b) :: .int (nI a) :: st) w :=
  wf_icmp_gt tgt d ht (fun h => kt ((nI_ltI hb ha).mp h)) (fun h => kf (Nat.not_lt.mp (fun e => h ((nI_ltI hb ha).mpr e))))
theorem wf_icmp_le_n {a b : Nat} {off : Int} (tgt : Nat) (d : decode cc pc = .ok (.if_icmp .le off, 3)) (ht : (pc : Int) + off = (tgt : Int)) (ha : a < 2 ^ 31) (hb : b < 2 ^ 31) (kt : a ≤ b → WF l E own cc nL ret rm ini Xt QQ w0 ce sl tgt lv st w) (kf : b < a → WF l E own cc nL ret rm ini Xt QQ w0 ce sl (pc + 3) lv st w) : WF l E own cc nL ret rm ini Xt QQ w0 ce sl pc lv (.int (nI b) :: .int (nI a) :: st) w :=
  wf_icmp_le tgt d ht (fun h => kt ((nI_leI ha hb).mp h)) (fun h => kf (Nat.not_le.mp (fun e => h ((nI_leI ha hb).mpr e))))
theorem wf_if_eq_n {a : Nat} {off : Int} (tgt : Nat) (d : decode cc pc = .ok (.ifCond .eq off, 3)) (ht : (pc : Int) + off = (tgt : Int)) (ha : a < 2 ^ 31) (kt : a = 0 → WF l E own cc nL ret rm ini Xt QQ w0 ce sl tgt lv st w) (kf : a ≠ 0 → WF l E own cc nL ret rm ini Xt QQ w0 ce sl (pc + 3) lv st w) : WF l E own cc nL ret rm ini Xt QQ w0 ce sl pc lv (.int (nI a) :: st) w :=
  wf_if_eq tgt d ht (fun h => kt ((nI_eq ha (by decide)).mp (h.trans nI_0.symm))) (fun h => kf (fun e => h (by rw [e]; exact nI_0)))
theorem wf_if_ne_n {a : Nat} {off : Int} (tgt : Nat) (d : decode cc pc = .ok (.ifCond .ne off, 3)) (ht : (pc : Int) + off = (tgt : Int)) (ha : a < 2 ^ 31) (kt : a ≠ 0 → WF l E own cc nL ret rm ini Xt QQ w0 ce sl tgt lv st w) (kf : a = 0 → WF l E own cc nL ret rm ini Xt QQ w0 ce sl (pc + 3) lv st w) : WF l E own cc nL ret rm ini Xt QQ w0 ce sl pc lv (.int (nI a) :: st) w :=
  wf_if_ne tgt d ht (fun h => kt (fun e => h (by rw [e]; exact nI_0))) (fun h => kf ((nI_eq ha (by decide)).mp (h.trans nI_0.symm)))
def bI (b : Bool) : Int32 := if b = true then 1 else 0
theorem bI_t : bI true = 1 := rfl
theorem bI_f : bI false = 0 := rfl
theorem bI_nar (b : Bool) : narrow .boolean (.int (bI b)) = .int (bI b) := by cases b <;> rfl
theorem bI_fit (b : Bool) : fits .boolean (.int (bI b)) = true := by cases b <;> rfl
theorem wf_if_eq_b {b : Bool} {off : Int} (tgt : Nat) (d : decode cc pc = .ok (.ifCond .eq off, 3)) (ht : (pc : Int) + off = (tgt : Int)) (kt : b = false → WF l E own cc nL ret rm ini Xt QQ w0 ce sl tgt lv st w) (kf : b = true → WF l E own cc nL ret rm ini Xt QQ w0 ce sl (pc + 3) lv st w) : WF l E own cc nL ret rm ini Xt QQ w0 ce sl pc lv (.int (bI b) :: st) w := by
  cases b
  · exact wf_if_eq tgt d ht (fun _ => kt rfl) (fun h => absurd rfl h)
  · exact wf_if_eq tgt d ht (fun h => absurd h (by decide)) (fun _ => kf rfl)
theorem wf_if_ne_b {b : Bool} {off : Int} (tgt : Nat) (d : decode cc pc = .ok (.ifCond .ne off, 3)) (ht : (pc : Int) + off = (tgt : Int)) (kt : b = true → WF l E own cc nL ret rm ini Xt QQ w0 ce sl tgt lv st w) (kf : b = false → WF l E own cc nL ret rm ini Xt QQ w0 ce sl (pc + 3) lv st w) : WF l E own cc nL ret rm ini Xt QQ w0 ce sl pc lv (.int (bI b) :: st) w := by
  cases b
  · exact wf_if_ne tgt d ht (fun h => absurd rfl h) (fun _ => kf rfl)
  · exact wf_if_ne tgt d ht (fun _ => kt rfl) (fun h => absurd h (by decide))
theorem wf_tableIn {dflt lo hi : Int} {offs : Array Int} {len : Nat} {x : Int32} {off : Int} (tgt : Nat) (d : decode cc pc = .ok (.tableswitch dflt lo hi offs, len)) (h1 : ¬ x.toInt < lo) (h2 : ¬ hi < x.toInt) (ho : offs[(x.toInt - lo).toNat]? = some off) (ht : (pc : Int) + off = (tgt : Int)) (k : WF l E own cc nL ret rm ini Xt QQ w0 ce sl tgt lv st w) : WF l E own cc nL ret rm ini Xt QQ w0 ce sl pc lv (.int x :: st) w := by
  intro p e s m args below meth c H locs ls hC hl hP hD hS
  obtain ⟨hx, hb, hml, hown, hts, hr, hlk, hEK, hES, hin, hXt⟩ := id hC
  exact lv_tableIn hx hb d h1 h2 ho ht (k p e s m args below meth c H locs ls hC hl hP hD hS)
theorem wf_tableOut {dflt lo hi : Int} {offs : Array Int} {len : Nat} {x : Int32} (tgt : Nat) (d : decode cc pc = .ok (.tableswitch dflt lo hi offs, len)) (h : x.toInt < lo ∨ hi < x.toInt) (ht : (pc : Int) + dflt = (tgt : Int)) (k : WF l E own cc nL ret rm ini Xt QQ w0 ce sl tgt lv st w) : WF l E own cc nL ret rm ini Xt QQ w0 ce sl pc lv (.int x :: st) w := by
  intro p e s m args below meth c H locs ls hC hl hP hD hS
  obtain ⟨hx, hb, hml, hown, hts, hr, hlk, hEK, hES, hin, hXt⟩ := id hC
  exact lv_tableOut hx hb d h ht (k p e s m args below meth c H locs ls hC hl hP hD hS)
theorem wf_lookup {dflt : Int} {ps : Array (Int × Int)} {len : Nat} {x : Int32} {off : Int} (tgt : Nat) (d : decode cc pc = .ok (.lookupswitch dflt ps, len)) (hp : (ps.toList.zip (ps.toList.drop 1)).all (fun (a, next) => a.1 < next.1) = true) (ho : Op.lookupswitch.offset ps.toList dflt x.toInt = off) (ht : (pc : Int) + off = (tgt : Int)) (k : WF l E own cc nL ret rm ini Xt QQ w0 ce sl tgt lv st w) : WF l E own cc nL ret rm ini Xt QQ w0 ce sl pc lv (.int x :: st) w := by
  intro p e s m args below meth c H locs ls hC hl hP hD hS
  obtain ⟨hx, hb, hml, hown, hts, hr, hlk, hEK, hES, hin, hXt⟩ := id hC
  exact lv_lookup hx hb d hp ho ht (k p e s m args below meth c H locs ls hC hl hP hD hS)
theorem wf_getf {C : String} {T : u_T} {N ci i a : Nat} {fs : List Value} {v : Value} (q0 k0 : Nat) (hin : ∀ w ∈ u_ws C T N, w ∈ TBg) (he : w[q0]? = some (a, .inr (ci, fs))) (hc : vwCl[ci]? = some (C, T, N)) (hk : k0 < N) (hlink : Cond.fieldLink own i (T k0).1 (T k0).2.1 (T k0).2.2.1 ∈ TBg) (hv : fs[k0]? = some v) (d : decode cc pc = .ok (.getfield i, 3)) (k : WF l E own cc nL ret rm ini Xt QQ w0 ce sl (pc + 3) lv (v :: st) w) : WF l E own cc nL ret rm ini Xt QQ w0 ce sl pc lv (.ref a :: st) w := by
  intro p e s m args below meth c H locs ls hC hl hP hD hS
  obtain ⟨hx, hb, hml, hown, hts, hr, hlk, hEK, hES, hni, hXt⟩ := id hC
  exact va_get hx hb hts hin hown hEK.1 hP q0 he hc k0 hk (hts _ hlink) (fun _ h => h) hv d (k p e s m args below meth c H locs ls hC hl hP hD hS)
theorem wf_putf {C : String} {T : u_T} {N ci i a : Nat} {fs : List Value} {v : Value} {ty : FieldType} (q0 k0 : Nat) (w' : va_W) (ty0 : Nat → FieldType) (hin : ∀ w ∈ u_ws C T N, w ∈ TBg) (hty : ∀ k, k < N → parseFieldDescriptor (T k).2.2.1 = some (ty0 k)) (hnm : ∀ a, a < N → ∀ b, b < N → a ≠ b → (T a).2.1 ≠ (T b).2.1) (he : w[q0]? = some (a, .inr (ci, fs))) (hc : vwCl[ci]? = some (C, T, N)) (hk : k0 < N) (hlink : Cond.fieldLink own i (T k0).1 (T k0).2.1 (T k0).2.2.1 ∈ TBg) (hfin : (T k0).2.2.2 = false) (hd : parseFieldDescriptor (T k0).2.2.1 = some ty) (hn : narrow ty v = v) (hfit : fits ty v = true) (hll : k0 < fs.length) (hw : w.set q0 (a, .inr (ci, fs.set k0 v)) = w') (d : decode cc pc = .ok (.putfield i, 3)) (k : WF l E own cc nL ret rm ini Xt QQ w0 ce sl (pc + 3) lv st w') : WF l E own cc nL ret rm ini Xt QQ w0 ce sl pc lv (v :: .ref a :: st) w := by
  intro p e s m args below meth c H locs ls hC hl hP hD hS
  obtain ⟨hx, hb, hml, hown, hts, hr, hlk, hEK, hES, hni, hXt⟩ := id hC
  subst hw
  exact va_put hx hb hts hin ty0 hty hnm hown hEK.1 hP hD hS q0 he hc k0 hk (hts _ hlink) (fun _ h => h) hfin hd hn hfit hll d (fun H locs hP hD hS => k p e s m args below meth c H locs ls hC hl hP hD hS)
theorem wf_putF {C : String} {T : u_T} {N ci i a : Nat} {fs : List Value} {v : Value} {ty : FieldType} (q0 k0 : Nat) (w' : va_W) (ty0 : Nat → FieldType) (hini : ini = true) (hin : ∀ w ∈ u_ws C T N, w ∈ TBg) (hty : ∀ k, k < N → parseFieldDescriptor (T k).2.2.1 = some (ty0 k)) (hnm : ∀ a, a < N → ∀ b, b < N → a ≠ b → (T a).2.1 ≠ (T b).2.1) (he : w[q0]? = some (a, .inr (ci, fs))) (hc : vwCl[ci]? = some (C, T, N)) (hk : k0 < N) (hlink : Cond.fieldLink own i (T k0).1 (T k0).2.1 (T k0).2.2.1 ∈ TBg) (hfin : (T k0).2.2.2 = true) (howns : (T k0).1 = own) (hd : parseFieldDescriptor (T k0).2.2.1 = some ty) (hn : narrow ty v = v) (hfit : fits ty v = true) (hll : k0 < fs.length) (hw : w.set q0 (a, .inr (ci, fs.set k0 v)) = w') (d : decode cc pc = .ok (.putfield i, 3)) (k : WF l E own cc nL ret rm ini Xt QQ w0 ce sl (pc + 3) lv st w') : WF l E own cc nL ret rm ini Xt QQ w0 ce sl pc lv (v :: .ref a :: st) w := by
  intro p e s m args below meth c H locs ls hC hl hP hD hS
  obtain ⟨hx, hb, hml, hown, hts, hr, hlk, hEK, hES, hni, hXt⟩ := id hC
  subst hw
  exact va_putF hx hb hts hin ty0 hty hnm hown hEK.1 hP hD hS q0 he hc k0 hk (hts _ hlink) (fun _ h => h) hfin (hni hini) howns hd hn hfit hll d (fun H locs hP hD hS => k p e s m args below meth c H locs ls hC hl hP hD hS)
theorem wf_iald {a n : Nat} {f : Nat → Int32} {i : Int32} (v : Int32) (q0 : Nat) (he : w[q0]? = some (a, .inl (E.2.1.1, n, .inl f))) (hi : vp_in i n) (hv : f i.toNatClampNeg = v) (d : decode cc pc = .ok (.iaload, 1)) (k : WF l E own cc nL ret rm ini Xt QQ w0 ce sl (pc + 1) lv (.int v :: st) w) : WF l E own cc nL ret rm ini Xt QQ w0 ce sl pc lv (.int i :: .ref a :: st) w := by
  intro p e s m args below meth c H locs ls hC hl hP hD hS
  obtain ⟨hx, hb, hml, hown, hts, hr, hlk, hEK, hES, hin, hXt⟩ := id hC
  subst hv
  exact va_iald hx hb hEK.1 hP q0 0 he rfl hi d (k p e s m args below meth c H locs ls hC hl hP hD hS)
theorem wf_iald_n {a n j : Nat} {f : Nat → Int32} (v : Int32) (q0 : Nat) (he : w[q0]? = some (a, .inl (E.2.1.1, n, .inl f))) (hj : j < n) (hn : n ≤ 1024) (hv : f j = v) (d : decode cc pc = .ok (.iaload, 1)) (k : WF l E own cc nL ret rm ini Xt QQ w0 ce sl (pc + 1) lv (.int v :: st) w) : WF l E own cc nL ret rm ini Xt QQ w0 ce sl pc lv (.int (nI j) :: .ref a :: st) w :=
  wf_iald v q0 he (vp_in_nI hj (by omega)) (by rw [nI_clamp (by omega)]; exact hv) d k
theorem wf_iast {a n : Nat} {f : Nat → Int32} {i x : Int32} (w' : va_W) (q0 : Nat) (he : w[q0]? = some (a, .inl (E.2.1.1, n, .inl f))) (hi : vp_in i n) (hw : w.set q0 (a, .inl (E.2.1.1, n, .inl (upd f i.toNatClampNeg x))) = w') (d : decode cc pc = .ok (.iastore, 1)) (k : WF l E own cc nL ret rm ini Xt QQ w0 ce sl (pc + 1) lv st w') : WF l E own cc nL ret rm ini Xt QQ w0 ce sl pc lv (.int x :: .int i :: .ref a :: st) w := by
  intro p e s m args below meth c H locs ls hC hl hP hD hS
  obtain ⟨hx, hb, hml, hown, hts, hr, hlk, hEK, hES, hin, hXt⟩ := id hC
  subst hw
  exact va_iast hx hb hEK.1 hP hD hS q0 0 he rfl hi d (fun H locs hP hD hS => k p e s m args below meth c H locs ls hC hl hP hD hS)
theorem wf_iast_n {a n j : Nat} {f : Nat → Int32} {x : Int32} (w' : va_W) (q0 : Nat) (he : w[q0]? = some (a, .inl (E.2.1.1, n, .inl f))) (hj : j < n) (hn : n ≤ 1024) (hw : w.set q0 (a, .inl (E.2.1.1, n, .inl (upd f j x))) = w') (d : decode cc pc = .ok (.iastore, 1)) (k : WF l E own cc nL ret rm ini Xt QQ w0 ce sl (pc + 1) lv st w') : WF l E own cc nL ret rm ini Xt QQ w0 ce sl pc lv (.int x :: .int (nI j) :: .ref a :: st) w :=
  wf_iast w' q0 he (vp_in_nI hj (by omega)) (by rw [nI_clamp (by omega)]; exact hw) d k
theorem wf_cald_n {a n j : Nat} {f : Nat → Int32} (v : Int32) (q0 : Nat) (he : w[q0]? = some (a, .inl (E.2.1.2.1, n, .inl f))) (hj : j < n) (hn : n ≤ 1024) (hv : f j = v) (d : decode cc pc = .ok (.caload, 1)) (k : WF l E own cc nL ret rm ini Xt QQ w0 ce sl (pc + 1) lv (.int v :: st) w) : WF l E own cc nL ret rm ini Xt QQ w0 ce sl pc lv (.int (nI j) :: .ref a :: st) w := by
  intro p e s m args below meth c H locs ls hC hl hP hD hS
  obtain ⟨hx, hb, hml, hown, hts, hr, hlk, hEK, hES, hin, hXt⟩ := id hC
  subst hv
  have hk := k p e s m args below meth c H locs ls hC hl hP hD hS
  rw [show f j = f (nI j).toNatClampNeg by rw [nI_clamp (by omega)]] at hk
  exact va_cald hx hb hEK.1 hP q0 1 he rfl (vp_in_nI hj (by omega)) d hk
theorem wf_cast_n {a n j : Nat} {f : Nat → Int32} {x : Int32} (w' : va_W) (q0 : Nat) (he : w[q0]? = some (a, .inl (E.2.1.2.1, n, .inl f))) (hj : j < n) (hn : n ≤ 1024) (hx0 : vp_nar .char x = x) (hw : w.set q0 (a, .inl (E.2.1.2.1, n, .inl (upd f j x))) = w') (d : decode cc pc = .ok (.castore, 1)) (k : WF l E own cc nL ret rm ini Xt QQ w0 ce sl (pc + 1) lv st w') : WF l E own cc nL ret rm ini Xt QQ w0 ce sl pc lv (.int x :: .int (nI j) :: .ref a :: st) w := by
  intro p e s m args below meth c H locs ls hC hl hP hD hS
  obtain ⟨hx, hb, hml, hown, hts, hr, hlk, hEK, hES, hin, hXt⟩ := id hC
  subst hw
  refine va_cast hx hb hEK.1 hP hD hS q0 1 he rfl (vp_in_nI hj (by omega)) d (fun H locs hP hD hS => ?_)
  rw [nI_clamp (by omega), hx0] at hP hD
  exact k p e s m args below meth c H locs ls hC hl hP hD hS
theorem wf_aald_n {a n j b : Nat} {f : Nat → Option Nat} (q0 : Nat) (he : w[q0]? = some (a, .inl (E.2.1.2.2, n, .inr (.inr (.inr (.inr f)))))) (hj : j < n) (hn : n ≤ 1024) (hv : f j = some b) (d : decode cc pc = .ok (.aaload, 1)) (k : WF l E own cc nL ret rm ini Xt QQ w0 ce sl (pc + 1) lv (.ref b :: st) w) : WF l E own cc nL ret rm ini Xt QQ w0 ce sl pc lv (.int (nI j) :: .ref a :: st) w := by
  intro p e s m args below meth c H locs ls hC hl hP hD hS
  obtain ⟨hx, hb, hml, hown, hts, hr, hlk, hEK, hES, hin, hXt⟩ := id hC
  have hk := k p e s m args below meth c H locs ls hC hl hP hD hS
  rw [show Value.ref b = va_rf (f (nI j).toNatClampNeg) by rw [nI_clamp (by omega), hv]; rfl] at hk
  exact va_aldq hx hb hEK.1 hP q0 2 he rfl (vp_in_nI hj (by omega)) d hk
theorem wf_alen {a t0 : Nat} {cA : ClassId} {z : vp_A} {ty : FieldType} (v : Int32) (q0 : Nat) (he : w[q0]? = some (a, .inl (cA, z))) (ht : (tysE E)[t0]? = some (cA, ty)) (hv : Int32.ofNat z.1 = v) (d : decode cc pc = .ok (.arraylength, 1)) (k : WF l E own cc nL ret rm ini Xt QQ w0 ce sl (pc + 1) lv (.int v :: st) w) : WF l E own cc nL ret rm ini Xt QQ w0 ce sl pc lv (.ref a :: st) w := by
  intro p e s m args below meth c H locs ls hC hl hP hD hS
  obtain ⟨hx, hb, hml, hown, hts, hr, hlk, hEK, hES, hin, hXt⟩ := id hC
  exact va_alen hx hb hEK.1 hP q0 t0 he ht hv d (k p e s m args below meth c H locs ls hC hl hP hD hS)

/-! calls: which words each needs -/
def CVw (own : String) (i : Nat) (y : MethodName) (b : ByteArray) (mL : Nat) (ret : Option FieldType) (n : Nat) : Prop :=
  Cond.methodLink own i y ∈ TBg ∧ Cond.instanceMethod y ∈ TBg ∧ Cond.selects y.cls y y ∈ TBg ∧ Cond.initialized y.cls ∈ TBg ∧ Cond.code y b mL ret ∈ TBg ∧ (y.cls ≠ "java/lang/invoke/MethodHandle" ∧ y.cls ≠ "java/lang/invoke/VarHandle" ∧ (parseMethodDescriptor y.desc).map (fun d => d.parameters.length) = some n)
def CSw (own : String) (i : Nat) (y : MethodName) (b : ByteArray) (mL : Nat) (ret : Option FieldType) (n : Nat) : Prop :=
  Cond.methodLink own i y ∈ TBg ∧ Cond.static y ∈ TBg ∧ Cond.initialized y.cls ∈ TBg ∧ Cond.code y b mL ret ∈ TBg ∧ (y.cls ≠ "java/lang/invoke/MethodHandle" ∧ y.cls ≠ "java/lang/invoke/VarHandle" ∧ (parseMethodDescriptor y.desc).map (fun d => d.parameters.length) = some n)
def CIw (own : String) (i : Nat) (y : MethodName) (b : ByteArray) (mL : Nat) (n : Nat) : Prop :=
  Cond.methodLink own i y ∈ TBg ∧ Cond.instanceMethod y ∈ TBg ∧ Cond.initialized y.cls ∈ TBg ∧ Cond.code y b mL none ∈ TBg ∧ y.name = "<init>" ∧ (y.cls ≠ "java/lang/invoke/MethodHandle" ∧ y.cls ≠ "java/lang/invoke/VarHandle" ∧ (parseMethodDescriptor y.desc).map (fun d => d.parameters.length) = some n)
def CNIw (own : String) (i : Nat) (y : MethodName) (host : String) (b : ByteArray) (mL : Nat) (n : Nat) : Prop :=
  (own, i, y, host) ∈ nestW ∧ Cond.instanceMethod y ∈ TBg ∧ Cond.initialized y.cls ∈ TBg ∧ Cond.code y b mL none ∈ TBg ∧ y.name = "<init>" ∧ (y.cls ≠ "java/lang/invoke/MethodHandle" ∧ y.cls ≠ "java/lang/invoke/VarHandle" ∧ (parseMethodDescriptor y.desc).map (fun d => d.parameters.length) = some n)
def CNSw (own : String) (i : Nat) (y : MethodName) (host : String) (b : ByteArray) (mL : Nat) (ret : Option FieldType) (n : Nat) : Prop :=
  (own, i, y, host) ∈ nestW ∧ Cond.static y ∈ TBg ∧ Cond.initialized y.cls ∈ TBg ∧ Cond.code y b mL ret ∈ TBg ∧ (y.cls ≠ "java/lang/invoke/MethodHandle" ∧ y.cls ≠ "java/lang/invoke/VarHandle" ∧ (parseMethodDescriptor y.desc).map (fun d => d.parameters.length) = some n)
/-- x is what the instruction names (of class Sparrow), y what runs for a receiver of class C -/
def CUw (own : String) (i : Nat) (C : String) (x y : MethodName) (b : ByteArray) (mL : Nat) (ret : Option FieldType) (n : Nat) : Prop :=
  Cond.methodLink own i x ∈ TBg ∧ Cond.sameMethod x.cls x.cls x.name x.desc ∈ TBg ∧ Cond.selects C x y ∈ TBg ∧ Cond.instanceMethod y ∈ TBg ∧ Cond.initialized y.cls ∈ TBg ∧ Cond.code y b mL ret ∈ TBg ∧ Cond.instanceMethod x ∈ TBg ∧ (∃ b0 m0 r0, Cond.code x b0 m0 r0 ∈ TBg) ∧ (x.cls ≠ "java/lang/invoke/MethodHandle" ∧ x.cls ≠ "java/lang/invoke/VarHandle" ∧ (parseMethodDescriptor x.desc).map (fun d => d.parameters.length) = some n)
theorem ent_blind {as : List Value} {sz : Nat} : FrameBlind (va_Pc as (Ent E w sz)) := fun a U g mk q => by
  obtain ⟨q0, q1, qP, qD, qK, qS⟩ := q
  exact ⟨q0, q1, qP, qD, qK.same rfl, ES.moved (u := U) (Vm.Alike.refl U.vm) qS⟩
theorem in_A {A0 : Nat → Prop} {s : State} {H : Heap} {locs : List Loc} (hD : va_D (va_A w0 s.heap.size) w) (hS : va_S (va_A w0 s.heap.size) s.heap H locs) : ∀ q, va_A w H.size q → va_A w0 s.heap.size q := by
  intro q h
  rcases h with ⟨k, e, h⟩ | h
  · exact hD.2 k _ h
  · exact Or.inr (Nat.le_trans hS.1 h)
/-- the callee's start out of where the caller stands -/
theorem ent_call {p : Program} {s U : State} {m : MethodId} {args : Array Value} {meth : Method} {c : Code} {H : Heap} {locs : List Loc} {as : List Value} (hC : Cx p s m args meth c E own cc nL ret ini Xt w0) (hP : va_P E.1 vwCl w H) (hD : va_D (va_A w0 s.heap.size) w) (hS : va_S (va_A w0 s.heap.size) s.heap H locs) (hU : U.heap = H) (hW : s.WarmedH U.vm) : va_Pc as (Ent E w H.size) as.toArray U := by
  obtain ⟨hx, hb, hml, hown, hts, hr, hlk, hEK, hES, hni, hXt⟩ := hC
  refine ⟨rfl, by rw [hU], by rw [hU]; exact hP, hD.weaken (fun _ _ _ _ => trivial), hEK.warm hW, ?_⟩
  rw [hU]
  exact ES.moved hW.alike ((hES.kept hS.2.1).narrow (in_A (A0 := fun _ => True) hD hS))
/-- behind a call -/
theorem wf_back {p : Program} {e : Env} {s : State} {m : MethodId} {args : Array Value} {below : List Frame} {meth : Method} {c : Code} {H : Heap} {locs : List Loc} {ls : Array Slot} {mc ms : Nat} {rest : List Value} {Post : Option Value → va_W → Prop} {a : Array Value}
    (hr : va_Run p l e rm s m args below meth c H locs ce sl mc ms (F0 m pc ls st) rest (EndW E w H.size Post a) (va_A w H.size)) (hC : Cx p s m args meth c E own cc nL ret ini Xt w0) (hl : lv_has ls nL lv) (hD : va_D (va_A w0 s.heap.size) w) (hS : va_S (va_A w0 s.heap.size) s.heap H locs)
    (k : ∀ v w2, Post v w2 → WF l E own cc nL ret rm ini Xt QQ w0 (ce + mc) (sl + ms) (pc + 3) lv (v.toList ++ rest) w2) : W p l e rm s m args below meth c H locs ce sl (QQ below args s) (F0 m pc ls st) := by
  have hA := in_A (A0 := fun _ => True) hD hS
  intro T hT X
  obtain ⟨v, st₀, t, T', L, h0, X', hL, e1, e2, ⟨⟨v', w2, hv, hp, hP2, hD2⟩, hz, hk⟩, stp⟩ := hr T hT X
  cases hv
  rw [h0] at hz hk
  obtain ⟨t2, a1, b1⟩ := k v w2 hp p e s m args below meth c T'.heap (locs ++ L) ls hC hl (by rw [e1]; exact hP2) (hD2.weaken (fun _ q _ h => hA q.1 h))
    ⟨Nat.le_trans hS.1 (by rw [e1]; exact hz), fun q h1 h2 => by rw [e1, hk q (Nat.lt_of_lt_of_le h1 hS.1) (fun z => h2 (hA q z))]; exact hS.2.1 q h1 h2, fun q hq => by
      rcases List.mem_append.mp hq with h | h
      · exact hS.2.2 q h
      · exact hA _ (hL q h)⟩ T' rfl X'
  exact ⟨t2, stp t2 a1, b1⟩
theorem wf_callV {i n a ci mL : Nat} {y : MethodName} {b : ByteArray} {ret2 : Option FieldType} {rm2 : Room} {As rest : List Value} {Post : Option Value → va_W → Prop} {fs : List Value} {T : u_T} {N : Nat} (q0 : Nat) (hM : CT l E y b mL ret2 rm2 (.ref a :: As) w Post) (hk : CVw own i y b mL ret2 n) (hn : As.length = n) (hR : rm2.frames + 1 ≤ rm.frames ∧ 8 + (mL + 11) + rm2.locals ≤ rm.locals) (hcs : ce + rm2.cells ≤ rm.cells ∧ sl + rm2.slots ≤ rm.slots) (hcat : (rest.map fun v => v.category).sum ≤ 8) (he : w[q0]? = some (a, .inr (ci, fs))) (hc : vwCl[ci]? = some (y.cls, T, N)) (hst : st = As.reverse ++ .ref a :: rest) (d : decode cc pc = .ok (.invokevirtual i, 3))
    (k : ∀ v w2, Post v w2 → WF l E own cc nL ret rm ini Xt QQ w0 (ce + rm2.cells) (sl + rm2.slots) (pc + 3) lv (v.toList ++ rest) w2) : WF l E own cc nL ret rm ini Xt QQ w0 ce sl pc lv st w := by
  intro p e s m args below meth c H locs ls hC hl hP hD hS
  obtain ⟨hx, hb, hml, hown, hts, hr, hlk, hEK, hES, hin, hXt⟩ := id hC
  obtain ⟨k1, k2, k3, k4, k5, k6, k7, k8⟩ := hk
  refine wf_back (va_runV (C := y.cls) (As := As) (rest := rest) ⟨hx, hb, hml, hown, hts⟩ (hM H.size) ⟨callB_of n hts (gi_tb k5) rfl rfl rfl (hts _ k4) (hts _ k1) ⟨k6, k7, k8⟩ hR, hts _ k2, hts _ k3⟩ ⟨ent_blind, va_recv hEK.1 hP hc he, fun U hU hW => ent_call hC hP hD hS hU hW⟩ rfl hn hl.1 hst (lv_room hcat) d hcs) hC hl hD hS k
theorem wf_callU {i n a ci mL : Nat} {C : String} {x y : MethodName} {b : ByteArray} {ret2 : Option FieldType} {rm2 : Room} {As rest : List Value} {Post : Option Value → va_W → Prop} {fs : List Value} {T : u_T} {N : Nat} (q0 : Nat) (hM : CT l E y b mL ret2 rm2 (.ref a :: As) w Post) (hk : CUw own i C x y b mL ret2 n) (hn : As.length = n) (hR : rm2.frames + 1 ≤ rm.frames ∧ 8 + (mL + 11) + rm2.locals ≤ rm.locals) (hcs : ce + rm2.cells ≤ rm.cells ∧ sl + rm2.slots ≤ rm.slots) (hcat : (rest.map fun v => v.category).sum ≤ 8) (he : w[q0]? = some (a, .inr (ci, fs))) (hc : vwCl[ci]? = some (C, T, N)) (hst : st = As.reverse ++ .ref a :: rest) (d : decode cc pc = .ok (.invokevirtual i, 3))
    (k : ∀ v w2, Post v w2 → WF l E own cc nL ret rm ini Xt QQ w0 (ce + rm2.cells) (sl + rm2.slots) (pc + 3) lv (v.toList ++ rest) w2) : WF l E own cc nL ret rm ini Xt QQ w0 ce sl pc lv st w := by
  intro p e s m args below meth c H locs ls hC hl hP hD hS
  obtain ⟨hx, hb, hml, hown, hts, hr, hlk, hEK, hES, hin, hXt⟩ := id hC
  obtain ⟨k1, k2, k3, k4, k5, k6, k7, ⟨b0, m0, r0, k8⟩, k9, k10, k11⟩ := hk
  have hG := gi_tb k6
  refine wf_back (va_runU (C := C) (owner := x.cls) (x := x) (As := As) (rest := rest) ⟨hx, hb, hml, hown, hts⟩ (hM H.size) ⟨⟨rfl, rfl, hR.1, hR.2, pay_in hts hG, List.mem_cons_self⟩, hts _ k6, hts _ k5, ⟨k9, k10⟩, fun sig h => ?_, hts _ k1, hts _ k2, va_Decl.of (hts _ k7) (hts _ k8), hts _ k3, hts _ k4⟩ ⟨ent_blind, va_recv hEK.1 hP hc he, fun U hU hW => ent_call hC hP hD hS hU hW⟩ rfl hn hl.1 hst (lv_room hcat) d hcs) hC hl hD hS k
  rw [h] at k11
  exact (Option.some.inj k11).symm
theorem wf_callS {i n mL : Nat} {y : MethodName} {b : ByteArray} {ret2 : Option FieldType} {rm2 : Room} {As rest : List Value} {Post : Option Value → va_W → Prop} (hM : CT l E y b mL ret2 rm2 As w Post) (hk : CSw own i y b mL ret2 n) (hn : As.length = n) (hR : rm2.frames + 1 ≤ rm.frames ∧ 8 + (mL + 11) + rm2.locals ≤ rm.locals) (hcs : ce + rm2.cells ≤ rm.cells ∧ sl + rm2.slots ≤ rm.slots) (hcat : (rest.map fun v => v.category).sum ≤ 8) (hst : st = As.reverse ++ rest) (d : decode cc pc = .ok (.invokestatic i, 3))
    (k : ∀ v w2, Post v w2 → WF l E own cc nL ret rm ini Xt QQ w0 (ce + rm2.cells) (sl + rm2.slots) (pc + 3) lv (v.toList ++ rest) w2) : WF l E own cc nL ret rm ini Xt QQ w0 ce sl pc lv st w := by
  intro p e s m args below meth c H locs ls hC hl hP hD hS
  obtain ⟨hx, hb, hml, hown, hts, hr, hlk, hEK, hES, hin, hXt⟩ := id hC
  obtain ⟨k1, k2, k4, k5, k6, k7, k8⟩ := hk
  refine wf_back (va_runS (As := As) (rest := rest) ⟨hx, hb, hml, hown, hts⟩ (hM H.size) ⟨callB_of n hts (gi_tb k5) rfl rfl rfl (hts _ k4) (hts _ k1) ⟨k6, k7, k8⟩ hR, hts _ k2⟩ ⟨ent_blind, fun U hU hW => ent_call hC hP hD hS hU hW⟩ rfl hn hl.1 hst (lv_room hcat) d hcs) hC hl hD hS k
theorem wf_callNS {i n mL : Nat} {y : MethodName} {host : String} {b : ByteArray} {ret2 : Option FieldType} {rm2 : Room} {As rest : List Value} {Post : Option Value → va_W → Prop} (hM : CT l E y b mL ret2 rm2 As w Post) (hk : CNSw own i y host b mL ret2 n) (hn : As.length = n) (hR : rm2.frames + 1 ≤ rm.frames ∧ 8 + (mL + 11) + rm2.locals ≤ rm.locals) (hcs : ce + rm2.cells ≤ rm.cells ∧ sl + rm2.slots ≤ rm.slots) (hcat : (rest.map fun v => v.category).sum ≤ 8) (hst : st = As.reverse ++ rest) (d : decode cc pc = .ok (.invokestatic i, 3))
    (k : ∀ v w2, Post v w2 → WF l E own cc nL ret rm ini Xt QQ w0 (ce + rm2.cells) (sl + rm2.slots) (pc + 3) lv (v.toList ++ rest) w2) : WF l E own cc nL ret rm ini Xt QQ w0 ce sl pc lv st w := by
  intro p e s m args below meth c H locs ls hC hl hP hD hS
  obtain ⟨hx, hb, hml, hown, hts, hr, hlk, hEK, hES, hin, hXt⟩ := id hC
  obtain ⟨k1, k2, k4, k5, k6, k7, k8⟩ := hk
  refine wf_back (va_runSN (host := host) (As := As) (rest := rest) ⟨hx, hb, hml, hown, hts⟩ (hM H.size) ⟨va_cnB n hts (gi_tb k5) rfl rfl rfl (hEK.2.1 _ k1) (hts _ k4) ⟨k6, k7, k8⟩ hR, hts _ k2, trivial⟩ ⟨ent_blind, fun U hU hW => ent_call hC hP hD hS hU hW⟩ rfl hn hl.1 hst (lv_room hcat) d hcs) hC hl hD hS k
theorem wf_callI {i n a mL : Nat} {y : MethodName} {b : ByteArray} {rm2 : Room} {As rest : List Value} {Post : Option Value → va_W → Prop} (hM : CT l E y b mL none rm2 (.ref a :: As) w Post) (hk : CIw own i y b mL n) (hn : As.length = n) (hR : rm2.frames + 1 ≤ rm.frames ∧ 8 + (mL + 11) + rm2.locals ≤ rm.locals) (hcs : ce + rm2.cells ≤ rm.cells ∧ sl + rm2.slots ≤ rm.slots) (hcat : (rest.map fun v => v.category).sum ≤ 8) (hst : st = As.reverse ++ .ref a :: rest) (d : decode cc pc = .ok (.invokespecial i, 3))
    (k : ∀ v w2, Post v w2 → WF l E own cc nL ret rm ini Xt QQ w0 (ce + rm2.cells) (sl + rm2.slots) (pc + 3) lv (v.toList ++ rest) w2) : WF l E own cc nL ret rm ini Xt QQ w0 ce sl pc lv st w := by
  intro p e s m args below meth c H locs ls hC hl hP hD hS
  obtain ⟨hx, hb, hml, hown, hts, hr, hlk, hEK, hES, hin, hXt⟩ := id hC
  obtain ⟨k1, k2, k4, k5, k9, k6, k7, k8⟩ := hk
  refine wf_back (va_runI (As := As) (rest := rest) ⟨hx, hb, hml, hown, hts⟩ (hM H.size) ⟨callB_of n hts (gi_tb k5) rfl rfl rfl (hts _ k4) (hts _ k1) ⟨k6, k7, k8⟩ hR, k9, hts _ k2⟩ ⟨ent_blind, fun U hU hW => ent_call (as := .ref a :: As) hC hP hD hS hU hW⟩ rfl hn hl.1 hst (lv_room hcat) d hcs) hC hl hD hS k
theorem wf_callNI {i n a mL : Nat} {y : MethodName} {host : String} {b : ByteArray} {rm2 : Room} {As rest : List Value} {Post : Option Value → va_W → Prop} (hM : CT l E y b mL none rm2 (.ref a :: As) w Post) (hk : CNIw own i y host b mL n) (hn : As.length = n) (hR : rm2.frames + 1 ≤ rm.frames ∧ 8 + (mL + 11) + rm2.locals ≤ rm.locals) (hcs : ce + rm2.cells ≤ rm.cells ∧ sl + rm2.slots ≤ rm.slots) (hcat : (rest.map fun v => v.category).sum ≤ 8) (hst : st = As.reverse ++ .ref a :: rest) (d : decode cc pc = .ok (.invokespecial i, 3))
    (k : ∀ v w2, Post v w2 → WF l E own cc nL ret rm ini Xt QQ w0 (ce + rm2.cells) (sl + rm2.slots) (pc + 3) lv (v.toList ++ rest) w2) : WF l E own cc nL ret rm ini Xt QQ w0 ce sl pc lv st w := by
  intro p e s m args below meth c H locs ls hC hl hP hD hS
  obtain ⟨hx, hb, hml, hown, hts, hr, hlk, hEK, hES, hin, hXt⟩ := id hC
  obtain ⟨k1, k2, k4, k5, k9, k6, k7, k8⟩ := hk
  refine wf_back (va_runIN (host := host) (As := As) (rest := rest) ⟨hx, hb, hml, hown, hts⟩ (hM H.size) ⟨va_cnB n hts (gi_tb k5) rfl rfl rfl (hEK.2.1 _ k1) (hts _ k4) ⟨k6, k7, k8⟩ hR, k9, hts _ k2⟩ ⟨ent_blind, fun U hU hW => ent_call (as := .ref a :: As) hC hP hD hS hU hW⟩ rfl hn hl.1 hst (lv_room hcat) d hcs) hC hl hD hS k
/-- an inherited member of a String constant's -/
theorem wf_callStr {i n i0 mL : Nat} {y : MethodName} {b : ByteArray} {ret2 : Option FieldType} {rm2 : Room} {As rest : List Value} {Post : Option Value → va_W → Prop} (hi0 : i0 < 5) (hM : CT l E y b mL ret2 rm2 (.ref (E.2.2.1 i0) :: As) w Post) (hk : CVw own i y b mL ret2 n) (hn : As.length = n) (hR : rm2.frames + 1 ≤ rm.frames ∧ 8 + (mL + 11) + rm2.locals ≤ rm.locals) (hcs : ce + rm2.cells ≤ rm.cells ∧ sl + rm2.slots ≤ rm.slots) (hcat : (rest.map fun v => v.category).sum ≤ 8) (hc : y.cls = "java/lang/String") (hst : st = As.reverse ++ .ref (E.2.2.1 i0) :: rest) (d : decode cc pc = .ok (.invokevirtual i, 3))
    (k : ∀ v w2, Post v w2 → WF l E own cc nL ret rm ini Xt QQ w0 (ce + rm2.cells) (sl + rm2.slots) (pc + 3) lv (v.toList ++ rest) w2) : WF l E own cc nL ret rm ini Xt QQ w0 ce sl pc lv st w := by
  intro p e s m args below meth c H locs ls hC hl hP hD hS
  obtain ⟨hx, hb, hml, hown, hts, hr, hlk, hEK, hES, hin, hXt⟩ := id hC
  obtain ⟨k1, k2, k3, k4, k5, k6, k7, k8⟩ := hk
  refine wf_back (va_runV (C := y.cls) (As := As) (rest := rest) ⟨hx, hb, hml, hown, hts⟩ (hM H.size) ⟨callB_of n hts (gi_tb k5) rfl rfl rfl (hts _ k4) (hts _ k1) ⟨k6, k7, k8⟩ hR, hts _ k2, hts _ k3⟩ ⟨ent_blind, by rw [hc]; exact vk_recv hES.1 hi0 hS, fun U hU hW => ent_call hC hP hD hS hU hW⟩ rfl hn hl.1 hst (lv_room hcat) d hcs) hC hl hD hS k
theorem wf_ldcS {i q : Nat} {tx : String} (hR : ∀ s : State, SR E.2.2.1 s → vk_R own i tx q s) (d : decode cc pc = .ok (.ldc i, 2)) (k : WF l E own cc nL ret rm ini Xt QQ w0 ce sl (pc + 2) lv (.ref q :: st) w) : WF l E own cc nL ret rm ini Xt QQ w0 ce sl pc lv st w := by
  intro p e s m args below meth c H locs ls hC hl hP hD hS
  obtain ⟨hx, hb, hml, hown, hts, hr, hlk, hEK, hES, hin, hXt⟩ := id hC
  exact va_ldcS hx hb hown (hR s hEK.2.2) d (k p e s m args below meth c H locs ls hC hl hP hD hS)
theorem wf_strval {i i0 : Nat} (hi0 : i0 < 5) (hlink : Cond.fieldLink own i "java/lang/String" "value" "[B" ∈ TBg) (d : decode cc pc = .ok (.getfield i, 3)) (k : WF l E own cc nL ret rm ini Xt QQ w0 ce sl (pc + 3) lv (.ref (E.2.2.2 i0) :: st) w) : WF l E own cc nL ret rm ini Xt QQ w0 ce sl pc lv (.ref (E.2.2.1 i0) :: st) w := by
  intro p e s m args below meth c H locs ls hC hl hP hD hS
  obtain ⟨hx, hb, hml, hown, hts, hr, hlk, hEK, hES, hin, hXt⟩ := id hC
  exact vk_getf hx hb (hES.1.1 i0 hi0).2.2.1 hS hown (hts _ hlink) (fun _ h => h) d (k p e s m args below meth c H locs ls hC hl hP hD hS)
theorem wf_strcoder {i i0 : Nat} (hi0 : i0 < 5) (hlink : Cond.fieldLink own i "java/lang/String" "coder" "B" ∈ TBg) (d : decode cc pc = .ok (.getfield i, 3)) (k : WF l E own cc nL ret rm ini Xt QQ w0 ce sl (pc + 3) lv (.int 0 :: st) w) : WF l E own cc nL ret rm ini Xt QQ w0 ce sl pc lv (.ref (E.2.2.1 i0) :: st) w := by
  intro p e s m args below meth c H locs ls hC hl hP hD hS
  obtain ⟨hx, hb, hml, hown, hts, hr, hlk, hEK, hES, hin, hXt⟩ := id hC
  exact vk_getf hx hb (hES.1.1 i0 hi0).2.1 hS hown (hts _ hlink) (fun _ h => h) d (k p e s m args below meth c H locs ls hC hl hP hD hS)
theorem wf_strlen {i0 : Nat} (v : Int32) (hi0 : i0 < 5) (hv : Int32.ofNat (lenS.getD i0 0) = v) (d : decode cc pc = .ok (.arraylength, 1)) (k : WF l E own cc nL ret rm ini Xt QQ w0 ce sl (pc + 1) lv (.int v :: st) w) : WF l E own cc nL ret rm ini Xt QQ w0 ce sl pc lv (.ref (E.2.2.2 i0) :: st) w := by
  intro p e s m args below meth c H locs ls hC hl hP hD hS
  obtain ⟨hx, hb, hml, hown, hts, hr, hlk, hEK, hES, hin, hXt⟩ := id hC
  exact va_tlen hx hb (hES.1.1 i0 hi0).2.2.2 hS hv d (k p e s m args below meth c H locs ls hC hl hP hD hS)
theorem wf_strbyte {i0 j : Nat} (v : Int32) (hi0 : i0 < 5) (hj : j < lenS.getD i0 0) (hn : j < 1024) (hv : (bytS.getD i0 []).getD j 0 = v) (d : decode cc pc = .ok (.baload, 1)) (k : WF l E own cc nL ret rm ini Xt QQ w0 ce sl (pc + 1) lv (.int v :: st) w) : WF l E own cc nL ret rm ini Xt QQ w0 ce sl pc lv (.int (nI j) :: .ref (E.2.2.2 i0) :: st) w := by
  intro p e s m args below meth c H locs ls hC hl hP hD hS
  obtain ⟨hx, hb, hml, hown, hts, hr, hlk, hEK, hES, hin, hXt⟩ := id hC
  have hin2 : vp_in (nI j) (lenS.getD i0 0) := by
    rw [vp_in_iff, nI_toInt (by omega)]; omega
  exact va_tb hx hb (hES.1.1 i0 hi0).2.2.2 hS hin2 (by rw [nI_clamp (by omega), hv]) d (k p e s m args below meth c H locs ls hC hl hP hD hS)
theorem wf_compact {i : Nat} (hlink : Cond.fieldLink own i "java/lang/String" "COMPACT_STRINGS" "Z" ∈ TBg) (d : decode cc pc = .ok (.getstatic i, 3)) (k : WF l E own cc nL ret rm ini Xt QQ w0 ce sl (pc + 3) lv (.int 1 :: st) w) : WF l E own cc nL ret rm ini Xt QQ w0 ce sl pc lv st w := by
  intro p e s m args below meth c H locs ls hC hl hP hD hS
  obtain ⟨hx, hb, hml, hown, hts, hr, hlk, hEK, hES, hin, hXt⟩ := id hC
  exact va_gets hx hb hES.2.1 hS hown (hts _ hlink) (fun _ h => h) d (k p e s m args below meth c H locs ls hC hl hP hD hS)
theorem wf_formatter {i : Nat} (hlink : Cond.fieldLink own i "jdk/internal/util/Preconditions" "SIOOBE_FORMATTER" "Ljava/util/function/BiFunction;" ∈ TBg) (d : decode cc pc = .ok (.getstatic i, 3)) (k0 : WF l E own cc nL ret rm ini Xt QQ w0 ce sl (pc + 3) lv (.null :: st) w) (k : ∀ q : Nat, WF l E own cc nL ret rm ini Xt QQ w0 ce sl (pc + 3) lv (.ref q :: st) w) : WF l E own cc nL ret rm ini Xt QQ w0 ce sl pc lv st w := by
  intro p e s m args below meth c H locs ls hC hl hP hD hS
  obtain ⟨hx, hb, hml, hown, hts, hr, hlk, hEK, hES, hin, hXt⟩ := id hC
  rcases hES.2.2 with h | ⟨t, h⟩
  · exact va_gets hx hb h hS hown (hts _ hlink) (fun _ h => h) d (k0 p e s m args below meth c H locs ls hC hl hP hD hS)
  · exact va_gets hx hb h hS hown (hts _ hlink) (fun _ h => h) d (k t p e s m args below meth c H locs ls hC hl hP hD hS)
theorem wf_math_min {i : Nat} {x y : Int32} (v : Int32) (hk : Cond.methodLink own i Lib.Math.min.name ∈ TBg ∧ Cond.static Lib.Math.min.name ∈ TBg ∧ Cond.initialized "java/lang/Math" ∈ TBg ∧ Cond.code Lib.Math.min.name Lib.Math.min.code 2 (some .int) ∈ TBg) (hf : 1 ≤ rm.frames) (hlo : (st.map fun v => v.category).sum + 13 ≤ rm.locals) (hc : ce ≤ rm.cells ∧ sl ≤ rm.slots) (hv : (if y < x then y else x) = v) (d : decode cc pc = .ok (.invokestatic i, 3)) (k : WF l E own cc nL ret rm ini Xt QQ w0 ce sl (pc + 3) lv (.int v :: st) w) : WF l E own cc nL ret rm ini Xt QQ w0 ce sl pc lv (.int y :: .int x :: st) w := by
  intro p e s m args below meth c H locs ls hC hl hP hD hS
  obtain ⟨hx, hb, hml, hown, hts, hr, hlk, hEK, hES, hin, hXt⟩ := id hC
  subst hv
  exact va_mmin hx hb (by rw [hml, hl.1]) hown (hts _ hk.1) (hts _ hk.2.1) (hts _ hk.2.2.1) (hts _ hk.2.2.2) hf hlo hc.1 hc.2 d (k p e s m args below meth c H locs ls hC hl hP hD hS)
theorem wf_math_max {i : Nat} {x y : Int32} (v : Int32) (hk : Cond.methodLink own i Lib.Math.max.name ∈ TBg ∧ Cond.static Lib.Math.max.name ∈ TBg ∧ Cond.initialized "java/lang/Math" ∈ TBg ∧ Cond.code Lib.Math.max.name Lib.Math.max.code 2 (some .int) ∈ TBg) (hf : 1 ≤ rm.frames) (hlo : (st.map fun v => v.category).sum + 13 ≤ rm.locals) (hc : ce ≤ rm.cells ∧ sl ≤ rm.slots) (hv : (if x < y then y else x) = v) (d : decode cc pc = .ok (.invokestatic i, 3)) (k : WF l E own cc nL ret rm ini Xt QQ w0 ce sl (pc + 3) lv (.int v :: st) w) : WF l E own cc nL ret rm ini Xt QQ w0 ce sl pc lv (.int y :: .int x :: st) w := by
  intro p e s m args below meth c H locs ls hC hl hP hD hS
  obtain ⟨hx, hb, hml, hown, hts, hr, hlk, hEK, hES, hin, hXt⟩ := id hC
  subst hv
  exact va_mmax hx hb (by rw [hml, hl.1]) hown (hts _ hk.1) (hts _ hk.2.1) (hts _ hk.2.2.1) (hts _ hk.2.2.2) hf hlo hc.1 hc.2 d (k p e s m args below meth c H locs ls hC hl hP hD hS)

theorem wf_copyi {i a a0 n0 n1 : Nat} {f g : Nat → Int32} (q0 q1 : Nat) (n : Nat) (w' : va_W) (hk : Cond.methodLink own i arraycopyName ∈ TBg ∧ Cond.native arraycopyName ∈ TBg ∧ Cond.static arraycopyName ∈ TBg ∧ Cond.initialized "java/lang/System" ∈ TBg) (he0 : w[q0]? = some (a0, .inl (E.2.1.1, n0, .inl f))) (he1 : w[q1]? = some (a, .inl (E.2.1.1, n1, .inl g))) (h4 : n ≤ n0) (h5 : n ≤ n1) (h6 : n ≤ 1024) (hf : 1 ≤ rm.frames) (hlo : (st.map fun v => v.category).sum + (nativeFrameWords "java/lang/System" "arraycopy" 5 + 11) ≤ rm.locals) (hw : w.set q1 (a, .inl (E.2.1.1, n1, .inl (va_cpy f g 0 0 n))) = w') (d : decode cc pc = .ok (.invokestatic i, 3)) (k : WF l E own cc nL ret rm ini Xt QQ w0 ce sl (pc + 3) lv st w') : WF l E own cc nL ret rm ini Xt QQ w0 ce sl pc lv (.int (nI n) :: .int (nI 0) :: .ref a :: .int (nI 0) :: .ref a0 :: st) w := by
  intro p e s m args below meth c H locs ls hC hl hP hD hS
  obtain ⟨hx, hb, hml, hown, hts, hr, hlk, hEK, hES, hin, hXt⟩ := id hC
  subst hw
  have e0 : (nI 0).toNatClampNeg = 0 := nI_clamp (by decide)
  have en : (nI n).toNatClampNeg = n := nI_clamp (by omega)
  refine va_copyi hx hb (by rw [hml, hl.1]) hown (hts _ hk.1) (hts _ hk.2.1) (hts _ hk.2.2.1) (hts _ hk.2.2.2) hEK.1 hP hD hS q0 q1 0 0 he0 he1 rfl rfl rfl (nI_pos (by decide)) (nI_pos (by decide)) (nI_pos (by omega)) (by rw [e0, en]; omega) (by rw [e0, en]; omega) (fun i hi => rfl) hf hlo d (fun H locs hP hD hS => ?_)
  rw [e0, en] at hP hD
  exact k p e s m args below meth c H locs ls hC hl hP hD hS
theorem wf_new {C : String} {T : u_T} {N ci i : Nat} (fs : List Value) (ty : Nat → FieldType) (hin : ∀ w ∈ u_ws C T N, w ∈ TBg) (hty : ∀ k, k < N → parseFieldDescriptor (T k).2.2.1 = some (ty k)) (hcl : Cond.classLink own i C ∈ TBg) (hinst : Cond.instantiable C N ∈ TBg) (hini : Cond.initialized C ∈ TBg) (hc : vwCl[ci]? = some (C, T, N)) (hfs : ∀ j, j < N → defaultValue (ty j) = vp_V fs j) (hcells : ce + 1 ≤ rm.cells) (hslots : sl + N ≤ rm.slots) (d : decode cc pc = .ok (.new i, 3))
    (k : ∀ q : Nat, WF l E own cc nL ret rm ini Xt QQ w0 (ce + 1) (sl + N) (pc + 3) lv (.ref q :: st) (w ++ [(q, .inr (ci, fs))])) : WF l E own cc nL ret rm ini Xt QQ w0 ce sl pc lv st w := by
  intro p e s m args below meth c H locs ls hC hl hP hD hS
  obtain ⟨hx, hb, hml, hown, hts, hr, hlk, hEK, hES, hni, hXt⟩ := id hC
  exact va_new hx hb hts hin ty hty hown (hts _ hcl) (hts _ hinst) (hts _ hini) hEK.1 hP hD hS (fun q h => Or.inr h) hc hfs hcells hslots d (fun q H hP hD hS => k q p e s m args below meth c H locs ls hC hl hP hD hS)
theorem wf_newi (N : Nat) (harr : Cond.arrayClass .int ∈ TBg) (hN : N ≤ 1024) (hcells : ce + 1 ≤ rm.cells) (hslots : sl + N ≤ rm.slots) (d : decode cc pc = .ok (.newarray .int, 2))
    (k : ∀ q : Nat, WF l E own cc nL ret rm ini Xt QQ w0 (ce + 1) (sl + N) (pc + 2) lv (.ref q :: st) (w ++ [(q, .inl (E.2.1.1, N, .inl (fun _ => 0)))])) : WF l E own cc nL ret rm ini Xt QQ w0 ce sl pc lv (.int (nI N) :: st) w := by
  intro p e s m args below meth c H locs ls hC hl hP hD hS
  obtain ⟨hx, hb, hml, hown, hts, hr, hlk, hEK, hES, hin, hXt⟩ := id hC
  refine va_newa (atype := .int) (ty := .int) (N' := N) (a0 := (N, .inl (fun _ => 0))) hx hb (hts _ harr) rfl hEK.1 hP hD hS (fun q h => Or.inr h) (fun cA => rfl) (nI_pos (by omega)) (nI_clamp (by omega)) (by show N * 4 ≤ _; omega) hcells hslots d (fun q cA H hK hP hD hS => ?_)
  have e1 : cA = E.2.1.1 := by
    have h1 := (hK.2 3 (cA, .int) rfl).2
    have h2 := (hK.2 0 (E.2.1.1, .int) rfl).2
    exact Option.some.inj (h1.symm.trans h2)
  subst e1
  exact k q p e s m args below meth c H locs ls hC hl hP hD hS
theorem wf_newc (N : Nat) (harr : Cond.arrayClass .char ∈ TBg) (hN : N ≤ 1024) (hcells : ce + 1 ≤ rm.cells) (hslots : sl + N ≤ rm.slots) (d : decode cc pc = .ok (.newarray .char, 2))
    (k : ∀ q : Nat, WF l E own cc nL ret rm ini Xt QQ w0 (ce + 1) (sl + N) (pc + 2) lv (.ref q :: st) (w ++ [(q, .inl (E.2.1.2.1, N, .inl (fun _ => 0)))])) : WF l E own cc nL ret rm ini Xt QQ w0 ce sl pc lv (.int (nI N) :: st) w := by
  intro p e s m args below meth c H locs ls hC hl hP hD hS
  obtain ⟨hx, hb, hml, hown, hts, hr, hlk, hEK, hES, hin, hXt⟩ := id hC
  refine va_newa (atype := .char) (ty := .char) (N' := N) (a0 := (N, .inl (fun _ => 0))) hx hb (hts _ harr) rfl hEK.1 hP hD hS (fun q h => Or.inr h) (fun cA => rfl) (nI_pos (by omega)) (nI_clamp (by omega)) (by show N * 2 ≤ _; omega) hcells hslots d (fun q cA H hK hP hD hS => ?_)
  have e1 : cA = E.2.1.2.1 := by
    have h1 := (hK.2 3 (cA, .char) rfl).2
    have h2 := (hK.2 1 (E.2.1.2.1, .char) rfl).2
    exact Option.some.inj (h1.symm.trans h2)
  subst e1
  exact k q p e s m args below meth c H locs ls hC hl hP hD hS
theorem wf_objInit {i a : Nat} (hl0 : Cond.methodLink own i objectInit ∈ TBg ∧ Cond.instanceMethod objectInit ∈ TBg ∧ Cond.code objectInit ⟨#[0xb1]⟩ 1 none ∈ TBg) (hf : 1 ≤ rm.frames) (hlo : (st.map fun v => v.category).sum + 12 ≤ rm.locals) (d : decode cc pc = .ok (.invokespecial i, 3)) (k : WF l E own cc nL ret rm ini Xt QQ w0 ce sl (pc + 3) lv st w) : WF l E own cc nL ret rm ini Xt QQ w0 ce sl pc lv (.ref a :: st) w := by
  intro p e s m args below meth c H locs ls hC hl hP hD hS
  obtain ⟨hx, hb, hml, hown, hts, hr, hlk, hEK, hES, hin, hXt⟩ := id hC
  exact W.objInit hx hb hown (hts _ hl0.1) (hts _ hl0.2.1) (hts _ hl0.2.2) rfl (by rw [hml]; exact hl.1) rfl d hf (by show 2 * 0 + _ + 12 ≤ _; omega) (k p e s m args below meth c H locs ls hC hl hP hD hS)

theorem wf_iret {Post : Option Value → va_W → Prop} {v : Int32} (ty : FieldType) (hret : ret = some ty) (hn : narrow ty (.int v) = .int v) (hc : ce = rm.cells ∧ sl = rm.slots) (hp : Post (some (.int v)) w) (d : decode cc pc = .ok (.ireturn, 1)) : WF l E own cc nL ret rm ini Xt (QM E w0 Post rm) w0 ce sl pc lv [.int v] w := by
  intro p e s m args below meth c H locs ls hC hl hP hD hS
  obtain ⟨hx, hb, hml, hown, hts, hr, hlk, hEK, hES, hin, hXt⟩ := id hC
  obtain ⟨rfl, rfl⟩ := hc
  exact W.zret hx hb (hr.trans hret) hn (fun t ht hW => ⟨⟨_, w, rfl, hp, by rw [ht]; exact hP, hD⟩, hS.F ht⟩) hS.2.2 d
theorem wf_vret {Post : Option Value → va_W → Prop} (hret : ret = none) (hc : ce = rm.cells ∧ sl = rm.slots) (hp : Post none w) (d : decode cc pc = .ok (.return_, 1)) : WF l E own cc nL ret rm ini Xt (QM E w0 Post rm) w0 ce sl pc lv [] w := by
  intro p e s m args below meth c H locs ls hC hl hP hD hS
  obtain ⟨hx, hb, hml, hown, hts, hr, hlk, hEK, hES, hin, hXt⟩ := id hC
  obtain ⟨rfl, rfl⟩ := hc
  exact W.vret hx hb (hr.trans hret) (fun t ht hW => ⟨⟨_, w, rfl, hp, by rw [ht]; exact hP, hD⟩, hS.F ht⟩) hS.2.2 d
theorem wf_aret {Post : Option Value → va_W → Prop} {a : Nat} (cn : String) (hret : ret = some (.object cn)) (hc : ce = rm.cells ∧ sl = rm.slots) (hp : Post (some (.ref a)) w) (d : decode cc pc = .ok (.areturn, 1)) : WF l E own cc nL ret rm ini Xt (QM E w0 Post rm) w0 ce sl pc lv [.ref a] w := by
  intro p e s m args below meth c H locs ls hC hl hP hD hS
  obtain ⟨hx, hb, hml, hown, hts, hr, hlk, hEK, hES, hin, hXt⟩ := id hC
  obtain ⟨rfl, rfl⟩ := hc
  exact W.aret hx hb (hr.trans hret) (Or.inl ⟨cn, rfl⟩) (Or.inr ⟨a, rfl⟩) (fun t ht hW => ⟨⟨_, w, rfl, hp, by rw [ht]; exact hP, hD⟩, hS.F ht⟩) hS.2.2 d
/-- a contract's end may say less -/
theorem CT.weaken {y : MethodName} {b : ByteArray} {mL : Nat} {as : List Value} {Post Post' : Option Value → va_W → Prop} (h : CT l E y b mL ret rm as w Post) (hp : ∀ v w2, Post v w2 → Post' v w2) : CT l E y b mL ret rm as w Post' := by
  intro sz
  have h1 := h sz
  refine fun p e ha hc hk s m args below hf hap hP hK => ?_
  obtain ⟨t, o, a1, a2, a3, ⟨⟨⟨v, w2, b1, b2, b3⟩, b4⟩, b5⟩⟩ := h1 p e ha hc hk s m args below hf hap hP hK
  exact ⟨t, o, a1, a2, a3, ⟨⟨⟨v, w2, b1, hp v w2 b2, b3⟩, b4⟩, b5⟩⟩
/-- the end that says all: this value, this world -/
def IS (r : Option Value) (w2 : va_W) : Option Value → va_W → Prop := fun v w => v = r ∧ w = w2

end WFS
end
