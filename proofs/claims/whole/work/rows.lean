section
-- ===== PART A: goes FIRST, ahead of the names: the tables' words, and 'selects' of the private methods out of them =====
/-- a private method of a class that the tables say can be made, by its rows of tables_1 -/
def lw_okq (q : MethodName × Nat) : Prop := (q.1.cls ≠ "java/lang/invoke/MethodHandle" ∧ q.1.cls ≠ "java/lang/invoke/VarHandle") ∧ Cond.instantiable q.1.cls q.2 ∈ tables_1 ∧ Cond.privateMethod q.1 ∈ tables_1 ∧ Cond.instanceMethod q.1 ∈ tables_1
theorem lw_p0 : lw_okq (⟨"EatenByDusk", "refuse", "(I)I"⟩, 8) := ⟨⟨by decide +kernel, by decide +kernel⟩, List.mem_of_getElem? (i := 20) (by decide +kernel), List.mem_of_getElem? (i := 179) (by decide +kernel), List.mem_of_getElem? (i := 180) (by decide +kernel)⟩
theorem lw_p1 : lw_okq (⟨"EatenByDusk$Letters", "misspeltPlace", "()I"⟩, 2) := ⟨⟨by decide +kernel, by decide +kernel⟩, List.mem_of_getElem? (i := 135) (by decide +kernel), List.mem_of_getElem? (i := 200) (by decide +kernel), List.mem_of_getElem? (i := 201) (by decide +kernel)⟩
theorem lw_p2 : lw_okq (⟨"EatenByDusk$Letters", "letterAt", "(I)C"⟩, 2) := ⟨⟨by decide +kernel, by decide +kernel⟩, List.mem_of_getElem? (i := 135) (by decide +kernel), List.mem_of_getElem? (i := 204) (by decide +kernel), List.mem_of_getElem? (i := 205) (by decide +kernel)⟩
theorem lw_p3 : lw_okq (⟨"EatenByDusk$Letters", "unfitPlace", "(II)I"⟩, 2) := ⟨⟨by decide +kernel, by decide +kernel⟩, List.mem_of_getElem? (i := 135) (by decide +kernel), List.mem_of_getElem? (i := 330) (by decide +kernel), List.mem_of_getElem? (i := 331) (by decide +kernel)⟩
theorem lw_p4 : lw_okq (⟨"EatenByDusk$Letters", "beginsStatement", "(I)Z"⟩, 2) := ⟨⟨by decide +kernel, by decide +kernel⟩, List.mem_of_getElem? (i := 135) (by decide +kernel), List.mem_of_getElem? (i := 334) (by decide +kernel), List.mem_of_getElem? (i := 335) (by decide +kernel)⟩
theorem lw_p5 : lw_okq (⟨"EatenByDusk$Letters", "isFit", "(III)Z"⟩, 2) := ⟨⟨by decide +kernel, by decide +kernel⟩, List.mem_of_getElem? (i := 135) (by decide +kernel), List.mem_of_getElem? (i := 338) (by decide +kernel), List.mem_of_getElem? (i := 339) (by decide +kernel)⟩
theorem lw_p6 : lw_okq (⟨"EatenByDusk$Letters", "digitAt", "(I)I"⟩, 2) := ⟨⟨by decide +kernel, by decide +kernel⟩, List.mem_of_getElem? (i := 135) (by decide +kernel), List.mem_of_getElem? (i := 342) (by decide +kernel), List.mem_of_getElem? (i := 343) (by decide +kernel)⟩
theorem lw_p7 : lw_okq (⟨"EatenByDusk$Letters", "tellStatement", "(ILEatenByDusk$Garden;)V"⟩, 2) := ⟨⟨by decide +kernel, by decide +kernel⟩, List.mem_of_getElem? (i := 135) (by decide +kernel), List.mem_of_getElem? (i := 356) (by decide +kernel), List.mem_of_getElem? (i := 357) (by decide +kernel)⟩
theorem lw_p8 : lw_okq (⟨"EatenByDusk", "mindAsNow", "()LEatenByDusk$Garden;"⟩, 8) := ⟨⟨by decide +kernel, by decide +kernel⟩, List.mem_of_getElem? (i := 20) (by decide +kernel), List.mem_of_getElem? (i := 526) (by decide +kernel), List.mem_of_getElem? (i := 527) (by decide +kernel)⟩
theorem lw_p9 : lw_okq (⟨"EatenByDusk", "isKeptByWatching", "(II)Z"⟩, 8) := ⟨⟨by decide +kernel, by decide +kernel⟩, List.mem_of_getElem? (i := 20) (by decide +kernel), List.mem_of_getElem? (i := 582) (by decide +kernel), List.mem_of_getElem? (i := 583) (by decide +kernel)⟩
theorem lw_p10 : lw_okq (⟨"EatenByDusk", "countLeftByBitters", "(I)I"⟩, 8) := ⟨⟨by decide +kernel, by decide +kernel⟩, List.mem_of_getElem? (i := 20) (by decide +kernel), List.mem_of_getElem? (i := 623) (by decide +kernel), List.mem_of_getElem? (i := 624) (by decide +kernel)⟩
theorem lw_p11 : lw_okq (⟨"EatenByDuskModel", "no", "(I)I"⟩, 27) := ⟨⟨by decide +kernel, by decide +kernel⟩, List.mem_of_getElem? (i := 668) (by decide +kernel), List.mem_of_getElem? (i := 763) (by decide +kernel), List.mem_of_getElem? (i := 764) (by decide +kernel)⟩
theorem lw_p12 : lw_okq (⟨"EatenByDuskModel", "statement", "()Z"⟩, 27) := ⟨⟨by decide +kernel, by decide +kernel⟩, List.mem_of_getElem? (i := 668) (by decide +kernel), List.mem_of_getElem? (i := 771) (by decide +kernel), List.mem_of_getElem? (i := 772) (by decide +kernel)⟩
theorem lw_p13 : lw_okq (⟨"EatenByDuskModel", "next", "()I"⟩, 27) := ⟨⟨by decide +kernel, by decide +kernel⟩, List.mem_of_getElem? (i := 668) (by decide +kernel), List.mem_of_getElem? (i := 775) (by decide +kernel), List.mem_of_getElem? (i := 776) (by decide +kernel)⟩
theorem lw_p14 : lw_okq (⟨"EatenByDuskModel", "readsKind", "(I)Z"⟩, 27) := ⟨⟨by decide +kernel, by decide +kernel⟩, List.mem_of_getElem? (i := 668) (by decide +kernel), List.mem_of_getElem? (i := 779) (by decide +kernel), List.mem_of_getElem? (i := 780) (by decide +kernel)⟩
theorem lw_p15 : lw_okq (⟨"EatenByDuskModel", "readsOnes", "(II)Z"⟩, 27) := ⟨⟨by decide +kernel, by decide +kernel⟩, List.mem_of_getElem? (i := 668) (by decide +kernel), List.mem_of_getElem? (i := 786) (by decide +kernel), List.mem_of_getElem? (i := 787) (by decide +kernel)⟩
def lw_privs_1 : List (MethodName × Nat) := [(⟨"EatenByDusk", "refuse", "(I)I"⟩, 8), (⟨"EatenByDusk$Letters", "misspeltPlace", "()I"⟩, 2), (⟨"EatenByDusk$Letters", "letterAt", "(I)C"⟩, 2), (⟨"EatenByDusk$Letters", "unfitPlace", "(II)I"⟩, 2), (⟨"EatenByDusk$Letters", "beginsStatement", "(I)Z"⟩, 2), (⟨"EatenByDusk$Letters", "isFit", "(III)Z"⟩, 2), (⟨"EatenByDusk$Letters", "digitAt", "(I)I"⟩, 2), (⟨"EatenByDusk$Letters", "tellStatement", "(ILEatenByDusk$Garden;)V"⟩, 2), (⟨"EatenByDusk", "mindAsNow", "()LEatenByDusk$Garden;"⟩, 8), (⟨"EatenByDusk", "isKeptByWatching", "(II)Z"⟩, 8), (⟨"EatenByDusk", "countLeftByBitters", "(I)I"⟩, 8), (⟨"EatenByDuskModel", "no", "(I)I"⟩, 27), (⟨"EatenByDuskModel", "statement", "()Z"⟩, 27), (⟨"EatenByDuskModel", "next", "()I"⟩, 27), (⟨"EatenByDuskModel", "readsKind", "(I)Z"⟩, 27), (⟨"EatenByDuskModel", "readsOnes", "(II)Z"⟩, 27)]
theorem lw_r1 : ∀ q ∈ lw_privs_1, lw_okq q := List.forall_mem_cons.mpr ⟨lw_p0, List.forall_mem_cons.mpr ⟨lw_p1, List.forall_mem_cons.mpr ⟨lw_p2, List.forall_mem_cons.mpr ⟨lw_p3, List.forall_mem_cons.mpr ⟨lw_p4, List.forall_mem_cons.mpr ⟨lw_p5, List.forall_mem_cons.mpr ⟨lw_p6, List.forall_mem_cons.mpr ⟨lw_p7, List.forall_mem_cons.mpr ⟨lw_p8, List.forall_mem_cons.mpr ⟨lw_p9, List.forall_mem_cons.mpr ⟨lw_p10, List.forall_mem_cons.mpr ⟨lw_p11, List.forall_mem_cons.mpr ⟨lw_p12, List.forall_mem_cons.mpr ⟨lw_p13, List.forall_mem_cons.mpr ⟨lw_p14, List.forall_mem_cons.mpr ⟨lw_p15, fun _ h => absurd h List.not_mem_nil⟩⟩⟩⟩⟩⟩⟩⟩⟩⟩⟩⟩⟩⟩⟩⟩
theorem lw_p16 : lw_okq (⟨"EatenByDuskModel", "passesAll", "(IZ)V"⟩, 27) := ⟨⟨by decide +kernel, by decide +kernel⟩, List.mem_of_getElem? (i := 668) (by decide +kernel), List.mem_of_getElem? (i := 793) (by decide +kernel), List.mem_of_getElem? (i := 794) (by decide +kernel)⟩
theorem lw_p17 : lw_okq (⟨"EatenByDuskModel", "passes", "([I)V"⟩, 27) := ⟨⟨by decide +kernel, by decide +kernel⟩, List.mem_of_getElem? (i := 668) (by decide +kernel), List.mem_of_getElem? (i := 797) (by decide +kernel), List.mem_of_getElem? (i := 798) (by decide +kernel)⟩
theorem lw_p18 : lw_okq (⟨"EatenByDuskModel", "passOne", "(I)I"⟩, 27) := ⟨⟨by decide +kernel, by decide +kernel⟩, List.mem_of_getElem? (i := 668) (by decide +kernel), List.mem_of_getElem? (i := 801) (by decide +kernel), List.mem_of_getElem? (i := 802) (by decide +kernel)⟩
theorem lw_p19 : lw_okq (⟨"EatenByDuskModel", "comes", "(I)Z"⟩, 27) := ⟨⟨by decide +kernel, by decide +kernel⟩, List.mem_of_getElem? (i := 668) (by decide +kernel), List.mem_of_getElem? (i := 805) (by decide +kernel), List.mem_of_getElem? (i := 806) (by decide +kernel)⟩
theorem lw_p20 : lw_okq (⟨"EatenByDuskModel", "comesWord", "(I)Z"⟩, 27) := ⟨⟨by decide +kernel, by decide +kernel⟩, List.mem_of_getElem? (i := 668) (by decide +kernel), List.mem_of_getElem? (i := 809) (by decide +kernel), List.mem_of_getElem? (i := 810) (by decide +kernel)⟩
theorem lw_p21 : lw_okq (⟨"EatenByDuskModel", "comesBird", "(I)Z"⟩, 27) := ⟨⟨by decide +kernel, by decide +kernel⟩, List.mem_of_getElem? (i := 668) (by decide +kernel), List.mem_of_getElem? (i := 813) (by decide +kernel), List.mem_of_getElem? (i := 814) (by decide +kernel)⟩
theorem lw_p22 : lw_okq (⟨"EatenByDuskModel", "comesWatch", "(I)Z"⟩, 27) := ⟨⟨by decide +kernel, by decide +kernel⟩, List.mem_of_getElem? (i := 668) (by decide +kernel), List.mem_of_getElem? (i := 817) (by decide +kernel), List.mem_of_getElem? (i := 818) (by decide +kernel)⟩
theorem lw_p23 : lw_okq (⟨"EatenByDuskModel", "isWord", "(I)Z"⟩, 27) := ⟨⟨by decide +kernel, by decide +kernel⟩, List.mem_of_getElem? (i := 668) (by decide +kernel), List.mem_of_getElem? (i := 821) (by decide +kernel), List.mem_of_getElem? (i := 822) (by decide +kernel)⟩
theorem lw_p24 : lw_okq (⟨"EatenByDuskModel", "strengthOf", "(I)I"⟩, 27) := ⟨⟨by decide +kernel, by decide +kernel⟩, List.mem_of_getElem? (i := 668) (by decide +kernel), List.mem_of_getElem? (i := 837) (by decide +kernel), List.mem_of_getElem? (i := 838) (by decide +kernel)⟩
theorem lw_p25 : lw_okq (⟨"EatenByDuskModel", "isBird", "(I)Z"⟩, 27) := ⟨⟨by decide +kernel, by decide +kernel⟩, List.mem_of_getElem? (i := 668) (by decide +kernel), List.mem_of_getElem? (i := 845) (by decide +kernel), List.mem_of_getElem? (i := 846) (by decide +kernel)⟩
theorem lw_p26 : lw_okq (⟨"EatenByDuskModel", "eatsBy", "(I)I"⟩, 27) := ⟨⟨by decide +kernel, by decide +kernel⟩, List.mem_of_getElem? (i := 668) (by decide +kernel), List.mem_of_getElem? (i := 849) (by decide +kernel), List.mem_of_getElem? (i := 850) (by decide +kernel)⟩
theorem lw_p27 : lw_okq (⟨"EatenByDuskModel", "mayEat", "(II)Z"⟩, 27) := ⟨⟨by decide +kernel, by decide +kernel⟩, List.mem_of_getElem? (i := 668) (by decide +kernel), List.mem_of_getElem? (i := 853) (by decide +kernel), List.mem_of_getElem? (i := 854) (by decide +kernel)⟩
theorem lw_p28 : lw_okq (⟨"EatenByDuskModel", "isGone", "(I)Z"⟩, 27) := ⟨⟨by decide +kernel, by decide +kernel⟩, List.mem_of_getElem? (i := 668) (by decide +kernel), List.mem_of_getElem? (i := 857) (by decide +kernel), List.mem_of_getElem? (i := 858) (by decide +kernel)⟩
theorem lw_p29 : lw_okq (⟨"EatenByDuskModel", "isRather", "(III)Z"⟩, 27) := ⟨⟨by decide +kernel, by decide +kernel⟩, List.mem_of_getElem? (i := 668) (by decide +kernel), List.mem_of_getElem? (i := 861) (by decide +kernel), List.mem_of_getElem? (i := 862) (by decide +kernel)⟩
theorem lw_p30 : lw_okq (⟨"EatenByDuskModel", "goesHour", "()I"⟩, 27) := ⟨⟨by decide +kernel, by decide +kernel⟩, List.mem_of_getElem? (i := 668) (by decide +kernel), List.mem_of_getElem? (i := 884) (by decide +kernel), List.mem_of_getElem? (i := 885) (by decide +kernel)⟩
theorem lw_p31 : lw_okq (⟨"EatenByDuskModel", "eats", "(I)I"⟩, 27) := ⟨⟨by decide +kernel, by decide +kernel⟩, List.mem_of_getElem? (i := 668) (by decide +kernel), List.mem_of_getElem? (i := 888) (by decide +kernel), List.mem_of_getElem? (i := 889) (by decide +kernel)⟩
def lw_privs_2 : List (MethodName × Nat) := [(⟨"EatenByDuskModel", "passesAll", "(IZ)V"⟩, 27), (⟨"EatenByDuskModel", "passes", "([I)V"⟩, 27), (⟨"EatenByDuskModel", "passOne", "(I)I"⟩, 27), (⟨"EatenByDuskModel", "comes", "(I)Z"⟩, 27), (⟨"EatenByDuskModel", "comesWord", "(I)Z"⟩, 27), (⟨"EatenByDuskModel", "comesBird", "(I)Z"⟩, 27), (⟨"EatenByDuskModel", "comesWatch", "(I)Z"⟩, 27), (⟨"EatenByDuskModel", "isWord", "(I)Z"⟩, 27), (⟨"EatenByDuskModel", "strengthOf", "(I)I"⟩, 27), (⟨"EatenByDuskModel", "isBird", "(I)Z"⟩, 27), (⟨"EatenByDuskModel", "eatsBy", "(I)I"⟩, 27), (⟨"EatenByDuskModel", "mayEat", "(II)Z"⟩, 27), (⟨"EatenByDuskModel", "isGone", "(I)Z"⟩, 27), (⟨"EatenByDuskModel", "isRather", "(III)Z"⟩, 27), (⟨"EatenByDuskModel", "goesHour", "()I"⟩, 27), (⟨"EatenByDuskModel", "eats", "(I)I"⟩, 27)]
theorem lw_r2 : ∀ q ∈ lw_privs_2, lw_okq q := List.forall_mem_cons.mpr ⟨lw_p16, List.forall_mem_cons.mpr ⟨lw_p17, List.forall_mem_cons.mpr ⟨lw_p18, List.forall_mem_cons.mpr ⟨lw_p19, List.forall_mem_cons.mpr ⟨lw_p20, List.forall_mem_cons.mpr ⟨lw_p21, List.forall_mem_cons.mpr ⟨lw_p22, List.forall_mem_cons.mpr ⟨lw_p23, List.forall_mem_cons.mpr ⟨lw_p24, List.forall_mem_cons.mpr ⟨lw_p25, List.forall_mem_cons.mpr ⟨lw_p26, List.forall_mem_cons.mpr ⟨lw_p27, List.forall_mem_cons.mpr ⟨lw_p28, List.forall_mem_cons.mpr ⟨lw_p29, List.forall_mem_cons.mpr ⟨lw_p30, List.forall_mem_cons.mpr ⟨lw_p31, fun _ h => absurd h List.not_mem_nil⟩⟩⟩⟩⟩⟩⟩⟩⟩⟩⟩⟩⟩⟩⟩⟩
theorem lw_p32 : lw_okq (⟨"EatenByDuskModel", "leftNow", "()I"⟩, 27) := ⟨⟨by decide +kernel, by decide +kernel⟩, List.mem_of_getElem? (i := 668) (by decide +kernel), List.mem_of_getElem? (i := 900) (by decide +kernel), List.mem_of_getElem? (i := 901) (by decide +kernel)⟩
theorem lw_p33 : lw_okq (⟨"EatenByDuskModel", "goesIn", "(I)I"⟩, 27) := ⟨⟨by decide +kernel, by decide +kernel⟩, List.mem_of_getElem? (i := 668) (by decide +kernel), List.mem_of_getElem? (i := 908) (by decide +kernel), List.mem_of_getElem? (i := 909) (by decide +kernel)⟩
theorem lw_p34 : lw_okq (⟨"EatenByDuskModel", "leftAtDusk", "()I"⟩, 27) := ⟨⟨by decide +kernel, by decide +kernel⟩, List.mem_of_getElem? (i := 668) (by decide +kernel), List.mem_of_getElem? (i := 916) (by decide +kernel), List.mem_of_getElem? (i := 917) (by decide +kernel)⟩
theorem lw_p35 : lw_okq (⟨"EatenByDuskModel", "meaningsOf", "(I)I"⟩, 27) := ⟨⟨by decide +kernel, by decide +kernel⟩, List.mem_of_getElem? (i := 668) (by decide +kernel), List.mem_of_getElem? (i := 920) (by decide +kernel), List.mem_of_getElem? (i := 921) (by decide +kernel)⟩
theorem lw_p36 : lw_okq (⟨"EatenByDuskModel", "areWords", "(I)Z"⟩, 27) := ⟨⟨by decide +kernel, by decide +kernel⟩, List.mem_of_getElem? (i := 668) (by decide +kernel), List.mem_of_getElem? (i := 939) (by decide +kernel), List.mem_of_getElem? (i := 940) (by decide +kernel)⟩
theorem lw_p37 : lw_okq (⟨"EatenByDuskModel", "watchedLeft", "(II)I"⟩, 27) := ⟨⟨by decide +kernel, by decide +kernel⟩, List.mem_of_getElem? (i := 668) (by decide +kernel), List.mem_of_getElem? (i := 943) (by decide +kernel), List.mem_of_getElem? (i := 944) (by decide +kernel)⟩
theorem lw_p38 : lw_okq (⟨"EatenByDuskModel", "lower", "(I)I"⟩, 27) := ⟨⟨by decide +kernel, by decide +kernel⟩, List.mem_of_getElem? (i := 668) (by decide +kernel), List.mem_of_getElem? (i := 955) (by decide +kernel), List.mem_of_getElem? (i := 956) (by decide +kernel)⟩
theorem lw_p39 : lw_okq (⟨"EatenByDuskModel", "otherAt", "()I"⟩, 27) := ⟨⟨by decide +kernel, by decide +kernel⟩, List.mem_of_getElem? (i := 668) (by decide +kernel), List.mem_of_getElem? (i := 964) (by decide +kernel), List.mem_of_getElem? (i := 965) (by decide +kernel)⟩
def lw_privs_3 : List (MethodName × Nat) := [(⟨"EatenByDuskModel", "leftNow", "()I"⟩, 27), (⟨"EatenByDuskModel", "goesIn", "(I)I"⟩, 27), (⟨"EatenByDuskModel", "leftAtDusk", "()I"⟩, 27), (⟨"EatenByDuskModel", "meaningsOf", "(I)I"⟩, 27), (⟨"EatenByDuskModel", "areWords", "(I)Z"⟩, 27), (⟨"EatenByDuskModel", "watchedLeft", "(II)I"⟩, 27), (⟨"EatenByDuskModel", "lower", "(I)I"⟩, 27), (⟨"EatenByDuskModel", "otherAt", "()I"⟩, 27)]
theorem lw_r3 : ∀ q ∈ lw_privs_3, lw_okq q := List.forall_mem_cons.mpr ⟨lw_p32, List.forall_mem_cons.mpr ⟨lw_p33, List.forall_mem_cons.mpr ⟨lw_p34, List.forall_mem_cons.mpr ⟨lw_p35, List.forall_mem_cons.mpr ⟨lw_p36, List.forall_mem_cons.mpr ⟨lw_p37, List.forall_mem_cons.mpr ⟨lw_p38, List.forall_mem_cons.mpr ⟨lw_p39, fun _ h => absurd h List.not_mem_nil⟩⟩⟩⟩⟩⟩⟩⟩
def lw_privs : List (MethodName × Nat) := lw_privs_1 ++ (lw_privs_2 ++ (lw_privs_3))
def lw_tbl : List Cond := k2_sels lw_privs ++ tables_1
theorem lw_privs_ok : ∀ q ∈ lw_privs, lw_okq q := by
  show ∀ q ∈ lw_privs_1 ++ (lw_privs_2 ++ (lw_privs_3)), lw_okq q
  exact List.forall_mem_append.mpr ⟨lw_r1, List.forall_mem_append.mpr ⟨lw_r2, lw_r3⟩⟩
end
section
def RX0 : String := "EatenByDusk$Crow"
def TX0 : u_T := fun k => match k with
  | _ => ("", "", "", false)
def tyX0 : Nat → FieldType := fun k => match k with
  | _ => .int
theorem nmX0 : ∀ a, a < 0 → ∀ b, b < 0 → a ≠ b → (TX0 a).2.1 ≠ (TX0 b).2.1 := by decide +kernel
theorem tyX0_ok : ∀ k, k < 0 → parseFieldDescriptor (TX0 k).2.2.1 = some (tyX0 k) := by decide +kernel
abbrev cX0_init : ByteArray := prog_2_method_1_code
def yX0_init : MethodName := ⟨RX0, "<init>", "()V"⟩
abbrev cX0_prefers : ByteArray := prog_2_method_2_code
def yX0_prefers : MethodName := ⟨RX0, "prefers", "(LEatenByDusk$Garden;II)Z"⟩
def RX1 : String := "EatenByDusk$Finch"
def TX1 : u_T := fun k => match k with
  | _ => ("", "", "", false)
def tyX1 : Nat → FieldType := fun k => match k with
  | _ => .int
theorem nmX1 : ∀ a, a < 0 → ∀ b, b < 0 → a ≠ b → (TX1 a).2.1 ≠ (TX1 b).2.1 := by decide +kernel
theorem tyX1_ok : ∀ k, k < 0 → parseFieldDescriptor (TX1 k).2.2.1 = some (tyX1 k) := by decide +kernel
abbrev cX1_init : ByteArray := prog_3_method_1_code
def yX1_init : MethodName := ⟨RX1, "<init>", "()V"⟩
abbrev cX1_reaches : ByteArray := prog_3_method_2_code
def yX1_reaches : MethodName := ⟨RX1, "reaches", "(LEatenByDusk$Garden;I)Z"⟩
def RX2 : String := "EatenByDusk$Garden"
def TX2 : u_T := fun k => match k with
  | 0 => ("EatenByDusk$Garden", "kinds", "[LEatenByDusk$Sparrow;", true)
  | 1 => ("EatenByDusk$Garden", "sweet", "[I", true)
  | 2 => ("EatenByDusk$Garden", "inkOf", "[I", true)
  | 3 => ("EatenByDusk$Garden", "meaning", "[I", true)
  | 4 => ("EatenByDusk$Garden", "wordCount", "I", false)
  | 5 => ("EatenByDusk$Garden", "kind", "[I", true)
  | 6 => ("EatenByDusk$Garden", "taste", "[I", true)
  | 7 => ("EatenByDusk$Garden", "from", "[I", true)
  | 8 => ("EatenByDusk$Garden", "till", "[I", true)
  | 9 => ("EatenByDusk$Garden", "birdCount", "I", false)
  | 10 => ("EatenByDusk$Garden", "bitterOf", "[I", true)
  | 11 => ("EatenByDusk$Garden", "watched", "[I", true)
  | 12 => ("EatenByDusk$Garden", "gone", "I", false)
  | _ => ("EatenByDusk$Garden", "hour", "I", false)
def tyX2 : Nat → FieldType := fun k => match k with
  | 0 => .array (.object "EatenByDusk$Sparrow")
  | 1 => .array .int
  | 2 => .array .int
  | 3 => .array .int
  | 4 => .int
  | 5 => .array .int
  | 6 => .array .int
  | 7 => .array .int
  | 8 => .array .int
  | 9 => .int
  | 10 => .array .int
  | 11 => .array .int
  | 12 => .int
  | _ => .int
theorem nmX2 : ∀ a, a < 14 → ∀ b, b < 14 → a ≠ b → (TX2 a).2.1 ≠ (TX2 b).2.1 := by decide +kernel
theorem tyX2_ok : ∀ k, k < 14 → parseFieldDescriptor (TX2 k).2.2.1 = some (tyX2 k) := by decide +kernel
abbrev cX2_init : ByteArray := prog_4_method_1_code
def yX2_init : MethodName := ⟨RX2, "<init>", "([LEatenByDusk$Sparrow;)V"⟩
abbrev cX2_becomeAs : ByteArray := prog_4_method_2_code
def yX2_becomeAs : MethodName := ⟨RX2, "becomeAs", "(LEatenByDusk$Garden;)V"⟩
abbrev cX2_hasWord : ByteArray := prog_4_method_3_code
def yX2_hasWord : MethodName := ⟨RX2, "hasWord", "(I)Z"⟩
abbrev cX2_hasWords : ByteArray := prog_4_method_4_code
def yX2_hasWords : MethodName := ⟨RX2, "hasWords", "(I)Z"⟩
abbrev cX2_hasBird : ByteArray := prog_4_method_5_code
def yX2_hasBird : MethodName := ⟨RX2, "hasBird", "(I)Z"⟩
abbrev cX2_addWord : ByteArray := prog_4_method_6_code
def yX2_addWord : MethodName := ⟨RX2, "addWord", "(III)V"⟩
abbrev cX2_addBird : ByteArray := prog_4_method_7_code
def yX2_addBird : MethodName := ⟨RX2, "addBird", "(IIII)V"⟩
abbrev cX2_keepAway : ByteArray := prog_4_method_8_code
def yX2_keepAway : MethodName := ⟨RX2, "keepAway", "(I)V"⟩
abbrev cX2_setBitter : ByteArray := prog_4_method_9_code
def yX2_setBitter : MethodName := ⟨RX2, "setBitter", "(II)V"⟩
abbrev cX2_setWatched : ByteArray := prog_4_method_10_code
def yX2_setWatched : MethodName := ⟨RX2, "setWatched", "(IIZ)V"⟩
abbrev cX2_isWatched : ByteArray := prog_4_method_11_code
def yX2_isWatched : MethodName := ⟨RX2, "isWatched", "(II)Z"⟩
abbrev cX2_isGone : ByteArray := prog_4_method_12_code
def yX2_isGone : MethodName := ⟨RX2, "isGone", "(I)Z"⟩
abbrev cX2_strength : ByteArray := prog_4_method_13_code
def yX2_strength : MethodName := ⟨RX2, "strength", "(I)I"⟩
abbrev cX2_mayBeEaten : ByteArray := prog_4_method_14_code
def yX2_mayBeEaten : MethodName := ⟨RX2, "mayBeEaten", "(II)Z"⟩
abbrev cX2_kindOf : ByteArray := prog_4_method_15_code
def yX2_kindOf : MethodName := ⟨RX2, "kindOf", "(I)LEatenByDusk$Sparrow;"⟩
abbrev cX2_passHour : ByteArray := prog_4_method_16_code
def yX2_passHour : MethodName := ⟨RX2, "passHour", "()I"⟩
abbrev cX2_passTillDusk : ByteArray := prog_4_method_17_code
def yX2_passTillDusk : MethodName := ⟨RX2, "passTillDusk", "()I"⟩
abbrev cX2_hourOfGoing : ByteArray := prog_4_method_18_code
def yX2_hourOfGoing : MethodName := ⟨RX2, "hourOfGoing", "(I)I"⟩
abbrev cX2_allWords : ByteArray := prog_4_method_19_code
def yX2_allWords : MethodName := ⟨RX2, "allWords", "()I"⟩
abbrev cX2_leftWords : ByteArray := prog_4_method_20_code
def yX2_leftWords : MethodName := ⟨RX2, "leftWords", "()I"⟩
abbrev cX2_countLeft : ByteArray := prog_4_method_21_code
def yX2_countLeft : MethodName := ⟨RX2, "countLeft", "()I"⟩
abbrev cX2_countLeftOf : ByteArray := prog_4_method_22_code
def yX2_countLeftOf : MethodName := ⟨RX2, "countLeftOf", "(I)I"⟩
abbrev cX2_leftMeanings : ByteArray := prog_4_method_23_code
def yX2_leftMeanings : MethodName := ⟨RX2, "leftMeanings", "()I"⟩
abbrev cX2_strengthLeft : ByteArray := prog_4_method_24_code
def yX2_strengthLeft : MethodName := ⟨RX2, "strengthLeft", "()I"⟩
abbrev cX2_placeOtherThan : ByteArray := prog_4_method_25_code
def yX2_placeOtherThan : MethodName := ⟨RX2, "placeOtherThan", "([II)I"⟩
def RX3 : String := "EatenByDusk$Greedy"
def TX3 : u_T := fun k => match k with
  | _ => ("", "", "", false)
def tyX3 : Nat → FieldType := fun k => match k with
  | _ => .int
theorem nmX3 : ∀ a, a < 0 → ∀ b, b < 0 → a ≠ b → (TX3 a).2.1 ≠ (TX3 b).2.1 := by decide +kernel
theorem tyX3_ok : ∀ k, k < 0 → parseFieldDescriptor (TX3 k).2.2.1 = some (tyX3 k) := by decide +kernel
abbrev cX3_init : ByteArray := prog_5_method_1_code
def yX3_init : MethodName := ⟨RX3, "<init>", "()V"⟩
abbrev cX3_meals : ByteArray := prog_5_method_2_code
def yX3_meals : MethodName := ⟨RX3, "meals", "()I"⟩
def RX4 : String := "EatenByDusk$Letters"
def TX4 : u_T := fun k => match k with
  | 0 => ("EatenByDusk$Letters", "letters", "[C", true)
  | _ => ("EatenByDusk$Letters", "size", "I", false)
def tyX4 : Nat → FieldType := fun k => match k with
  | 0 => .array .char
  | _ => .int
theorem nmX4 : ∀ a, a < 2 → ∀ b, b < 2 → a ≠ b → (TX4 a).2.1 ≠ (TX4 b).2.1 := by decide +kernel
theorem tyX4_ok : ∀ k, k < 2 → parseFieldDescriptor (TX4 k).2.2.1 = some (tyX4 k) := by decide +kernel
abbrev cX4_init : ByteArray := prog_6_method_1_code
def yX4_init : MethodName := ⟨RX4, "<init>", "()V"⟩
abbrev cX4_isFull : ByteArray := prog_6_method_2_code
def yX4_isFull : MethodName := ⟨RX4, "isFull", "()Z"⟩
abbrev cX4_add : ByteArray := prog_6_method_3_code
def yX4_add : MethodName := ⟨RX4, "add", "(C)I"⟩
abbrev cX4_clear : ByteArray := prog_6_method_4_code
def yX4_clear : MethodName := ⟨RX4, "clear", "()V"⟩
abbrev cX4_fault : ByteArray := prog_6_method_5_code
def yX4_fault : MethodName := ⟨RX4, "fault", "(II)I"⟩
abbrev cX4_tellTo : ByteArray := prog_6_method_6_code
def yX4_tellTo : MethodName := ⟨RX4, "tellTo", "(LEatenByDusk$Garden;)I"⟩
abbrev cX4_misspeltPlace : ByteArray := prog_6_method_7_code
def yX4_misspeltPlace : MethodName := ⟨RX4, "misspeltPlace", "()I"⟩
abbrev cX4_unfitPlace : ByteArray := prog_6_method_8_code
def yX4_unfitPlace : MethodName := ⟨RX4, "unfitPlace", "(II)I"⟩
abbrev cX4_isFit : ByteArray := prog_6_method_9_code
def yX4_isFit : MethodName := ⟨RX4, "isFit", "(III)Z"⟩
abbrev cX4_tellStatement : ByteArray := prog_6_method_10_code
def yX4_tellStatement : MethodName := ⟨RX4, "tellStatement", "(ILEatenByDusk$Garden;)V"⟩
abbrev cX4_formBehind : ByteArray := prog_6_method_11_code
def yX4_formBehind : MethodName := ⟨RX4, "formBehind", "(C)Ljava/lang/String;"⟩
abbrev cX4_isOfForm : ByteArray := prog_6_method_12_code
def yX4_isOfForm : MethodName := ⟨RX4, "isOfForm", "(CC)Z"⟩
abbrev cX4_areHours : ByteArray := prog_6_method_13_code
def yX4_areHours : MethodName := ⟨RX4, "areHours", "(II)Z"⟩
abbrev cX4_beginsStatement : ByteArray := prog_6_method_14_code
def yX4_beginsStatement : MethodName := ⟨RX4, "beginsStatement", "(I)Z"⟩
abbrev cX4_letterAt : ByteArray := prog_6_method_15_code
def yX4_letterAt : MethodName := ⟨RX4, "letterAt", "(I)C"⟩
abbrev cX4_digitAt : ByteArray := prog_6_method_16_code
def yX4_digitAt : MethodName := ⟨RX4, "digitAt", "(I)I"⟩
def RX5 : String := "EatenByDusk$Owl"
def TX5 : u_T := fun k => match k with
  | _ => ("", "", "", false)
def tyX5 : Nat → FieldType := fun k => match k with
  | _ => .int
theorem nmX5 : ∀ a, a < 0 → ∀ b, b < 0 → a ≠ b → (TX5 a).2.1 ≠ (TX5 b).2.1 := by decide +kernel
theorem tyX5_ok : ∀ k, k < 0 → parseFieldDescriptor (TX5 k).2.2.1 = some (tyX5 k) := by decide +kernel
abbrev cX5_init : ByteArray := prog_7_method_1_code
def yX5_init : MethodName := ⟨RX5, "<init>", "()V"⟩
abbrev cX5_prefers : ByteArray := prog_7_method_2_code
def yX5_prefers : MethodName := ⟨RX5, "prefers", "(LEatenByDusk$Garden;II)Z"⟩
def RX6 : String := "EatenByDusk$Sparrow"
def TX6 : u_T := fun k => match k with
  | _ => ("", "", "", false)
def tyX6 : Nat → FieldType := fun k => match k with
  | _ => .int
theorem nmX6 : ∀ a, a < 0 → ∀ b, b < 0 → a ≠ b → (TX6 a).2.1 ≠ (TX6 b).2.1 := by decide +kernel
theorem tyX6_ok : ∀ k, k < 0 → parseFieldDescriptor (TX6 k).2.2.1 = some (tyX6 k) := by decide +kernel
abbrev cX6_init : ByteArray := prog_8_method_1_code
def yX6_init : MethodName := ⟨RX6, "<init>", "()V"⟩
abbrev cX6_choice : ByteArray := prog_8_method_2_code
def yX6_choice : MethodName := ⟨RX6, "choice", "(LEatenByDusk$Garden;I)I"⟩
abbrev cX6_meals : ByteArray := prog_8_method_3_code
def yX6_meals : MethodName := ⟨RX6, "meals", "()I"⟩
abbrev cX6_reaches : ByteArray := prog_8_method_4_code
def yX6_reaches : MethodName := ⟨RX6, "reaches", "(LEatenByDusk$Garden;I)Z"⟩
abbrev cX6_prefers : ByteArray := prog_8_method_5_code
def yX6_prefers : MethodName := ⟨RX6, "prefers", "(LEatenByDusk$Garden;II)Z"⟩
def RX7 : String := "EatenByDusk$Thrush"
def TX7 : u_T := fun k => match k with
  | _ => ("", "", "", false)
def tyX7 : Nat → FieldType := fun k => match k with
  | _ => .int
theorem nmX7 : ∀ a, a < 0 → ∀ b, b < 0 → a ≠ b → (TX7 a).2.1 ≠ (TX7 b).2.1 := by decide +kernel
theorem tyX7_ok : ∀ k, k < 0 → parseFieldDescriptor (TX7 k).2.2.1 = some (tyX7 k) := by decide +kernel
abbrev cX7_init : ByteArray := prog_9_method_1_code
def yX7_init : MethodName := ⟨RX7, "<init>", "()V"⟩
abbrev cX7_prefers : ByteArray := prog_9_method_2_code
def yX7_prefers : MethodName := ⟨RX7, "prefers", "(LEatenByDusk$Garden;II)Z"⟩
def RX8 : String := "EatenByDusk"
def TX8 : u_T := fun k => match k with
  | 0 => ("EatenByDusk", "now", "LEatenByDusk$Garden;", true)
  | 1 => ("EatenByDusk", "mind", "LEatenByDusk$Garden;", true)
  | 2 => ("EatenByDusk", "image", "LEatenByDusk$Garden;", true)
  | 3 => ("EatenByDusk", "imageTaken", "Z", false)
  | 4 => ("EatenByDusk", "letters", "LEatenByDusk$Letters;", true)
  | 5 => ("EatenByDusk", "row", "[I", true)
  | 6 => ("EatenByDusk", "rowLength", "I", false)
  | _ => ("EatenByDusk", "refusals", "[I", true)
def tyX8 : Nat → FieldType := fun k => match k with
  | 0 => .object "EatenByDusk$Garden"
  | 1 => .object "EatenByDusk$Garden"
  | 2 => .object "EatenByDusk$Garden"
  | 3 => .boolean
  | 4 => .object "EatenByDusk$Letters"
  | 5 => .array .int
  | 6 => .int
  | _ => .array .int
theorem nmX8 : ∀ a, a < 8 → ∀ b, b < 8 → a ≠ b → (TX8 a).2.1 ≠ (TX8 b).2.1 := by decide +kernel
theorem tyX8_ok : ∀ k, k < 8 → parseFieldDescriptor (TX8 k).2.2.1 = some (tyX8 k) := by decide +kernel
abbrev cX8_init : ByteArray := prog_1_method_1_code
def yX8_init : MethodName := ⟨RX8, "<init>", "()V"⟩
abbrev cX8_letter : ByteArray := prog_1_method_2_code
def yX8_letter : MethodName := ⟨RX8, "letter", "(I)I"⟩
abbrev cX8_text : ByteArray := prog_1_method_3_code
def yX8_text : MethodName := ⟨RX8, "text", "()I"⟩
abbrev cX8_word : ByteArray := prog_1_method_4_code
def yX8_word : MethodName := ⟨RX8, "word", "(II)I"⟩
abbrev cX8_bird : ByteArray := prog_1_method_5_code
def yX8_bird : MethodName := ⟨RX8, "bird", "(II)I"⟩
abbrev cX8_bitter : ByteArray := prog_1_method_6_code
def yX8_bitter : MethodName := ⟨RX8, "bitter", "(II)I"⟩
abbrev cX8_ink : ByteArray := prog_1_method_7_code
def yX8_ink : MethodName := ⟨RX8, "ink", "(II)I"⟩
abbrev cX8_watch : ByteArray := prog_1_method_8_code
def yX8_watch : MethodName := ⟨RX8, "watch", "(III)I"⟩
abbrev cX8_hour : ByteArray := prog_1_method_9_code
def yX8_hour : MethodName := ⟨RX8, "hour", "()I"⟩
abbrev cX8_anew : ByteArray := prog_1_method_10_code
def yX8_anew : MethodName := ⟨RX8, "anew", "()I"⟩
abbrev cX8_left : ByteArray := prog_1_method_11_code
def yX8_left : MethodName := ⟨RX8, "left", "(I)I"⟩
abbrev cX8_eaten : ByteArray := prog_1_method_12_code
def yX8_eaten : MethodName := ⟨RX8, "eaten", "(I)I"⟩
abbrev cX8_meanings : ByteArray := prog_1_method_13_code
def yX8_meanings : MethodName := ⟨RX8, "meanings", "()I"⟩
abbrev cX8_remain : ByteArray := prog_1_method_14_code
def yX8_remain : MethodName := ⟨RX8, "remain", "()I"⟩
abbrev cX8_holds : ByteArray := prog_1_method_15_code
def yX8_holds : MethodName := ⟨RX8, "holds", "(I)I"⟩
abbrev cX8_boys : ByteArray := prog_1_method_16_code
def yX8_boys : MethodName := ⟨RX8, "boys", "(I)I"⟩
abbrev cX8_guard : ByteArray := prog_1_method_17_code
def yX8_guard : MethodName := ⟨RX8, "guard", "()I"⟩
abbrev cX8_winter : ByteArray := prog_1_method_18_code
def yX8_winter : MethodName := ⟨RX8, "winter", "(I)I"⟩
abbrev cX8_becomes : ByteArray := prog_1_method_19_code
def yX8_becomes : MethodName := ⟨RX8, "becomes", "()I"⟩
abbrev cX8_danger : ByteArray := prog_1_method_20_code
def yX8_danger : MethodName := ⟨RX8, "danger", "()I"⟩
abbrev cX8_lasts : ByteArray := prog_1_method_21_code
def yX8_lasts : MethodName := ⟨RX8, "lasts", "(I)I"⟩
abbrev cX8_mixed : ByteArray := prog_1_method_22_code
def yX8_mixed : MethodName := ⟨RX8, "mixed", "(II)I"⟩
abbrev cX8_tastes : ByteArray := prog_1_method_23_code
def yX8_tastes : MethodName := ⟨RX8, "tastes", "(II)I"⟩
abbrev cX8_fitting : ByteArray := prog_1_method_24_code
def yX8_fitting : MethodName := ⟨RX8, "fitting", "(II)I"⟩
abbrev cX8_seeds : ByteArray := prog_1_method_25_code
def yX8_seeds : MethodName := ⟨RX8, "seeds", "(II)I"⟩
abbrev cX8_row : ByteArray := prog_1_method_26_code
def yX8_row : MethodName := ⟨RX8, "row", "(I)I"⟩
abbrev cX8_judge : ByteArray := prog_1_method_27_code
def yX8_judge : MethodName := ⟨RX8, "judge", "()I"⟩
abbrev cX8_image : ByteArray := prog_1_method_28_code
def yX8_image : MethodName := ⟨RX8, "image", "()I"⟩
abbrev cX8_on : ByteArray := prog_1_method_29_code
def yX8_on : MethodName := ⟨RX8, "on", "()I"⟩
abbrev cX8_count : ByteArray := prog_1_method_30_code
def yX8_count : MethodName := ⟨RX8, "count", "(I)I"⟩
abbrev cX8_refuse : ByteArray := prog_1_method_31_code
def yX8_refuse : MethodName := ⟨RX8, "refuse", "(I)I"⟩
abbrev cX8_mindAsNow : ByteArray := prog_1_method_32_code
def yX8_mindAsNow : MethodName := ⟨RX8, "mindAsNow", "()LEatenByDusk$Garden;"⟩
abbrev cX8_isKeptByWatching : ByteArray := prog_1_method_33_code
def yX8_isKeptByWatching : MethodName := ⟨RX8, "isKeptByWatching", "(II)Z"⟩
abbrev cX8_countLeftByBitters : ByteArray := prog_1_method_34_code
def yX8_countLeftByBitters : MethodName := ⟨RX8, "countLeftByBitters", "(I)I"⟩
abbrev cX8_sumOfDigits : ByteArray := prog_1_method_35_code
def yX8_sumOfDigits : MethodName := ⟨RX8, "sumOfDigits", "(I)I"⟩
abbrev cX8_isInk : ByteArray := prog_1_method_36_code
def yX8_isInk : MethodName := ⟨RX8, "isInk", "(I)Z"⟩
def RX9 : String := "EatenByDuskModel"
def TX9 : u_T := fun k => match k with
  | 0 => ("EatenByDuskModel", "refused", "[I", true)
  | 1 => ("EatenByDuskModel", "sweet", "[I", true)
  | 2 => ("EatenByDuskModel", "inkOf", "[I", true)
  | 3 => ("EatenByDuskModel", "meaning", "[I", true)
  | 4 => ("EatenByDuskModel", "kind", "[I", true)
  | 5 => ("EatenByDuskModel", "taste", "[I", true)
  | 6 => ("EatenByDuskModel", "from", "[I", true)
  | 7 => ("EatenByDuskModel", "till", "[I", true)
  | 8 => ("EatenByDuskModel", "bitter", "[I", true)
  | 9 => ("EatenByDuskModel", "watched", "[I", true)
  | 10 => ("EatenByDuskModel", "words", "I", false)
  | 11 => ("EatenByDuskModel", "birds", "I", false)
  | 12 => ("EatenByDuskModel", "hour", "I", false)
  | 13 => ("EatenByDuskModel", "gone", "I", false)
  | 14 => ("EatenByDuskModel", "tape", "[I", true)
  | 15 => ("EatenByDuskModel", "letter", "[I", true)
  | 16 => ("EatenByDuskModel", "letterAt", "[I", true)
  | 17 => ("EatenByDuskModel", "told", "[I", true)
  | 18 => ("EatenByDuskModel", "taped", "I", false)
  | 19 => ("EatenByDuskModel", "at", "I", false)
  | 20 => ("EatenByDuskModel", "statements", "I", false)
  | 21 => ("EatenByDuskModel", "kept", "[I", true)
  | 22 => ("EatenByDuskModel", "hasImage", "Z", false)
  | 23 => ("EatenByDuskModel", "isKeeping", "Z", false)
  | 24 => ("EatenByDuskModel", "cursor", "I", false)
  | 25 => ("EatenByDuskModel", "row", "[I", true)
  | _ => ("EatenByDuskModel", "rowMany", "I", false)
def tyX9 : Nat → FieldType := fun k => match k with
  | 0 => .array .int
  | 1 => .array .int
  | 2 => .array .int
  | 3 => .array .int
  | 4 => .array .int
  | 5 => .array .int
  | 6 => .array .int
  | 7 => .array .int
  | 8 => .array .int
  | 9 => .array .int
  | 10 => .int
  | 11 => .int
  | 12 => .int
  | 13 => .int
  | 14 => .array .int
  | 15 => .array .int
  | 16 => .array .int
  | 17 => .array .int
  | 18 => .int
  | 19 => .int
  | 20 => .int
  | 21 => .array .int
  | 22 => .boolean
  | 23 => .boolean
  | 24 => .int
  | 25 => .array .int
  | _ => .int
theorem nmX9 : ∀ a, a < 27 → ∀ b, b < 27 → a ≠ b → (TX9 a).2.1 ≠ (TX9 b).2.1 := by decide +kernel
theorem tyX9_ok : ∀ k, k < 27 → parseFieldDescriptor (TX9 k).2.2.1 = some (tyX9 k) := by decide +kernel
abbrev cX9_init : ByteArray := prog_11_method_1_code
def yX9_init : MethodName := ⟨RX9, "<init>", "()V"⟩
abbrev cX9_no : ByteArray := prog_11_method_2_code
def yX9_no : MethodName := ⟨RX9, "no", "(I)I"⟩
abbrev cX9_lower : ByteArray := prog_11_method_3_code
def yX9_lower : MethodName := ⟨RX9, "lower", "(I)I"⟩
abbrev cX9_isIn : ByteArray := prog_11_method_4_code
def yX9_isIn : MethodName := ⟨RX9, "isIn", "(III)Z"⟩
abbrev cX9_bound : ByteArray := prog_11_method_5_code
def yX9_bound : MethodName := ⟨RX9, "bound", "(III)I"⟩
abbrev cX9_isWord : ByteArray := prog_11_method_6_code
def yX9_isWord : MethodName := ⟨RX9, "isWord", "(I)Z"⟩
abbrev cX9_isBird : ByteArray := prog_11_method_7_code
def yX9_isBird : MethodName := ⟨RX9, "isBird", "(I)Z"⟩
abbrev cX9_areWords : ByteArray := prog_11_method_8_code
def yX9_areWords : MethodName := ⟨RX9, "areWords", "(I)Z"⟩
abbrev cX9_letter : ByteArray := prog_11_method_9_code
def yX9_letter : MethodName := ⟨RX9, "letter", "(I)I"⟩
abbrev cX9_next : ByteArray := prog_11_method_10_code
def yX9_next : MethodName := ⟨RX9, "next", "()I"⟩
abbrev cX9_kindOf : ByteArray := prog_11_method_11_code
def yX9_kindOf : MethodName := ⟨RX9, "kindOf", "(I)I"⟩
abbrev cX9_readsKind : ByteArray := prog_11_method_12_code
def yX9_readsKind : MethodName := ⟨RX9, "readsKind", "(I)Z"⟩
abbrev cX9_readsOnes : ByteArray := prog_11_method_13_code
def yX9_readsOnes : MethodName := ⟨RX9, "readsOnes", "(II)Z"⟩
abbrev cX9_statement : ByteArray := prog_11_method_14_code
def yX9_statement : MethodName := ⟨RX9, "statement", "()Z"⟩
abbrev cX9_comesWord : ByteArray := prog_11_method_15_code
def yX9_comesWord : MethodName := ⟨RX9, "comesWord", "(I)Z"⟩
abbrev cX9_comesBird : ByteArray := prog_11_method_16_code
def yX9_comesBird : MethodName := ⟨RX9, "comesBird", "(I)Z"⟩
abbrev cX9_comesWatch : ByteArray := prog_11_method_17_code
def yX9_comesWatch : MethodName := ⟨RX9, "comesWatch", "(I)Z"⟩
abbrev cX9_comes : ByteArray := prog_11_method_18_code
def yX9_comes : MethodName := ⟨RX9, "comes", "(I)Z"⟩
abbrev cX9_text : ByteArray := prog_11_method_19_code
def yX9_text : MethodName := ⟨RX9, "text", "()I"⟩
abbrev cX9_passes : ByteArray := prog_11_method_20_code
def yX9_passes : MethodName := ⟨RX9, "passes", "([I)V"⟩
abbrev cX9_passOne : ByteArray := prog_11_method_21_code
def yX9_passOne : MethodName := ⟨RX9, "passOne", "(I)I"⟩
abbrev cX9_passesAll : ByteArray := prog_11_method_22_code
def yX9_passesAll : MethodName := ⟨RX9, "passesAll", "(IZ)V"⟩
abbrev cX9_image : ByteArray := prog_11_method_23_code
def yX9_image : MethodName := ⟨RX9, "image", "()I"⟩
abbrev cX9_on : ByteArray := prog_11_method_24_code
def yX9_on : MethodName := ⟨RX9, "on", "()I"⟩
abbrev cX9_strengthOf : ByteArray := prog_11_method_25_code
def yX9_strengthOf : MethodName := ⟨RX9, "strengthOf", "(I)I"⟩
abbrev cX9_isGone : ByteArray := prog_11_method_26_code
def yX9_isGone : MethodName := ⟨RX9, "isGone", "(I)Z"⟩
abbrev cX9_mayEat : ByteArray := prog_11_method_27_code
def yX9_mayEat : MethodName := ⟨RX9, "mayEat", "(II)Z"⟩
abbrev cX9_isRather : ByteArray := prog_11_method_28_code
def yX9_isRather : MethodName := ⟨RX9, "isRather", "(III)Z"⟩
abbrev cX9_eatsBy : ByteArray := prog_11_method_29_code
def yX9_eatsBy : MethodName := ⟨RX9, "eatsBy", "(I)I"⟩
abbrev cX9_eats : ByteArray := prog_11_method_30_code
def yX9_eats : MethodName := ⟨RX9, "eats", "(I)I"⟩
abbrev cX9_goesHour : ByteArray := prog_11_method_31_code
def yX9_goesHour : MethodName := ⟨RX9, "goesHour", "()I"⟩
abbrev cX9_leftNow : ByteArray := prog_11_method_32_code
def yX9_leftNow : MethodName := ⟨RX9, "leftNow", "()I"⟩
abbrev cX9_bits : ByteArray := prog_11_method_33_code
def yX9_bits : MethodName := ⟨RX9, "bits", "(I)I"⟩
abbrev cX9_leftAtDusk : ByteArray := prog_11_method_34_code
def yX9_leftAtDusk : MethodName := ⟨RX9, "leftAtDusk", "()I"⟩
abbrev cX9_word : ByteArray := prog_11_method_35_code
def yX9_word : MethodName := ⟨RX9, "word", "(II)I"⟩
abbrev cX9_bird : ByteArray := prog_11_method_36_code
def yX9_bird : MethodName := ⟨RX9, "bird", "(II)I"⟩
abbrev cX9_isInk : ByteArray := prog_11_method_37_code
def yX9_isInk : MethodName := ⟨RX9, "isInk", "(I)Z"⟩
abbrev cX9_bitter : ByteArray := prog_11_method_38_code
def yX9_bitter : MethodName := ⟨RX9, "bitter", "(II)I"⟩
abbrev cX9_ink : ByteArray := prog_11_method_39_code
def yX9_ink : MethodName := ⟨RX9, "ink", "(II)I"⟩
abbrev cX9_watch : ByteArray := prog_11_method_40_code
def yX9_watch : MethodName := ⟨RX9, "watch", "(III)I"⟩
abbrev cX9_hour : ByteArray := prog_11_method_41_code
def yX9_hour : MethodName := ⟨RX9, "hour", "()I"⟩
abbrev cX9_anew : ByteArray := prog_11_method_42_code
def yX9_anew : MethodName := ⟨RX9, "anew", "()I"⟩
abbrev cX9_left : ByteArray := prog_11_method_43_code
def yX9_left : MethodName := ⟨RX9, "left", "(I)I"⟩
abbrev cX9_goesIn : ByteArray := prog_11_method_44_code
def yX9_goesIn : MethodName := ⟨RX9, "goesIn", "(I)I"⟩
abbrev cX9_eaten : ByteArray := prog_11_method_45_code
def yX9_eaten : MethodName := ⟨RX9, "eaten", "(I)I"⟩
abbrev cX9_meaningsOf : ByteArray := prog_11_method_46_code
def yX9_meaningsOf : MethodName := ⟨RX9, "meaningsOf", "(I)I"⟩
abbrev cX9_meanings : ByteArray := prog_11_method_47_code
def yX9_meanings : MethodName := ⟨RX9, "meanings", "()I"⟩
abbrev cX9_remain : ByteArray := prog_11_method_48_code
def yX9_remain : MethodName := ⟨RX9, "remain", "()I"⟩
abbrev cX9_holds : ByteArray := prog_11_method_49_code
def yX9_holds : MethodName := ⟨RX9, "holds", "(I)I"⟩
abbrev cX9_watchedLeft : ByteArray := prog_11_method_50_code
def yX9_watchedLeft : MethodName := ⟨RX9, "watchedLeft", "(II)I"⟩
abbrev cX9_boys : ByteArray := prog_11_method_51_code
def yX9_boys : MethodName := ⟨RX9, "boys", "(I)I"⟩
abbrev cX9_guard : ByteArray := prog_11_method_52_code
def yX9_guard : MethodName := ⟨RX9, "guard", "()I"⟩
abbrev cX9_winter : ByteArray := prog_11_method_53_code
def yX9_winter : MethodName := ⟨RX9, "winter", "(I)I"⟩
abbrev cX9_otherAt : ByteArray := prog_11_method_54_code
def yX9_otherAt : MethodName := ⟨RX9, "otherAt", "()I"⟩
abbrev cX9_becomes : ByteArray := prog_11_method_55_code
def yX9_becomes : MethodName := ⟨RX9, "becomes", "()I"⟩
abbrev cX9_danger : ByteArray := prog_11_method_56_code
def yX9_danger : MethodName := ⟨RX9, "danger", "()I"⟩
abbrev cX9_lasts : ByteArray := prog_11_method_57_code
def yX9_lasts : MethodName := ⟨RX9, "lasts", "(I)I"⟩
abbrev cX9_mixed : ByteArray := prog_11_method_58_code
def yX9_mixed : MethodName := ⟨RX9, "mixed", "(II)I"⟩
abbrev cX9_tastes : ByteArray := prog_11_method_59_code
def yX9_tastes : MethodName := ⟨RX9, "tastes", "(II)I"⟩
abbrev cX9_fitting : ByteArray := prog_11_method_60_code
def yX9_fitting : MethodName := ⟨RX9, "fitting", "(II)I"⟩
abbrev cX9_row : ByteArray := prog_11_method_61_code
def yX9_row : MethodName := ⟨RX9, "row", "(I)I"⟩
abbrev cX9_judge : ByteArray := prog_11_method_62_code
def yX9_judge : MethodName := ⟨RX9, "judge", "()I"⟩
abbrev cX9_seeds : ByteArray := prog_11_method_63_code
def yX9_seeds : MethodName := ⟨RX9, "seeds", "(II)I"⟩
abbrev cX9_count : ByteArray := prog_11_method_64_code
def yX9_count : MethodName := ⟨RX9, "count", "(I)I"⟩
def RJ11 : String := "java/lang/Character"
def TJ11 : u_T := fun k => match k with
  | _ => ("", "", "", false)
def tyJ11 : Nat → FieldType := fun k => match k with
  | _ => .int
theorem nmJ11 : ∀ a, a < 0 → ∀ b, b < 0 → a ≠ b → (TJ11 a).2.1 ≠ (TJ11 b).2.1 := by decide +kernel
theorem tyJ11_ok : ∀ k, k < 0 → parseFieldDescriptor (TJ11 k).2.2.1 = some (tyJ11 k) := by decide +kernel
abbrev cJ11_isValidCodePoint_9a6ad : ByteArray := prog_12_method_11_code
def yJ11_isValidCodePoint_9a6ad : MethodName := ⟨RJ11, "isValidCodePoint", "(I)Z"⟩
abbrev cJ11_highSurrogate_5068e : ByteArray := prog_12_method_28_code
def yJ11_highSurrogate_5068e : MethodName := ⟨RJ11, "highSurrogate", "(I)C"⟩
abbrev cJ11_lowSurrogate_5068e : ByteArray := prog_12_method_29_code
def yJ11_lowSurrogate_5068e : MethodName := ⟨RJ11, "lowSurrogate", "(I)C"⟩
def RJ6 : String := "java/lang/Integer"
def TJ6 : u_T := fun k => match k with
  | _ => ("", "", "", false)
def tyJ6 : Nat → FieldType := fun k => match k with
  | _ => .int
theorem nmJ6 : ∀ a, a < 0 → ∀ b, b < 0 → a ≠ b → (TJ6 a).2.1 ≠ (TJ6 b).2.1 := by decide +kernel
theorem tyJ6_ok : ∀ k, k < 0 → parseFieldDescriptor (TJ6 k).2.2.1 = some (tyJ6 k) := by decide +kernel
abbrev cJ6_bitCount_0f7a4 : ByteArray := prog_13_method_49_code
def yJ6_bitCount_0f7a4 : MethodName := ⟨RJ6, "bitCount", "(I)I"⟩
def RJ9 : String := "java/lang/Math"
def TJ9 : u_T := fun k => match k with
  | _ => ("", "", "", false)
def tyJ9 : Nat → FieldType := fun k => match k with
  | _ => .int
theorem nmJ9 : ∀ a, a < 0 → ∀ b, b < 0 → a ≠ b → (TJ9 a).2.1 ≠ (TJ9 b).2.1 := by decide +kernel
theorem tyJ9_ok : ∀ k, k < 0 → parseFieldDescriptor (TJ9 k).2.2.1 = some (tyJ9 k) := by decide +kernel
abbrev cJ9_max_7cf53 : ByteArray := prog_14_method_65_code
def yJ9_max_7cf53 : MethodName := ⟨RJ9, "max", "(II)I"⟩
abbrev cJ9_min_7cf53 : ByteArray := prog_14_method_69_code
def yJ9_min_7cf53 : MethodName := ⟨RJ9, "min", "(II)I"⟩
def RJ0 : String := "java/lang/String"
def TJ0 : u_T := fun k => match k with
  | _ => ("", "", "", false)
def tyJ0 : Nat → FieldType := fun k => match k with
  | _ => .int
theorem nmJ0 : ∀ a, a < 0 → ∀ b, b < 0 → a ≠ b → (TJ0 a).2.1 ≠ (TJ0 b).2.1 := by decide +kernel
theorem tyJ0_ok : ∀ k, k < 0 → parseFieldDescriptor (TJ0 k).2.2.1 = some (tyJ0 k) := by decide +kernel
abbrev cJ0_length_8abf5 : ByteArray := prog_15_method_54_code
def yJ0_length_8abf5 : MethodName := ⟨RJ0, "length", "()I"⟩
abbrev cJ0_isEmpty_aae02 : ByteArray := prog_15_method_55_code
def yJ0_isEmpty_aae02 : MethodName := ⟨RJ0, "isEmpty", "()Z"⟩
abbrev cJ0_charAt_5068e : ByteArray := prog_15_method_56_code
def yJ0_charAt_5068e : MethodName := ⟨RJ0, "charAt", "(I)C"⟩
abbrev cJ0_indexOf_0f7a4 : ByteArray := prog_15_method_79_code
def yJ0_indexOf_0f7a4 : MethodName := ⟨RJ0, "indexOf", "(I)I"⟩
abbrev cJ0_indexOf_7cf53 : ByteArray := prog_15_method_80_code
def yJ0_indexOf_7cf53 : MethodName := ⟨RJ0, "indexOf", "(II)I"⟩
abbrev cJ0_coder_7d493 : ByteArray := prog_15_method_152_code
def yJ0_coder_7d493 : MethodName := ⟨RJ0, "coder", "()B"⟩
abbrev cJ0_isLatin1_aae02 : ByteArray := prog_15_method_154_code
def yJ0_isLatin1_aae02 : MethodName := ⟨RJ0, "isLatin1", "()Z"⟩
abbrev cJ0_checkIndex_df160 : ByteArray := prog_15_method_155_code
def yJ0_checkIndex_df160 : MethodName := ⟨RJ0, "checkIndex", "(II)V"⟩
abbrev cJ0_checkBoundsBeginEnd_23922 : ByteArray := prog_15_method_158_code
def yJ0_checkBoundsBeginEnd_23922 : MethodName := ⟨RJ0, "checkBoundsBeginEnd", "(III)V"⟩
def RJ1 : String := "java/lang/StringLatin1"
def TJ1 : u_T := fun k => match k with
  | _ => ("", "", "", false)
def tyJ1 : Nat → FieldType := fun k => match k with
  | _ => .int
theorem nmJ1 : ∀ a, a < 0 → ∀ b, b < 0 → a ≠ b → (TJ1 a).2.1 ≠ (TJ1 b).2.1 := by decide +kernel
theorem tyJ1_ok : ∀ k, k < 0 → parseFieldDescriptor (TJ1 k).2.2.1 = some (tyJ1 k) := by decide +kernel
abbrev cJ1_charAt_3b067 : ByteArray := prog_16_method_2_code
def yJ1_charAt_3b067 : MethodName := ⟨RJ1, "charAt", "([BI)C"⟩
abbrev cJ1_canEncode_9a6ad : ByteArray := prog_16_method_4_code
def yJ1_canEncode_9a6ad : MethodName := ⟨RJ1, "canEncode", "(I)Z"⟩
abbrev cJ1_indexOf_4cfef : ByteArray := prog_16_method_22_code
def yJ1_indexOf_4cfef : MethodName := ⟨RJ1, "indexOf", "([BIII)I"⟩
abbrev cJ1_indexOfChar_4cfef : ByteArray := prog_16_method_23_code
def yJ1_indexOfChar_4cfef : MethodName := ⟨RJ1, "indexOfChar", "([BIII)I"⟩
def RJ2 : String := "java/lang/StringUTF16"
def TJ2 : u_T := fun k => match k with
  | _ => ("", "", "", false)
def tyJ2 : Nat → FieldType := fun k => match k with
  | _ => .int
theorem nmJ2 : ∀ a, a < 0 → ∀ b, b < 0 → a ≠ b → (TJ2 a).2.1 ≠ (TJ2 b).2.1 := by decide +kernel
theorem tyJ2_ok : ∀ k, k < 0 → parseFieldDescriptor (TJ2 k).2.2.1 = some (tyJ2 k) := by decide +kernel
abbrev cJ2_getChar_3b067 : ByteArray := prog_17_method_5_code
def yJ2_getChar_3b067 : MethodName := ⟨RJ2, "getChar", "([BI)C"⟩
abbrev cJ2_length_9d52b : ByteArray := prog_17_method_6_code
def yJ2_length_9d52b : MethodName := ⟨RJ2, "length", "([B)I"⟩
abbrev cJ2_indexOf_4cfef : ByteArray := prog_17_method_40_code
def yJ2_indexOf_4cfef : MethodName := ⟨RJ2, "indexOf", "([BIII)I"⟩
abbrev cJ2_indexOfChar_4cfef : ByteArray := prog_17_method_47_code
def yJ2_indexOfChar_4cfef : MethodName := ⟨RJ2, "indexOfChar", "([BIII)I"⟩
abbrev cJ2_indexOfCharUnsafe_4cfef : ByteArray := prog_17_method_48_code
def yJ2_indexOfCharUnsafe_4cfef : MethodName := ⟨RJ2, "indexOfCharUnsafe", "([BIII)I"⟩
abbrev cJ2_indexOfSupplementary_4cfef : ByteArray := prog_17_method_49_code
def yJ2_indexOfSupplementary_4cfef : MethodName := ⟨RJ2, "indexOfSupplementary", "([BIII)I"⟩
abbrev cJ2_charAt_3b067 : ByteArray := prog_17_method_83_code
def yJ2_charAt_3b067 : MethodName := ⟨RJ2, "charAt", "([BI)C"⟩
abbrev cJ2_checkIndex_2214a : ByteArray := prog_17_method_91_code
def yJ2_checkIndex_2214a : MethodName := ⟨RJ2, "checkIndex", "(I[B)V"⟩
abbrev cJ2_checkBoundsBeginEnd_d044e : ByteArray := prog_17_method_93_code
def yJ2_checkBoundsBeginEnd_d044e : MethodName := ⟨RJ2, "checkBoundsBeginEnd", "(II[B)V"⟩
def RJ10 : String := "java/lang/System"
def TJ10 : u_T := fun k => match k with
  | _ => ("", "", "", false)
def tyJ10 : Nat → FieldType := fun k => match k with
  | _ => .int
theorem nmJ10 : ∀ a, a < 0 → ∀ b, b < 0 → a ≠ b → (TJ10 a).2.1 ≠ (TJ10 b).2.1 := by decide +kernel
theorem tyJ10_ok : ∀ k, k < 0 → parseFieldDescriptor (TJ10 k).2.2.1 = some (tyJ10 k) := by decide +kernel
def RJ3 : String := "jdk/internal/util/Preconditions"
def TJ3 : u_T := fun k => match k with
  | _ => ("", "", "", false)
def tyJ3 : Nat → FieldType := fun k => match k with
  | _ => .int
theorem nmJ3 : ∀ a, a < 0 → ∀ b, b < 0 → a ≠ b → (TJ3 a).2.1 ≠ (TJ3 b).2.1 := by decide +kernel
theorem tyJ3_ok : ∀ k, k < 0 → parseFieldDescriptor (TJ3 k).2.2.1 = some (tyJ3 k) := by decide +kernel
abbrev cJ3_checkIndex_8e157 : ByteArray := prog_19_method_11_code
def yJ3_checkIndex_8e157 : MethodName := ⟨RJ3, "checkIndex", "(IILjava/util/function/BiFunction;)I"⟩
abbrev cJ3_checkFromToIndex_8c36e : ByteArray := prog_19_method_12_code
def yJ3_checkFromToIndex_8c36e : MethodName := ⟨RJ3, "checkFromToIndex", "(IIILjava/util/function/BiFunction;)I"⟩
def RL : String := "EatenByDuskLaw"
abbrev cL_law : ByteArray := code
def yL_law : MethodName := ⟨RL, "law", "([I)Z"⟩
abbrev vwCl : List vw_C := [(RX0, TX0, 0), (RX1, TX1, 0), (RX2, TX2, 14), (RX3, TX3, 0), (RX4, TX4, 2), (RX5, TX5, 0), (RX6, TX6, 0), (RX7, TX7, 0), (RX8, TX8, 8), (RX9, TX9, 27)]
end
section
/-! THE FRAME: the words of the tables in one list (TBg); what holds around every method (EK, ES); a contract (CT); the walk of a method over a named world (WF), a row an instruction. -/
def TBg : List Cond := lw_tbl.filter goodWord
theorem tb_of {w : Cond} (i : Nat) (h : lw_tbl[i]? = some w) (g : goodWord w = true) : w ∈ TBg := List.mem_filter.mpr ⟨List.mem_of_getElem? h, g⟩
theorem tb_lw {w : Cond} (h : w ∈ TBg) : w ∈ lw_tbl := (List.mem_filter.mp h).1
theorem tb_good {w : Cond} (h : w ∈ TBg) : (w.onTables && w.keeps) = true ∨ ∃ ty, w = .arrayClass ty := good_of_word (List.mem_filter.mp h).2
theorem gi_tb {c' : Cond} (h : c' ∈ TBg) : GoodIn TBg (c' :: TBg) := by
  intro w hw
  rcases List.mem_cons.mp hw with rfl | hw
  · exact ⟨h, tb_good h⟩
  · exact ⟨hw, tb_good hw⟩
def nestW : List (String × Nat × MethodName × String) := [(RX8, 9, yX6_init, RX8), (RX8, 12, yX7_init, RX8), (RX7, 1, yX6_init, RX8), (RX8, 15, yX0_init, RX8), (RX0, 1, yX6_init, RX8), (RX8, 18, yX5_init, RX8), (RX5, 1, yX7_init, RX8), (RX8, 21, yX3_init, RX8), (RX3, 1, yX6_init, RX8), (RX8, 24, yX1_init, RX8), (RX1, 1, yX0_init, RX8), (RX8, 44, yX4_init, RX8), (RX4, 70, yX8_isInk, RX8), (RX2, 66, yX8_isInk, RX8)]
def NF (U : State) : Prop := ∀ q ∈ nestW, va_Nw (.methodLinkNest q.1 q.2.1 q.2.2.1 q.2.2.2) U
theorem NF.warm {s U : State} (hW : s.WarmedH U.vm) (h : NF s) : NF U := fun q hq => va_Nw.warmM hW (h q hq)
theorem NF.same {s U : State} (hv : s.vm = U.vm) (h : NF s) : NF U := fun q hq => va_Nw.same rfl hv (h q hq)
abbrev Ev : Type := va_G × (ClassId × ClassId × ClassId) × (Nat → Nat) × (Nat → Nat)
def tysE (E : Ev) : List (ClassId × FieldType) := [(E.2.1.1, .int), (E.2.1.2.1, .char), (E.2.1.2.2, .object "EatenByDusk$Sparrow")]
def lenS : List Nat := [4, 5, 3, 0, 6]
def bytS : List (List Int32) := [[100, 100, 100, 59], [107, 100, 100, 100, 59], [100, 100, 59], [], [115, 116, 99, 111, 103, 102]]
def SR (ad : Nat → Nat) (U : State) : Prop := vk_R "EatenByDusk$Letters" 100 "ddd;" (ad 0) U ∧ vk_R "EatenByDusk$Letters" 102 "kddd;" (ad 1) U ∧ vk_R "EatenByDusk$Letters" 104 "dd;" (ad 2) U ∧ vk_R "EatenByDusk$Letters" 106 "" (ad 3) U ∧ vk_R "EatenByDusk$Letters" 83 "stcogf" (ad 4) U ∧ vk_R "EatenByDusk" 218 "stcogf" (ad 4) U
theorem SR.warm {ad : Nat → Nat} {s U : State} (hW : s.WarmedH U.vm) (h : SR ad s) : SR ad U := ⟨h.1.warm hW, h.2.1.warm hW, h.2.2.1.warm hW, h.2.2.2.1.warm hW, h.2.2.2.2.1.warm hW, h.2.2.2.2.2.warm hW⟩
theorem SR.same {ad : Nat → Nat} {s U : State} (hv : U.vm = s.vm) (h : SR ad s) : SR ad U := ⟨h.1.same hv, h.2.1.same hv, h.2.2.1.same hv, h.2.2.2.1.same hv, h.2.2.2.2.1.same hv, h.2.2.2.2.2.same hv⟩
def EK (E : Ev) (U : State) : Prop := va_K E.1 vwCl (tysE E) U ∧ NF U ∧ SR E.2.2.1 U
theorem EK.warm {E : Ev} {s U : State} (hW : s.WarmedH U.vm) (h : EK E s) : EK E U := ⟨va_K.moved hW.alike h.1, h.2.1.warm hW, h.2.2.warm hW⟩
theorem EK.same {E : Ev} {s U : State} (hv : s.vm = U.vm) (h : EK E s) : EK E U := ⟨va_K.moved (hv ▸ Vm.Alike.refl s.vm) h.1, h.2.1.same hv, h.2.2.same hv.symm⟩
def ES (E : Ev) (A : Nat → Prop) (U : State) (H : Heap) : Prop := vk_S 5 lenS bytS E.2.2.1 E.2.2.2 A U H ∧ va_Z "java/lang/String" "COMPACT_STRINGS" "Z" (.int 1) A U H ∧ va_Zq "jdk/internal/util/Preconditions" "SIOOBE_FORMATTER" "Ljava/util/function/BiFunction;" A U H
theorem ES.moved {E : Ev} {A : Nat → Prop} {u U : State} {H : Heap} (hvm : u.vm.Alike U.vm) (h : ES E A u H) : ES E A U H := ⟨h.1.moved hvm, h.2.1.moved hvm, h.2.2.moved hvm⟩
theorem ES.kept {E : Ev} {A : Nat → Prop} {U : State} {H H1 : Heap} (h : ES E A U H) (hq : ∀ a : Nat, a < H.size → ¬ A a → H1[a]? = H[a]?) : ES E A U H1 := ⟨h.1.kept hq, h.2.1.kept hq, h.2.2.kept hq⟩
theorem ES.narrow {E : Ev} {A B : Nat → Prop} {U : State} {H : Heap} (h : ES E A U H) (hAB : ∀ q, B q → A q) : ES E B U H := ⟨h.1.narrow hAB, h.2.1.narrow hAB, h.2.2.narrow hAB⟩
/-- the start of a method, with the world w -/
def Ent (E : Ev) (w : va_W) (sz : Nat) (U : State) : Prop := U.heap.size = sz ∧ va_P E.1 vwCl w U.heap ∧ va_D (fun _ => True) w ∧ EK E U ∧ ES E (va_A w sz) U U.heap
/-- the end of a method that began with the world w -/
def EndW (E : Ev) (w : va_W) (sz : Nat) (Post : Option Value → va_W → Prop) : Array Value → State → Outcome → State → Prop := fun _ st oc t =>
  (∃ (v : Option Value) (w2 : va_W), oc = .returned v ∧ Post v w2 ∧ va_P E.1 vwCl w2 t.heap ∧ va_D (va_A w sz) w2) ∧ va_F (va_A w sz) st t
/-- a contract -/
def CT (l : Launch) (E : Ev) (y : MethodName) (b : ByteArray) (mL : Nat) (ret : Option FieldType) (rm : Room) (as : List Value) (w : va_W) (Post : Option Value → va_W → Prop) : Prop :=
  ∀ sz : Nat, Met l y (.code y b mL ret :: TBg) rm (va_Pc as (Ent E w sz)) (EndW E w sz Post) rm.cells rm.slots (va_A w sz)
def Cx (p : Program) (s : State) (m : MethodId) (args : Array Value) (meth : Method) (c : Code) (E : Ev) (own : String) (cc : ByteArray) (nL : Nat) (ret : Option FieldType) (ini : Bool) (Xt : State → Prop) (w0 : va_W) : Prop :=
  p.tables.exec = Jvm.exec ∧ c.code = cc ∧ c.maxLocals = nL ∧ s.vm.findClass own = some m.cls ∧ (∀ w ∈ TBg, w.before args s = true) ∧ meth.sig.returnType = ret ∧ meth.locks = false ∧ EK E s ∧ ES E (va_A w0 s.heap.size) s s.heap ∧ (ini = true → meth.name = "<init>") ∧ Xt s
abbrev Qe : Type := List Frame → Array Value → State → State → Prop
def WF (l : Launch) (E : Ev) (own : String) (cc : ByteArray) (nL : Nat) (ret : Option FieldType) (rm : Room) (ini : Bool) (Xt : State → Prop) (QQ : Qe) (w0 : va_W) (ce sl pc : Nat) (lv : List (Nat × Value)) (st : List Value) (w : va_W) : Prop :=
  ∀ (p : Program) (e : Env) (s : State) (m : MethodId) (args : Array Value) (below : List Frame) (meth : Method) (c : Code) (H : Heap) (locs : List Loc) (ls : Array Slot),
    Cx p s m args meth c E own cc nL ret ini Xt w0 → lv_has ls nL lv → va_P E.1 vwCl w H → va_D (va_A w0 s.heap.size) w → va_S (va_A w0 s.heap.size) s.heap H locs →
    W p l e rm s m args below meth c H locs ce sl (QQ below args s) (F0 m pc ls st)
def QM (E : Ev) (w0 : va_W) (Post : Option Value → va_W → Prop) (rm : Room) : Qe := fun below args s => MQ below (EndW E w0 s.heap.size Post) args s rm.cells rm.slots (va_A w0 s.heap.size)
section WFS
variable {l : Launch} {E : Ev} {own : String} {cc : ByteArray} {nL : Nat} {ret : Option FieldType} {rm : Room} {ini : Bool} {Xt : State → Prop} {QQ : Qe} {w0 : va_W} {ce sl pc : Nat} {lv lv' : List (Nat × Value)} {st : List Value} {w : va_W}
/-- a contract out of the walk of the method's body -/
theorem CT.of {y : MethodName} {as : List Value} {Post : Option Value → va_W → Prop} (ini : Bool) (hy : plainName y.cls = true) (hin : ini = true → y.name = "<init>") (hl : (lg_sl as).length ≤ nL) (hlv : lv_args 0 as = lv)
    (body : WF l E y.cls cc nL ret rm ini (fun _ => True) (QM E w Post rm) w 0 0 0 lv [] w) : CT l E y cc nL ret rm as w Post := by
  intro sz
  refine Met.ofW (cc := cc) (maxL := nL) (ret := ret) hy rfl ?_
  intro p e s m args below meth c s₁ B hml hv
  obtain ⟨rfl, hsz, hP, hD0, hEK, hES⟩ := hv
  have hts := atoms_spec (ws := .code y cc nL ret :: TBg) B.pre
  subst hsz
  rw [lg_entry_eq]
  refine body p e s m _ below meth c s.heap [] _ ⟨B.exec, B.bytes, hml, findClass_of_methodNamed B.named, fun w hw => hts w (List.mem_cons_of_mem _ hw), B.returns, B.notSynchronized, hEK, hES, fun h => ?_, trivial⟩ ?_ hP hD0.self va_S.rf
  · rw [(name_of_methodNamed B.named B.method).1]; exact hin h
  · rw [← hlv]; exact lv_entry as hl
theorem wf_world (w' : va_W) (h : w = w') (k : WF l E own cc nL ret rm ini Xt QQ w0 ce sl pc lv st w') : WF l E own cc nL ret rm ini Xt QQ w0 ce sl pc lv st w := h ▸ k
theorem wf_st (st' : List Value) (h : st = st') (k : WF l E own cc nL ret rm ini Xt QQ w0 ce sl pc lv st' w) : WF l E own cc nL ret rm ini Xt QQ w0 ce sl pc lv st w := h ▸ k
theorem wf_sub (ks : List Nat) (h : lv_pick lv ks = lv') (k : WF l E own cc nL ret rm ini Xt QQ w0 ce sl pc lv' st w) : WF l E own cc nL ret rm ini Xt QQ w0 ce sl pc lv st w :=
  fun p e s m args below meth c H locs ls hC hl hP hD hS => k p e s m args below meth c H locs ls hC (lv_sub hl ks h) hP hD hS
theorem va_D.perm {A : Nat → Prop} {w w' : va_W} (h : w.Perm w') (hD : va_D A w) : va_D A w' := by
  have key : ∀ v : va_W, va_D A v ↔ (v.Pairwise (fun p q => p.1 ≠ q.1) ∧ ∀ q ∈ v, A q.1) := by
    intro v
    constructor
    · intro h
      refine ⟨List.pairwise_iff_getElem.mpr (fun i j hi hj hij e => ?_), fun q hq => ?_⟩
      · have := h.1 i j v[i] v[j] (List.getElem?_eq_getElem hi) (List.getElem?_eq_getElem hj) e
        omega
      · obtain ⟨k, hk⟩ := List.getElem?_of_mem hq
        exact h.2 k q hk
    · intro h
      refine ⟨fun i j p q hi hj e => ?_, fun k q hk => h.2 q (List.mem_of_getElem? hk)⟩
      obtain ⟨hi1, hi2⟩ := List.getElem?_eq_some_iff.mp hi
      obtain ⟨hj1, hj2⟩ := List.getElem?_eq_some_iff.mp hj
      have hp := List.pairwise_iff_getElem.mp h.1
      rcases Nat.lt_trichotomy i j with h1 | h1 | h1
      · exact absurd (by rw [hi2, hj2]; exact e) (hp i j hi1 hj1 h1)
      · exact h1
      · exact absurd (by rw [hi2, hj2]; exact e.symm) (hp j i hj1 hi1 h1)
  rw [key] at hD ⊢
  exact ⟨(h.pairwise_iff (fun {a b} (h : a.1 ≠ b.1) => h.symm)).mp hD.1, fun q hq => hD.2 q (h.mem_iff.mpr hq)⟩
theorem va_P.perm {D : va_G} {cl : List vw_C} {w w' : va_W} {H : Heap} (h : w.Perm w') (hP : va_P D cl w H) : va_P D cl w' H := by
  intro k q hk
  obtain ⟨j, hj⟩ := List.getElem?_of_mem (h.mem_iff.mpr (List.mem_of_getElem? hk))
  exact hP j q hj
theorem wf_perm {w' : va_W} (h : w.Perm w') (k : WF l E own cc nL ret rm ini Xt QQ w0 ce sl pc lv st w') : WF l E own cc nL ret rm ini Xt QQ w0 ce sl pc lv st w :=
  fun p e s m args below meth c H locs ls hC hl hP hD hS => k p e s m args below meth c H locs ls hC hl (hP.perm h) (hD.perm h) hS
/-- the same cells in other words: equal addresses, equal cells -/
theorem wf_cells {w' : va_W} (ha : w.map (·.1) = w'.map (·.1)) (hc : ∀ (D : va_G) (H : Heap), va_P D vwCl w H → va_P D vwCl w' H) (k : WF l E own cc nL ret rm ini Xt QQ w0 ce sl pc lv st w') : WF l E own cc nL ret rm ini Xt QQ w0 ce sl pc lv st w := by
  intro p e s m args below meth c H locs ls hC hl hP hD hS
  refine k p e s m args below meth c H locs ls hC hl (hc _ _ hP) ?_ hS
  have key : ∀ (i : Nat) (q : Nat × va_E), w'[i]? = some q → ∃ q', w[i]? = some q' ∧ q'.1 = q.1 := by
    intro i q hq
    have h1 : (w'.map (·.1))[i]? = some q.1 := by rw [List.getElem?_map, hq]; rfl
    rw [← ha, List.getElem?_map] at h1
    cases h2 : w[i]? with
    | none => rw [h2] at h1; cases h1
    | some q' => rw [h2] at h1; exact ⟨q', rfl, Option.some.inj h1⟩
  refine ⟨fun i j x y hi hj e => ?_, fun i q hi => ?_⟩
  · obtain ⟨x', h1, h2⟩ := key i x hi
    obtain ⟨y', h3, h4⟩ := key j y hj
    exact hD.1 i j x' y' h1 h3 (by rw [h2, h4]; exact e)
  · obtain ⟨x', h1, h2⟩ := key i q hi
    rw [← h2]; exact hD.2 i x' h1
theorem wf_widen (ce' sl' : Nat) (h1 : ce ≤ ce') (h2 : sl ≤ sl') (h3 : ce' ≤ rm.cells) (h4 : sl' ≤ rm.slots) (k : WF l E own cc nL ret rm ini Xt QQ w0 ce' sl' pc lv st w) : WF l E own cc nL ret rm ini Xt QQ w0 ce sl pc lv st w :=
  fun p e s m args below meth c H locs ls hC hl hP hD hS => W.widen h1 h2 (k p e s m args below meth c H locs ls hC hl hP hD hS)

theorem wf_iconst {n : Int} (v : Int32) (d : decode cc pc = .ok (.iconst n, 1)) (hv : Int32.ofInt n = v) (k : WF l E own cc nL ret rm ini Xt QQ w0 ce sl (pc + 1) lv (.int v :: st) w) : WF l E own cc nL ret rm ini Xt QQ w0 ce sl pc lv (st) w := by
  intro p e s m args below meth c H locs ls hC hl hP hD hS
  obtain ⟨hx, hb, hml, hown, hts, hr, hlk, hEK, hES, hin, hXt⟩ := id hC
  exact lv_iconst hx hb (v := v) d hv (k p e s m args below meth c H locs ls hC hl hP hD hS)
theorem wf_bipush {n : Int} (v : Int32) (d : decode cc pc = .ok (.bipush n, 2)) (hv : (Int8.ofInt n).toInt32 = v) (k : WF l E own cc nL ret rm ini Xt QQ w0 ce sl (pc + 2) lv (.int v :: st) w) : WF l E own cc nL ret rm ini Xt QQ w0 ce sl pc lv (st) w := by
  intro p e s m args below meth c H locs ls hC hl hP hD hS
  obtain ⟨hx, hb, hml, hown, hts, hr, hlk, hEK, hES, hin, hXt⟩ := id hC
  exact lv_bipush hx hb (v := v) d hv (k p e s m args below meth c H locs ls hC hl hP hD hS)
theorem wf_sipush {n : Int} (v : Int32) (d : decode cc pc = .ok (.sipush n, 3)) (hv : (Int16.ofInt n).toInt32 = v) (k : WF l E own cc nL ret rm ini Xt QQ w0 ce sl (pc + 3) lv (.int v :: st) w) : WF l E own cc nL ret rm ini Xt QQ w0 ce sl pc lv (st) w := by
  intro p e s m args below meth c H locs ls hC hl hP hD hS
  obtain ⟨hx, hb, hml, hown, hts, hr, hlk, hEK, hES, hin, hXt⟩ := id hC
  exact lv_sipush hx hb (v := v) d hv (k p e s m args below meth c H locs ls hC hl hP hD hS)
theorem wf_ldc {i : Nat} {v : Int32} (hk : Cond.constant own i v ∈ TBg) (d : decode cc pc = .ok (.ldc i, 2)) (k : WF l E own cc nL ret rm ini Xt QQ w0 ce sl (pc + 2) lv (.int v :: st) w) : WF l E own cc nL ret rm ini Xt QQ w0 ce sl pc lv (st) w := by
  intro p e s m args below meth c H locs ls hC hl hP hD hS
  obtain ⟨hx, hb, hml, hown, hts, hr, hlk, hEK, hES, hin, hXt⟩ := id hC
  exact lv_ldc hx hb hown (hts _ hk) d (k p e s m args below meth c H locs ls hC hl hP hD hS)
theorem wf_ldcw {i : Nat} {v : Int32} (hk : Cond.constant own i v ∈ TBg) (d : decode cc pc = .ok (.ldc_w i, 3)) (k : WF l E own cc nL ret rm ini Xt QQ w0 ce sl (pc + 3) lv (.int v :: st) w) : WF l E own cc nL ret rm ini Xt QQ w0 ce sl pc lv (st) w := by
  intro p e s m args below meth c H locs ls hC hl hP hD hS
  obtain ⟨hx, hb, hml, hown, hts, hr, hlk, hEK, hES, hin, hXt⟩ := id hC
  exact lv_ldcw hx hb hown (hts _ hk) d (k p e s m args below meth c H locs ls hC hl hP hD hS)
theorem wf_iload_n {i : Fin 4} {x : Int32} (j : Nat) (d : decode cc pc = .ok (.iload_n i, 1)) (h : lv[j]? = some ((i : Nat), .int x)) (k : WF l E own cc nL ret rm ini Xt QQ w0 ce sl (pc + 1) lv (.int x :: st) w) : WF l E own cc nL ret rm ini Xt QQ w0 ce sl pc lv (st) w := by
  intro p e s m args below meth c H locs ls hC hl hP hD hS
  obtain ⟨hx, hb, hml, hown, hts, hr, hlk, hEK, hES, hin, hXt⟩ := id hC
  exact lv_iload_n hx hb d rfl (lv_at hl j h) (k p e s m args below meth c H locs ls hC hl hP hD hS)
theorem wf_iload {i : Nat} {x : Int32} (j : Nat) (d : decode cc pc = .ok (.iload i, 2)) (h : lv[j]? = some (i, .int x)) (k : WF l E own cc nL ret rm ini Xt QQ w0 ce sl (pc + 2) lv (.int x :: st) w) : WF l E own cc nL ret rm ini Xt QQ w0 ce sl pc lv (st) w := by
  intro p e s m args below meth c H locs ls hC hl hP hD hS
  obtain ⟨hx, hb, hml, hown, hts, hr, hlk, hEK, hES, hin, hXt⟩ := id hC
  exact lv_iload hx hb d (lv_at hl j h) (k p e s m args below meth c H locs ls hC hl hP hD hS)
theorem wf_aload_n {i : Fin 4} {x : Nat} (j : Nat) (d : decode cc pc = .ok (.aload_n i, 1)) (h : lv[j]? = some ((i : Nat), .ref x)) (k : WF l E own cc nL ret rm ini Xt QQ w0 ce sl (pc + 1) lv (.ref x :: st) w) : WF l E own cc nL ret rm ini Xt QQ w0 ce sl pc lv (st) w := by
  intro p e s m args below meth c H locs ls hC hl hP hD hS
  obtain ⟨hx, hb, hml, hown, hts, hr, hlk, hEK, hES, hin, hXt⟩ := id hC
  exact lv_aload_n hx hb d rfl (lv_at hl j h) (k p e s m args below meth c H locs ls hC hl hP hD hS)
theorem wf_aload {i : Nat} {x : Nat} (j : Nat) (d : decode cc pc = .ok (.aload i, 2)) (h : lv[j]? = some (i, .ref x)) (k : WF l E own cc nL ret rm ini Xt QQ w0 ce sl (pc + 2) lv (.ref x :: st) w) : WF l E own cc nL ret rm ini Xt QQ w0 ce sl pc lv (st) w := by
  intro p e s m args below meth c H locs ls hC hl hP hD hS
  obtain ⟨hx, hb, hml, hown, hts, hr, hlk, hEK, hES, hin, hXt⟩ := id hC
  exact lv_aload hx hb d (lv_at hl j h) (k p e s m args below meth c H locs ls hC hl hP hD hS)
theorem wf_istore_n {f : Fin 4} {i : Nat} {x : Int32} (lv' : List (Nat × Value)) (d : decode cc pc = .ok (.istore_n f, 1)) (hi : (f : Nat) = i) (hn : i < nL) (h : (i, Value.int x) :: lv.filter (fun q => !(q.1 == i) && !(q.1 + 1 == i && q.2.category == 2)) = lv') (k : WF l E own cc nL ret rm ini Xt QQ w0 ce sl (pc + 1) lv' st w) : WF l E own cc nL ret rm ini Xt QQ w0 ce sl pc lv (.int x :: st) w := by
  intro p e s m args below meth c H locs ls hC hl hP hD hS
  obtain ⟨hx, hb, hml, hown, hts, hr, hlk, hEK, hES, hin, hXt⟩ := id hC
  exact lv_istore_n hx hb d hi hl hn h (fun ls hl => k p e s m args below meth c H locs ls hC hl hP hD hS)
theorem wf_istore {i : Nat} {x : Int32} (lv' : List (Nat × Value)) (d : decode cc pc = .ok (.istore i, 2)) (hn : i < nL) (h : (i, Value.int x) :: lv.filter (fun q => !(q.1 == i) && !(q.1 + 1 == i && q.2.category == 2)) = lv') (k : WF l E own cc nL ret rm ini Xt QQ w0 ce sl (pc + 2) lv' st w) : WF l E own cc nL ret rm ini Xt QQ w0 ce sl pc lv (.int x :: st) w := by
  intro p e s m args below meth c H locs ls hC hl hP hD hS
  obtain ⟨hx, hb, hml, hown, hts, hr, hlk, hEK, hES, hin, hXt⟩ := id hC
  exact lv_istore hx hb d hl hn h (fun ls hl => k p e s m args below meth c H locs ls hC hl hP hD hS)
theorem wf_astore_n {f : Fin 4} {i : Nat} {x : Nat} (lv' : List (Nat × Value)) (d : decode cc pc = .ok (.astore_n f, 1)) (hi : (f : Nat) = i) (hn : i < nL) (h : (i, Value.ref x) :: lv.filter (fun q => !(q.1 == i) && !(q.1 + 1 == i && q.2.category == 2)) = lv') (k : WF l E own cc nL ret rm ini Xt QQ w0 ce sl (pc + 1) lv' st w) : WF l E own cc nL ret rm ini Xt QQ w0 ce sl pc lv (.ref x :: st) w := by
  intro p e s m args below meth c H locs ls hC hl hP hD hS
  obtain ⟨hx, hb, hml, hown, hts, hr, hlk, hEK, hES, hin, hXt⟩ := id hC
  exact lv_astore_n hx hb d hi hl hn h (fun ls hl => k p e s m args below meth c H locs ls hC hl hP hD hS)
theorem wf_astore {i : Nat} {x : Nat} (lv' : List (Nat × Value)) (d : decode cc pc = .ok (.astore i, 2)) (hn : i < nL) (h : (i, Value.ref x) :: lv.filter (fun q => !(q.1 == i) && !(q.1 + 1 == i && q.2.category == 2)) = lv') (k : WF l E own cc nL ret rm ini Xt QQ w0 ce sl (pc + 2) lv' st w) : WF l E own cc nL ret rm ini Xt QQ w0 ce sl pc lv (.ref x :: st) w := by
  intro p e s m args below meth c H locs ls hC hl hP hD hS
  obtain ⟨hx, hb, hml, hown, hts, hr, hlk, hEK, hES, hin, hXt⟩ := id hC
  exact lv_astore hx hb d hl hn h (fun ls hl => k p e s m args below meth c H locs ls hC hl hP hD hS)
theorem wf_iinc {i : Nat} {n : Int} {x : Int32} (v : Int32) (j : Nat) (lv' : List (Nat × Value)) (d : decode cc pc = .ok (.iinc i n, 3)) (hj : lv[j]? = some (i, .int x)) (hv : x + Int32.ofInt n = v) (hn : i < nL) (h : (i, Value.int v) :: lv.filter (fun q => !(q.1 == i) && !(q.1 + 1 == i && q.2.category == 2)) = lv') (k : WF l E own cc nL ret rm ini Xt QQ w0 ce sl (pc + 3) lv' st w) : WF l E own cc nL ret rm ini Xt QQ w0 ce sl pc lv st w := by
  intro p e s m args below meth c H locs ls hC hl hP hD hS
  obtain ⟨hx, hb, hml, hown, hts, hr, hlk, hEK, hES, hin, hXt⟩ := id hC
  exact lv_iinc hx hb d hl hj hv hn h (fun ls hl => k p e s m args below meth c H locs ls hC hl hP hD hS)
theorem wf_iadd {x y : Int32} (v : Int32) (d : decode cc pc = .ok (.iadd, 1)) (hv : x + y = v) (k : WF l E own cc nL ret rm ini Xt QQ w0 ce sl (pc + 1) lv (.int v :: st) w) : WF l E own cc nL ret rm ini Xt QQ w0 ce sl pc lv (.int y :: .int x :: st) w := by
  intro p e s m args below meth c H locs ls hC hl hP hD hS
  obtain ⟨hx, hb, hml, hown, hts, hr, hlk, hEK, hES, hin, hXt⟩ := id hC
  subst hv
  exact lv_iadd hx hb d (k p e s m args below meth c H locs ls hC hl hP hD hS)
theorem wf_isub {x y : Int32} (v : Int32) (d : decode cc pc = .ok (.isub, 1)) (hv : x - y = v) (k : WF l E own cc nL ret rm ini Xt QQ w0 ce sl (pc + 1) lv (.int v :: st) w) : WF l E own cc nL ret rm ini Xt QQ w0 ce sl pc lv (.int y :: .int x :: st) w := by
  intro p e s m args below meth c H locs ls hC hl hP hD hS
  obtain ⟨hx, hb, hml, hown, hts, hr, hlk, hEK, hES, hin, hXt⟩ := id hC
  subst hv
  exact lv_isub hx hb d (k p e s m args below meth c H locs ls hC hl hP hD hS)
theorem wf_imul {x y : Int32} (v : Int32) (d : decode cc pc = .ok (.imul, 1)) (hv : x * y = v) (k : WF l E own cc nL ret rm ini Xt QQ w0 ce sl (pc + 1) lv (.int v :: st) w) : WF l E own cc nL ret rm ini Xt QQ w0 ce sl pc lv (.int y :: .int x :: st) w := by
  intro p e s m args below meth c H locs ls hC hl hP hD hS
  obtain ⟨hx, hb, hml, hown, hts, hr, hlk, hEK, hES, hin, hXt⟩ := id hC
  subst hv
  exact lv_imul hx hb d (k p e s m args below meth c H locs ls hC hl hP hD hS)
theorem wf_iand {x y : Int32} (v : Int32) (d : decode cc pc = .ok (.iand, 1)) (hv : x &&& y = v) (k : WF l E own cc nL ret rm ini Xt QQ w0 ce sl (pc + 1) lv (.int v :: st) w) : WF l E own cc nL ret rm ini Xt QQ w0 ce sl pc lv (.int y :: .int x :: st) w := by
  intro p e s m args below meth c H locs ls hC hl hP hD hS
  obtain ⟨hx, hb, hml, hown, hts, hr, hlk, hEK, hES, hin, hXt⟩ := id hC
  subst hv
  exact lv_iand hx hb d (k p e s m args below meth c H locs ls hC hl hP hD hS)
theorem wf_ior {x y : Int32} (v : Int32) (d : decode cc pc = .ok (.ior, 1)) (hv : x ||| y = v) (k : WF l E own cc nL ret rm ini Xt QQ w0 ce sl (pc + 1) lv (.int v :: st) w) : WF l E own cc nL ret rm ini Xt QQ w0 ce sl pc lv (.int y :: .int x :: st) w := by
  intro p e s m args below meth c H locs ls hC hl hP hD hS
  obtain ⟨hx, hb, hml, hown, hts, hr, hlk, hEK, hES, hin, hXt⟩ := id hC
  subst hv
  exact lv_ior hx hb d (k p e s m args below meth c H locs ls hC hl hP hD hS)
theorem wf_ixor {x y : Int32} (v : Int32) (d : decode cc pc = .ok (.ixor, 1)) (hv : x ^^^ y = v) (k : WF l E own cc nL ret rm ini Xt QQ w0 ce sl (pc + 1) lv (.int v :: st) w) : WF l E own cc nL ret rm ini Xt QQ w0 ce sl pc lv (.int y :: .int x :: st) w := by
  intro p e s m args below meth c H locs ls hC hl hP hD hS
  obtain ⟨hx, hb, hml, hown, hts, hr, hlk, hEK, hES, hin, hXt⟩ := id hC
  subst hv
  exact lv_ixor hx hb d (k p e s m args below meth c H locs ls hC hl hP hD hS)
theorem wf_ishl {x y : Int32} (v : Int32) (d : decode cc pc = .ok (.ishl, 1)) (hv : x <<< (y &&& 31) = v) (k : WF l E own cc nL ret rm ini Xt QQ w0 ce sl (pc + 1) lv (.int v :: st) w) : WF l E own cc nL ret rm ini Xt QQ w0 ce sl pc lv (.int y :: .int x :: st) w := by
  intro p e s m args below meth c H locs ls hC hl hP hD hS
  obtain ⟨hx, hb, hml, hown, hts, hr, hlk, hEK, hES, hin, hXt⟩ := id hC
  subst hv
  exact lv_ishl hx hb d (k p e s m args below meth c H locs ls hC hl hP hD hS)
theorem wf_ishr {x y : Int32} (v : Int32) (d : decode cc pc = .ok (.ishr, 1)) (hv : x >>> (y &&& 31) = v) (k : WF l E own cc nL ret rm ini Xt QQ w0 ce sl (pc + 1) lv (.int v :: st) w) : WF l E own cc nL ret rm ini Xt QQ w0 ce sl pc lv (.int y :: .int x :: st) w := by
  intro p e s m args below meth c H locs ls hC hl hP hD hS
  obtain ⟨hx, hb, hml, hown, hts, hr, hlk, hEK, hES, hin, hXt⟩ := id hC
  subst hv
  exact lv_ishr hx hb d (k p e s m args below meth c H locs ls hC hl hP hD hS)
theorem wf_idiv {x y : Int32} (v : Int32) (d : decode cc pc = .ok (.idiv, 1)) (hy : ¬ y = 0) (hv : x / y = v) (k : WF l E own cc nL ret rm ini Xt QQ w0 ce sl (pc + 1) lv (.int v :: st) w) : WF l E own cc nL ret rm ini Xt QQ w0 ce sl pc lv (.int y :: .int x :: st) w := by
  intro p e s m args below meth c H locs ls hC hl hP hD hS
  obtain ⟨hx, hb, hml, hown, hts, hr, hlk, hEK, hES, hin, hXt⟩ := id hC
  subst hv
  exact lv_idiv hx hb d hy (k p e s m args below meth c H locs ls hC hl hP hD hS)
theorem wf_irem {x y : Int32} (v : Int32) (d : decode cc pc = .ok (.irem, 1)) (hy : ¬ y = 0) (hv : x - x / y * y = v) (k : WF l E own cc nL ret rm ini Xt QQ w0 ce sl (pc + 1) lv (.int v :: st) w) : WF l E own cc nL ret rm ini Xt QQ w0 ce sl pc lv (.int y :: .int x :: st) w := by
  intro p e s m args below meth c H locs ls hC hl hP hD hS
  obtain ⟨hx, hb, hml, hown, hts, hr, hlk, hEK, hES, hin, hXt⟩ := id hC
  subst hv
  exact lv_irem hx hb d hy (k p e s m args below meth c H locs ls hC hl hP hD hS)
theorem wf_ineg {x : Int32} (v : Int32) (d : decode cc pc = .ok (.ineg, 1)) (hv : -x = v) (k : WF l E own cc nL ret rm ini Xt QQ w0 ce sl (pc + 1) lv (.int v :: st) w) : WF l E own cc nL ret rm ini Xt QQ w0 ce sl pc lv (.int x :: st) w := by
  intro p e s m args below meth c H locs ls hC hl hP hD hS
  obtain ⟨hx, hb, hml, hown, hts, hr, hlk, hEK, hES, hin, hXt⟩ := id hC
  subst hv
  exact lv_ineg hx hb d (k p e s m args below meth c H locs ls hC hl hP hD hS)
theorem wf_iushr {x y : Int32} (v : Int32) (d : decode cc pc = .ok (.iushr, 1)) (hv : (x.toUInt32 >>> (y.toUInt32 &&& Int32.toUInt32 31)).toInt32 = v) (k : WF l E own cc nL ret rm ini Xt QQ w0 ce sl (pc + 1) lv (.int v :: st) w) : WF l E own cc nL ret rm ini Xt QQ w0 ce sl pc lv (.int y :: .int x :: st) w := by
  intro p e s m args below meth c H locs ls hC hl hP hD hS
  obtain ⟨hx, hb, hml, hown, hts, hr, hlk, hEK, hES, hin, hXt⟩ := id hC
  exact lv_iushr hx hb d hv (k p e s m args below meth c H locs ls hC hl hP hD hS)
theorem wf_i2c {x : Int32} (v : Int32) (d : decode cc pc = .ok (.i2c, 1)) (hv : (x.toUInt32 % 65536).toInt32 = v) (k : WF l E own cc nL ret rm ini Xt QQ w0 ce sl (pc + 1) lv (.int v :: st) w) : WF l E own cc nL ret rm ini Xt QQ w0 ce sl pc lv (.int x :: st) w := by
  intro p e s m args below meth c H locs ls hC hl hP hD hS
  obtain ⟨hx, hb, hml, hown, hts, hr, hlk, hEK, hES, hin, hXt⟩ := id hC
  exact lv_i2c hx hb d hv (k p e s m args below meth c H locs ls hC hl hP hD hS)
theorem wf_i2b {x : Int32} (v : Int32) (d : decode cc pc = .ok (.i2b, 1)) (hv : x.toInt8.toInt32 = v) (k : WF l E own cc nL ret rm ini Xt QQ w0 ce sl (pc + 1) lv (.int v :: st) w) : WF l E own cc nL ret rm ini Xt QQ w0 ce sl pc lv (.int x :: st) w := by
  intro p e s m args below meth c H locs ls hC hl hP hD hS
  obtain ⟨hx, hb, hml, hown, hts, hr, hlk, hEK, hES, hin, hXt⟩ := id hC
  exact lv_i2b hx hb d hv (k p e s m args below meth c H locs ls hC hl hP hD hS)
theorem wf_dup {va : Value} (d : decode cc pc = .ok (.dup, 1)) (hva : va.category = 1) (k : WF l E own cc nL ret rm ini Xt QQ w0 ce sl (pc + 1) lv (va :: va :: st) w) : WF l E own cc nL ret rm ini Xt QQ w0 ce sl pc lv (va :: st) w := by
  intro p e s m args below meth c H locs ls hC hl hP hD hS
  obtain ⟨hx, hb, hml, hown, hts, hr, hlk, hEK, hES, hin, hXt⟩ := id hC
  exact lv_dup hx hb d hva (k p e s m args below meth c H locs ls hC hl hP hD hS)
theorem wf_pop {va : Value} (d : decode cc pc = .ok (.pop, 1)) (hva : va.category = 1) (k : WF l E own cc nL ret rm ini Xt QQ w0 ce sl (pc + 1) lv (st) w) : WF l E own cc nL ret rm ini Xt QQ w0 ce sl pc lv (va :: st) w := by
  intro p e s m args below meth c H locs ls hC hl hP hD hS
  obtain ⟨hx, hb, hml, hown, hts, hr, hlk, hEK, hES, hin, hXt⟩ := id hC
  exact lv_pop hx hb d hva (k p e s m args below meth c H locs ls hC hl hP hD hS)
theorem wf_dup_x1 {va vb : Value} (d : decode cc pc = .ok (.dup_x1, 1)) (hva : va.category = 1) (hvb : vb.category = 1) (k : WF l E own cc nL ret rm ini Xt QQ w0 ce sl (pc + 1) lv (va :: vb :: va :: st) w) : WF l E own cc nL ret rm ini Xt QQ w0 ce sl pc lv (va :: vb :: st) w := by
  intro p e s m args below meth c H locs ls hC hl hP hD hS
  obtain ⟨hx, hb, hml, hown, hts, hr, hlk, hEK, hES, hin, hXt⟩ := id hC
  exact lv_dup_x1 hx hb d hva hvb (k p e s m args below meth c H locs ls hC hl hP hD hS)
theorem wf_dup_x2 {va vb vd : Value} (d : decode cc pc = .ok (.dup_x2, 1)) (hva : va.category = 1) (hvb : vb.category = 1) (hvd : vd.category = 1) (k : WF l E own cc nL ret rm ini Xt QQ w0 ce sl (pc + 1) lv (va :: vb :: vd :: va :: st) w) : WF l E own cc nL ret rm ini Xt QQ w0 ce sl pc lv (va :: vb :: vd :: st) w := by
  intro p e s m args below meth c H locs ls hC hl hP hD hS
  obtain ⟨hx, hb, hml, hown, hts, hr, hlk, hEK, hES, hin, hXt⟩ := id hC
  exact lv_dup_x2 hx hb d hva hvb hvd (k p e s m args below meth c H locs ls hC hl hP hD hS)
theorem wf_dup2 {va vb : Value} (d : decode cc pc = .ok (.dup2, 1)) (hva : va.category = 1) (hvb : vb.category = 1) (k : WF l E own cc nL ret rm ini Xt QQ w0 ce sl (pc + 1) lv (va :: vb :: va :: vb :: st) w) : WF l E own cc nL ret rm ini Xt QQ w0 ce sl pc lv (va :: vb :: st) w := by
  intro p e s m args below meth c H locs ls hC hl hP hD hS
  obtain ⟨hx, hb, hml, hown, hts, hr, hlk, hEK, hES, hin, hXt⟩ := id hC
  exact lv_dup2_11 hx hb d hva hvb (k p e s m args below meth c H locs ls hC hl hP hD hS)
theorem wf_goto {off : Int} (tgt : Nat) (d : decode cc pc = .ok (.goto off, 3)) (ht : (pc : Int) + off = (tgt : Int)) (k : WF l E own cc nL ret rm ini Xt QQ w0 ce sl tgt lv (st) w) : WF l E own cc nL ret rm ini Xt QQ w0 ce sl pc lv (st) w := by
  intro p e s m args below meth c H locs ls hC hl hP hD hS
  obtain ⟨hx, hb, hml, hown, hts, hr, hlk, hEK, hES, hin, hXt⟩ := id hC
  exact lv_goto hx hb d ht (k p e s m args below meth c H locs ls hC hl hP hD hS)
theorem wf_icmp_eq {x y : Int32} {off : Int} (tgt : Nat) (d : decode cc pc = .ok (.if_icmp .eq off, 3)) (ht : (pc : Int) + off = (tgt : Int)) (kt : x = y → WF l E own cc nL ret rm ini Xt QQ w0 ce sl tgt lv st w) (kf : ¬ (x = y) → WF l E own cc nL ret rm ini Xt QQ w0 ce sl (pc + 3) lv st w) : WF l E own cc nL ret rm ini Xt QQ w0 ce sl pc lv (.int y :: .int x :: st) w := by
  intro p e s m args below meth c H locs ls hC hl hP hD hS
  obtain ⟨hx, hb, hml, hown, hts, hr, hlk, hEK, hES, hin, hXt⟩ := id hC
  exact lv_icmp_eq hx hb d ht (fun h => kt h p e s m args below meth c H locs ls hC hl hP hD hS) (fun h => kf h p e s m args below meth c H locs ls hC hl hP hD hS)
theorem wf_if_eq {x : Int32} {off : Int} (tgt : Nat) (d : decode cc pc = .ok (.ifCond .eq off, 3)) (ht : (pc : Int) + off = (tgt : Int)) (kt : x = 0 → WF l E own cc nL ret rm ini Xt QQ w0 ce sl tgt lv st w) (kf : ¬ (x = 0) → WF l E own cc nL ret rm ini Xt QQ w0 ce sl (pc + 3) lv st w) : WF l E own cc nL ret rm ini Xt QQ w0 ce sl pc lv (.int x :: st) w := by
  intro p e s m args below meth c H locs ls hC hl hP hD hS
  obtain ⟨hx, hb, hml, hown, hts, hr, hlk, hEK, hES, hin, hXt⟩ := id hC
  exact lv_if_eq hx hb d ht (fun h => kt h p e s m args below meth c H locs ls hC hl hP hD hS) (fun h => kf h p e s m args below meth c H locs ls hC hl hP hD hS)
theorem wf_icmp_ne {x y : Int32} {off : Int} (tgt : Nat) (d : decode cc pc = .ok (.if_icmp .ne off, 3)) (ht : (pc : Int) + off = (tgt : Int)) (kt : x ≠ y → WF l E own cc nL ret rm ini Xt QQ w0 ce sl tgt lv st w) (kf : x = y → WF l E own cc nL ret rm ini Xt QQ w0 ce sl (pc + 3) lv st w) : WF l E own cc nL ret rm ini Xt QQ w0 ce sl pc lv (.int y :: .int x :: st) w := by
  intro p e s m args below meth c H locs ls hC hl hP hD hS
  obtain ⟨hx, hb, hml, hown, hts, hr, hlk, hEK, hES, hin, hXt⟩ := id hC
  exact lv_icmp_ne hx hb d ht (fun h => kt h p e s m args below meth c H locs ls hC hl hP hD hS) (fun h => kf h p e s m args below meth c H locs ls hC hl hP hD hS)
theorem wf_if_ne {x : Int32} {off : Int} (tgt : Nat) (d : decode cc pc = .ok (.ifCond .ne off, 3)) (ht : (pc : Int) + off = (tgt : Int)) (kt : x ≠ 0 → WF l E own cc nL ret rm ini Xt QQ w0 ce sl tgt lv st w) (kf : x = 0 → WF l E own cc nL ret rm ini Xt QQ w0 ce sl (pc + 3) lv st w) : WF l E own cc nL ret rm ini Xt QQ w0 ce sl pc lv (.int x :: st) w := by
  intro p e s m args below meth c H locs ls hC hl hP hD hS
  obtain ⟨hx, hb, hml, hown, hts, hr, hlk, hEK, hES, hin, hXt⟩ := id hC
  exact lv_if_ne hx hb d ht (fun h => kt h p e s m args below meth c H locs ls hC hl hP hD hS) (fun h => kf h p e s m args below meth c H locs ls hC hl hP hD hS)
theorem wf_icmp_lt {x y : Int32} {off : Int} (tgt : Nat) (d : decode cc pc = .ok (.if_icmp .lt off, 3)) (ht : (pc : Int) + off = (tgt : Int)) (kt : x < y → WF l E own cc nL ret rm ini Xt QQ w0 ce sl tgt lv st w) (kf : ¬ (x < y) → WF l E own cc nL ret rm ini Xt QQ w0 ce sl (pc + 3) lv st w) : WF l E own cc nL ret rm ini Xt QQ w0 ce sl pc lv (.int y :: .int x :: st) w := by
  intro p e s m args below meth c H locs ls hC hl hP hD hS
  obtain ⟨hx, hb, hml, hown, hts, hr, hlk, hEK, hES, hin, hXt⟩ := id hC
  exact lv_icmp_lt hx hb d ht (fun h => kt h p e s m args below meth c H locs ls hC hl hP hD hS) (fun h => kf h p e s m args below meth c H locs ls hC hl hP hD hS)
theorem wf_if_lt {x : Int32} {off : Int} (tgt : Nat) (d : decode cc pc = .ok (.ifCond .lt off, 3)) (ht : (pc : Int) + off = (tgt : Int)) (kt : x < 0 → WF l E own cc nL ret rm ini Xt QQ w0 ce sl tgt lv st w) (kf : ¬ (x < 0) → WF l E own cc nL ret rm ini Xt QQ w0 ce sl (pc + 3) lv st w) : WF l E own cc nL ret rm ini Xt QQ w0 ce sl pc lv (.int x :: st) w := by
  intro p e s m args below meth c H locs ls hC hl hP hD hS
  obtain ⟨hx, hb, hml, hown, hts, hr, hlk, hEK, hES, hin, hXt⟩ := id hC
  exact lv_if_lt hx hb d ht (fun h => kt h p e s m args below meth c H locs ls hC hl hP hD hS) (fun h => kf h p e s m args below meth c H locs ls hC hl hP hD hS)
theorem wf_icmp_ge {x y : Int32} {off : Int} (tgt : Nat) (d : decode cc pc = .ok (.if_icmp .ge off, 3)) (ht : (pc : Int) + off = (tgt : Int)) (kt : y ≤ x → WF l E own cc nL ret rm ini Xt QQ w0 ce sl tgt lv st w) (kf : ¬ (y ≤ x) → WF l E own cc nL ret rm ini Xt QQ w0 ce sl (pc + 3) lv st w) : WF l E own cc nL ret rm ini Xt QQ w0 ce sl pc lv (.int y :: .int x :: st) w := by
  intro p e s m args below meth c H locs ls hC hl hP hD hS
  obtain ⟨hx, hb, hml, hown, hts, hr, hlk, hEK, hES, hin, hXt⟩ := id hC
  exact lv_icmp_ge hx hb d ht (fun h => kt h p e s m args below meth c H locs ls hC hl hP hD hS) (fun h => kf h p e s m args below meth c H locs ls hC hl hP hD hS)
theorem wf_if_ge {x : Int32} {off : Int} (tgt : Nat) (d : decode cc pc = .ok (.ifCond .ge off, 3)) (ht : (pc : Int) + off = (tgt : Int)) (kt : 0 ≤ x → WF l E own cc nL ret rm ini Xt QQ w0 ce sl tgt lv st w) (kf : ¬ (0 ≤ x) → WF l E own cc nL ret rm ini Xt QQ w0 ce sl (pc + 3) lv st w) : WF l E own cc nL ret rm ini Xt QQ w0 ce sl pc lv (.int x :: st) w := by
  intro p e s m args below meth c H locs ls hC hl hP hD hS
  obtain ⟨hx, hb, hml, hown, hts, hr, hlk, hEK, hES, hin, hXt⟩ := id hC
  exact lv_if_ge hx hb d ht (fun h => kt h p e s m args below meth c H locs ls hC hl hP hD hS) (fun h => kf h p e s m args below meth c H locs ls hC hl hP hD hS)
theorem wf_icmp_gt {x y : Int32} {off : Int} (tgt : Nat) (d : decode cc pc = .ok (.if_icmp .gt off, 3)) (ht : (pc : Int) + off = (tgt : Int)) (kt : y < x → WF l E own cc nL ret rm ini Xt QQ w0 ce sl tgt lv st w) (kf : ¬ (y < x) → WF l E own cc nL ret rm ini Xt QQ w0 ce sl (pc + 3) lv st w) : WF l E own cc nL ret rm ini Xt QQ w0 ce sl pc lv (.int y :: .int x :: st) w := by
  intro p e s m args below meth c H locs ls hC hl hP hD hS
  obtain ⟨hx, hb, hml, hown, hts, hr, hlk, hEK, hES, hin, hXt⟩ := id hC
  exact lv_icmp_gt hx hb d ht (fun h => kt h p e s m args below meth c H locs ls hC hl hP hD hS) (fun h => kf h p e s m args below meth c H locs ls hC hl hP hD hS)
theorem wf_if_gt {x : Int32} {off : Int} (tgt : Nat) (d : decode cc pc = .ok (.ifCond .gt off, 3)) (ht : (pc : Int) + off = (tgt : Int)) (kt : 0 < x → WF l E own cc nL ret rm ini Xt QQ w0 ce sl tgt lv st w) (kf : ¬ (0 < x) → WF l E own cc nL ret rm ini Xt QQ w0 ce sl (pc + 3) lv st w) : WF l E own cc nL ret rm ini Xt QQ w0 ce sl pc lv (.int x :: st) w := by
  intro p e s m args below meth c H locs ls hC hl hP hD hS
  obtain ⟨hx, hb, hml, hown, hts, hr, hlk, hEK, hES, hin, hXt⟩ := id hC
  exact lv_if_gt hx hb d ht (fun h => kt h p e s m args below meth c H locs ls hC hl hP hD hS) (fun h => kf h p e s m args below meth c H locs ls hC hl hP hD hS)
theorem wf_icmp_le {x y : Int32} {off : Int} (tgt : Nat) (d : decode cc pc = .ok (.if_icmp .le off, 3)) (ht : (pc : Int) + off = (tgt : Int)) (kt : x ≤ y → WF l E own cc nL ret rm ini Xt QQ w0 ce sl tgt lv st w) (kf : ¬ (x ≤ y) → WF l E own cc nL ret rm ini Xt QQ w0 ce sl (pc + 3) lv st w) : WF l E own cc nL ret rm ini Xt QQ w0 ce sl pc lv (.int y :: .int x :: st) w := by
  intro p e s m args below meth c H locs ls hC hl hP hD hS
  obtain ⟨hx, hb, hml, hown, hts, hr, hlk, hEK, hES, hin, hXt⟩ := id hC
  exact lv_icmp_le hx hb d ht (fun h => kt h p e s m args below meth c H locs ls hC hl hP hD hS) (fun h => kf h p e s m args below meth c H locs ls hC hl hP hD hS)
theorem wf_if_le {x : Int32} {off : Int} (tgt : Nat) (d : decode cc pc = .ok (.ifCond .le off, 3)) (ht : (pc : Int) + off = (tgt : Int)) (kt : x ≤ 0 → WF l E own cc nL ret rm ini Xt QQ w0 ce sl tgt lv st w) (kf : ¬ (x ≤ 0) → WF l E own cc nL ret rm ini Xt QQ w0 ce sl (pc + 3) lv st w) : WF l E own cc nL ret rm ini Xt QQ w0 ce sl pc lv (.int x :: st) w := by
  intro p e s m args below meth c H locs ls hC hl hP hD hS
  obtain ⟨hx, hb, hml, hown, hts, hr, hlk, hEK, hES, hin, hXt⟩ := id hC
  exact lv_if_le hx hb d ht (fun h => kt h p e s m args below meth c H locs ls hC hl hP hD hS) (fun h => kf h p e s m args below meth c H locs ls hC hl hP hD hS)
theorem wf_icmp_eq_n {a b : Nat} {off : Int} (tgt : Nat) (d : decode cc pc = .ok (.if_icmp .eq off, 3)) (ht : (pc : Int) + off = (tgt : Int)) (ha : a < 2 ^ 31) (hb : b < 2 ^ 31) (kt : a = b → WF l E own cc nL ret rm ini Xt QQ w0 ce sl tgt lv st w) (kf : a ≠ b → WF l E own cc nL ret rm ini Xt QQ w0 ce sl (pc + 3) lv st w) : WF l E own cc nL ret rm ini Xt QQ w0 ce sl pc lv (.int (nI b) :: .int (nI a) :: st) w :=
  wf_icmp_eq tgt d ht (fun h => kt ((nI_eq ha hb).mp h)) (fun h => kf (fun e => h ((nI_eq ha hb).mpr e)))
theorem wf_icmp_ne_n {a b : Nat} {off : Int} (tgt : Nat) (d : decode cc pc = .ok (.if_icmp .ne off, 3)) (ht : (pc : Int) + off = (tgt : Int)) (ha : a < 2 ^ 31) (hb : b < 2 ^ 31) (kt : a ≠ b → WF l E own cc nL ret rm ini Xt QQ w0 ce sl tgt lv st w) (kf : a = b → WF l E own cc nL ret rm ini Xt QQ w0 ce sl (pc + 3) lv st w) : WF l E own cc nL ret rm ini Xt QQ w0 ce sl pc lv (.int (nI b) :: .int (nI a) :: st) w :=
  wf_icmp_ne tgt d ht (fun h => kt (fun e => h ((nI_eq ha hb).mpr e))) (fun h => kf ((nI_eq ha hb).mp h))
theorem wf_icmp_lt_n {a b : Nat} {off : Int} (tgt : Nat) (d : decode cc pc = .ok (.if_icmp .lt off, 3)) (ht : (pc : Int) + off = (tgt : Int)) (ha : a < 2 ^ 31) (hb : b < 2 ^ 31) (kt : a < b → WF l E own cc nL ret rm ini Xt QQ w0 ce sl tgt lv st w) (kf : b ≤ a → WF l E own cc nL ret rm ini Xt QQ w0 ce sl (pc + 3) lv st w) : WF l E own cc nL ret rm ini Xt QQ w0 ce sl pc lv (.int (nI b) :: .int (nI a) :: st) w :=
  wf_icmp_lt tgt d ht (fun h => kt ((nI_ltI ha hb).mp h)) (fun h => kf (Nat.not_lt.mp (fun e => h ((nI_ltI ha hb).mpr e))))
theorem wf_icmp_ge_n {a b : Nat} {off : Int} (tgt : Nat) (d : decode cc pc = .ok (.if_icmp .ge off, 3)) (ht : (pc : Int) + off = (tgt : Int)) (ha : a < 2 ^ 31) (hb : b < 2 ^ 31) (kt : b ≤ a → WF l E own cc nL ret rm ini Xt QQ w0 ce sl tgt lv st w) (kf : a < b → WF l E own cc nL ret rm ini Xt QQ w0 ce sl (pc + 3) lv st w) : WF l E own cc nL ret rm ini Xt QQ w0 ce sl pc lv (.int (nI b) :: .int (nI a) :: st) w :=
  wf_icmp_ge tgt d ht (fun h => kt ((nI_leI hb ha).mp h)) (fun h => kf (Nat.not_le.mp (fun e => h ((nI_leI hb ha).mpr e))))
theorem wf_icmp_gt_n {a b : Nat} {off : Int} (tgt : Nat) (d : decode cc pc = .ok (.if_icmp .gt off, 3)) (ht : (pc : Int) + off = (tgt : Int)) (ha : a < 2 ^ 31) (hb : b < 2 ^ 31) (kt : b < a → WF l E own cc nL ret rm ini Xt QQ w0 ce sl tgt lv st w) (kf : a ≤ b → WF l E own cc nL ret rm ini Xt QQ w0 ce sl (pc + 3) lv st w) : WF l E own cc nL ret rm ini Xt QQ w0 ce sl pc lv (.int (nI b) :: .int (nI a) :: st) w :=
  wf_icmp_gt tgt d ht (fun h => kt ((nI_ltI hb ha).mp h)) (fun h => kf (Nat.not_lt.mp (fun e => h ((nI_ltI hb ha).mpr e))))
theorem wf_icmp_le_n {a b : Nat} {off : Int} (tgt : Nat) (d : decode cc pc = .ok (.if_icmp .le off, 3)) (ht : (pc : Int) + off = (tgt : Int)) (ha : a < 2 ^ 31) (hb : b < 2 ^ 31) (kt : a ≤ b → WF l E own cc nL ret rm ini Xt QQ w0 ce sl tgt lv st w) (kf : b < a → WF l E own cc nL ret rm ini Xt QQ w0 ce sl (pc + 3) lv st w) : WF l E own cc nL ret rm ini Xt QQ w0 ce sl pc lv (.int (nI b) :: .int (nI a) :: st) w :=
  wf_icmp_le tgt d ht (fun h => kt ((nI_leI ha hb).mp h)) (fun h => kf (Nat.not_le.mp (fun e => h ((nI_leI ha hb).mpr e))))
theorem wf_if_eq_n {a : Nat} {off : Int} (tgt : Nat) (d : decode cc pc = .ok (.ifCond .eq off, 3)) (ht : (pc : Int) + off = (tgt : Int)) (ha : a < 2 ^ 31) (kt : a = 0 → WF l E own cc nL ret rm ini Xt QQ w0 ce sl tgt lv st w) (kf : a ≠ 0 → WF l E own cc nL ret rm ini Xt QQ w0 ce sl (pc + 3) lv st w) : WF l E own cc nL ret rm ini Xt QQ w0 ce sl pc lv (.int (nI a) :: st) w :=
  wf_if_eq tgt d ht (fun h => kt ((nI_eq ha (by decide)).mp (h.trans nI_0.symm))) (fun h => kf (fun e => h (by rw [e]; exact nI_0)))
theorem wf_if_ne_n {a : Nat} {off : Int} (tgt : Nat) (d : decode cc pc = .ok (.ifCond .ne off, 3)) (ht : (pc : Int) + off = (tgt : Int)) (ha : a < 2 ^ 31) (kt : a ≠ 0 → WF l E own cc nL ret rm ini Xt QQ w0 ce sl tgt lv st w) (kf : a = 0 → WF l E own cc nL ret rm ini Xt QQ w0 ce sl (pc + 3) lv st w) : WF l E own cc nL ret rm ini Xt QQ w0 ce sl pc lv (.int (nI a) :: st) w :=
  wf_if_ne tgt d ht (fun h => kt (fun e => h (by rw [e]; exact nI_0))) (fun h => kf ((nI_eq ha (by decide)).mp (h.trans nI_0.symm)))
def bI (b : Bool) : Int32 := if b = true then 1 else 0
theorem bI_t : bI true = 1 := rfl
theorem bI_f : bI false = 0 := rfl
theorem bI_nar (b : Bool) : narrow .boolean (.int (bI b)) = .int (bI b) := by cases b <;> rfl
theorem bI_fit (b : Bool) : fits .boolean (.int (bI b)) = true := by cases b <;> rfl
theorem wf_if_eq_b {b : Bool} {off : Int} (tgt : Nat) (d : decode cc pc = .ok (.ifCond .eq off, 3)) (ht : (pc : Int) + off = (tgt : Int)) (kt : b = false → WF l E own cc nL ret rm ini Xt QQ w0 ce sl tgt lv st w) (kf : b = true → WF l E own cc nL ret rm ini Xt QQ w0 ce sl (pc + 3) lv st w) : WF l E own cc nL ret rm ini Xt QQ w0 ce sl pc lv (.int (bI b) :: st) w := by
  cases b
  · exact wf_if_eq tgt d ht (fun _ => kt rfl) (fun h => absurd rfl h)
  · exact wf_if_eq tgt d ht (fun h => absurd h (by decide)) (fun _ => kf rfl)
theorem wf_if_ne_b {b : Bool} {off : Int} (tgt : Nat) (d : decode cc pc = .ok (.ifCond .ne off, 3)) (ht : (pc : Int) + off = (tgt : Int)) (kt : b = true → WF l E own cc nL ret rm ini Xt QQ w0 ce sl tgt lv st w) (kf : b = false → WF l E own cc nL ret rm ini Xt QQ w0 ce sl (pc + 3) lv st w) : WF l E own cc nL ret rm ini Xt QQ w0 ce sl pc lv (.int (bI b) :: st) w := by
  cases b
  · exact wf_if_ne tgt d ht (fun h => absurd rfl h) (fun _ => kf rfl)
  · exact wf_if_ne tgt d ht (fun _ => kt rfl) (fun h => absurd h (by decide))
theorem wf_tableIn {dflt lo hi : Int} {offs : Array Int} {len : Nat} {x : Int32} {off : Int} (tgt : Nat) (d : decode cc pc = .ok (.tableswitch dflt lo hi offs, len)) (h1 : ¬ x.toInt < lo) (h2 : ¬ hi < x.toInt) (ho : offs[(x.toInt - lo).toNat]? = some off) (ht : (pc : Int) + off = (tgt : Int)) (k : WF l E own cc nL ret rm ini Xt QQ w0 ce sl tgt lv st w) : WF l E own cc nL ret rm ini Xt QQ w0 ce sl pc lv (.int x :: st) w := by
  intro p e s m args below meth c H locs ls hC hl hP hD hS
  obtain ⟨hx, hb, hml, hown, hts, hr, hlk, hEK, hES, hin, hXt⟩ := id hC
  exact lv_tableIn hx hb d h1 h2 ho ht (k p e s m args below meth c H locs ls hC hl hP hD hS)
theorem wf_tableOut {dflt lo hi : Int} {offs : Array Int} {len : Nat} {x : Int32} (tgt : Nat) (d : decode cc pc = .ok (.tableswitch dflt lo hi offs, len)) (h : x.toInt < lo ∨ hi < x.toInt) (ht : (pc : Int) + dflt = (tgt : Int)) (k : WF l E own cc nL ret rm ini Xt QQ w0 ce sl tgt lv st w) : WF l E own cc nL ret rm ini Xt QQ w0 ce sl pc lv (.int x :: st) w := by
  intro p e s m args below meth c H locs ls hC hl hP hD hS
  obtain ⟨hx, hb, hml, hown, hts, hr, hlk, hEK, hES, hin, hXt⟩ := id hC
  exact lv_tableOut hx hb d h ht (k p e s m args below meth c H locs ls hC hl hP hD hS)
theorem wf_lookup {dflt : Int} {ps : Array (Int × Int)} {len : Nat} {x : Int32} {off : Int} (tgt : Nat) (d : decode cc pc = .ok (.lookupswitch dflt ps, len)) (hp : (ps.toList.zip (ps.toList.drop 1)).all (fun (a, next) => a.1 < next.1) = true) (ho : Op.lookupswitch.offset ps.toList dflt x.toInt = off) (ht : (pc : Int) + off = (tgt : Int)) (k : WF l E own cc nL ret rm ini Xt QQ w0 ce sl tgt lv st w) : WF l E own cc nL ret rm ini Xt QQ w0 ce sl pc lv (.int x :: st) w := by
  intro p e s m args below meth c H locs ls hC hl hP hD hS
  obtain ⟨hx, hb, hml, hown, hts, hr, hlk, hEK, hES, hin, hXt⟩ := id hC
  exact lv_lookup hx hb d hp ho ht (k p e s m args below meth c H locs ls hC hl hP hD hS)
theorem wf_getf {C : String} {T : u_T} {N ci i a : Nat} {fs : List Value} {v : Value} (q0 k0 : Nat) (hin : ∀ w ∈ u_ws C T N, w ∈ TBg) (he : w[q0]? = some (a, .inr (ci, fs))) (hc : vwCl[ci]? = some (C, T, N)) (hk : k0 < N) (hlink : Cond.fieldLink own i (T k0).1 (T k0).2.1 (T k0).2.2.1 ∈ TBg) (hv : fs[k0]? = some v) (d : decode cc pc = .ok (.getfield i, 3)) (k : WF l E own cc nL ret rm ini Xt QQ w0 ce sl (pc + 3) lv (v :: st) w) : WF l E own cc nL ret rm ini Xt QQ w0 ce sl pc lv (.ref a :: st) w := by
  intro p e s m args below meth c H locs ls hC hl hP hD hS
  obtain ⟨hx, hb, hml, hown, hts, hr, hlk, hEK, hES, hni, hXt⟩ := id hC
  exact va_get hx hb hts hin hown hEK.1 hP q0 he hc k0 hk (hts _ hlink) (fun _ h => h) hv d (k p e s m args below meth c H locs ls hC hl hP hD hS)
theorem wf_putf {C : String} {T : u_T} {N ci i a : Nat} {fs : List Value} {v : Value} {ty : FieldType} (q0 k0 : Nat) (w' : va_W) (ty0 : Nat → FieldType) (hin : ∀ w ∈ u_ws C T N, w ∈ TBg) (hty : ∀ k, k < N → parseFieldDescriptor (T k).2.2.1 = some (ty0 k)) (hnm : ∀ a, a < N → ∀ b, b < N → a ≠ b → (T a).2.1 ≠ (T b).2.1) (he : w[q0]? = some (a, .inr (ci, fs))) (hc : vwCl[ci]? = some (C, T, N)) (hk : k0 < N) (hlink : Cond.fieldLink own i (T k0).1 (T k0).2.1 (T k0).2.2.1 ∈ TBg) (hfin : (T k0).2.2.2 = false) (hd : parseFieldDescriptor (T k0).2.2.1 = some ty) (hn : narrow ty v = v) (hfit : fits ty v = true) (hll : k0 < fs.length) (hw : w.set q0 (a, .inr (ci, fs.set k0 v)) = w') (d : decode cc pc = .ok (.putfield i, 3)) (k : WF l E own cc nL ret rm ini Xt QQ w0 ce sl (pc + 3) lv st w') : WF l E own cc nL ret rm ini Xt QQ w0 ce sl pc lv (v :: .ref a :: st) w := by
  intro p e s m args below meth c H locs ls hC hl hP hD hS
  obtain ⟨hx, hb, hml, hown, hts, hr, hlk, hEK, hES, hni, hXt⟩ := id hC
  subst hw
  exact va_put hx hb hts hin ty0 hty hnm hown hEK.1 hP hD hS q0 he hc k0 hk (hts _ hlink) (fun _ h => h) hfin hd hn hfit hll d (fun H locs hP hD hS => k p e s m args below meth c H locs ls hC hl hP hD hS)
theorem wf_putF {C : String} {T : u_T} {N ci i a : Nat} {fs : List Value} {v : Value} {ty : FieldType} (q0 k0 : Nat) (w' : va_W) (ty0 : Nat → FieldType) (hini : ini = true) (hin : ∀ w ∈ u_ws C T N, w ∈ TBg) (hty : ∀ k, k < N → parseFieldDescriptor (T k).2.2.1 = some (ty0 k)) (hnm : ∀ a, a < N → ∀ b, b < N → a ≠ b → (T a).2.1 ≠ (T b).2.1) (he : w[q0]? = some (a, .inr (ci, fs))) (hc : vwCl[ci]? = some (C, T, N)) (hk : k0 < N) (hlink : Cond.fieldLink own i (T k0).1 (T k0).2.1 (T k0).2.2.1 ∈ TBg) (hfin : (T k0).2.2.2 = true) (howns : (T k0).1 = own) (hd : parseFieldDescriptor (T k0).2.2.1 = some ty) (hn : narrow ty v = v) (hfit : fits ty v = true) (hll : k0 < fs.length) (hw : w.set q0 (a, .inr (ci, fs.set k0 v)) = w') (d : decode cc pc = .ok (.putfield i, 3)) (k : WF l E own cc nL ret rm ini Xt QQ w0 ce sl (pc + 3) lv st w') : WF l E own cc nL ret rm ini Xt QQ w0 ce sl pc lv (v :: .ref a :: st) w := by
  intro p e s m args below meth c H locs ls hC hl hP hD hS
  obtain ⟨hx, hb, hml, hown, hts, hr, hlk, hEK, hES, hni, hXt⟩ := id hC
  subst hw
  exact va_putF hx hb hts hin ty0 hty hnm hown hEK.1 hP hD hS q0 he hc k0 hk (hts _ hlink) (fun _ h => h) hfin (hni hini) howns hd hn hfit hll d (fun H locs hP hD hS => k p e s m args below meth c H locs ls hC hl hP hD hS)
theorem wf_iald {a n : Nat} {f : Nat → Int32} {i : Int32} (v : Int32) (q0 : Nat) (he : w[q0]? = some (a, .inl (E.2.1.1, n, .inl f))) (hi : vp_in i n) (hv : f i.toNatClampNeg = v) (d : decode cc pc = .ok (.iaload, 1)) (k : WF l E own cc nL ret rm ini Xt QQ w0 ce sl (pc + 1) lv (.int v :: st) w) : WF l E own cc nL ret rm ini Xt QQ w0 ce sl pc lv (.int i :: .ref a :: st) w := by
  intro p e s m args below meth c H locs ls hC hl hP hD hS
  obtain ⟨hx, hb, hml, hown, hts, hr, hlk, hEK, hES, hin, hXt⟩ := id hC
  subst hv
  exact va_iald hx hb hEK.1 hP q0 0 he rfl hi d (k p e s m args below meth c H locs ls hC hl hP hD hS)
theorem wf_iald_n {a n j : Nat} {f : Nat → Int32} (v : Int32) (q0 : Nat) (he : w[q0]? = some (a, .inl (E.2.1.1, n, .inl f))) (hj : j < n) (hn : n ≤ 1024) (hv : f j = v) (d : decode cc pc = .ok (.iaload, 1)) (k : WF l E own cc nL ret rm ini Xt QQ w0 ce sl (pc + 1) lv (.int v :: st) w) : WF l E own cc nL ret rm ini Xt QQ w0 ce sl pc lv (.int (nI j) :: .ref a :: st) w :=
  wf_iald v q0 he (vp_in_nI hj (by omega)) (by rw [nI_clamp (by omega)]; exact hv) d k
theorem wf_iast {a n : Nat} {f : Nat → Int32} {i x : Int32} (w' : va_W) (q0 : Nat) (he : w[q0]? = some (a, .inl (E.2.1.1, n, .inl f))) (hi : vp_in i n) (hw : w.set q0 (a, .inl (E.2.1.1, n, .inl (upd f i.toNatClampNeg x))) = w') (d : decode cc pc = .ok (.iastore, 1)) (k : WF l E own cc nL ret rm ini Xt QQ w0 ce sl (pc + 1) lv st w') : WF l E own cc nL ret rm ini Xt QQ w0 ce sl pc lv (.int x :: .int i :: .ref a :: st) w := by
  intro p e s m args below meth c H locs ls hC hl hP hD hS
  obtain ⟨hx, hb, hml, hown, hts, hr, hlk, hEK, hES, hin, hXt⟩ := id hC
  subst hw
  exact va_iast hx hb hEK.1 hP hD hS q0 0 he rfl hi d (fun H locs hP hD hS => k p e s m args below meth c H locs ls hC hl hP hD hS)
theorem wf_iast_n {a n j : Nat} {f : Nat → Int32} {x : Int32} (w' : va_W) (q0 : Nat) (he : w[q0]? = some (a, .inl (E.2.1.1, n, .inl f))) (hj : j < n) (hn : n ≤ 1024) (hw : w.set q0 (a, .inl (E.2.1.1, n, .inl (upd f j x))) = w') (d : decode cc pc = .ok (.iastore, 1)) (k : WF l E own cc nL ret rm ini Xt QQ w0 ce sl (pc + 1) lv st w') : WF l E own cc nL ret rm ini Xt QQ w0 ce sl pc lv (.int x :: .int (nI j) :: .ref a :: st) w :=
  wf_iast w' q0 he (vp_in_nI hj (by omega)) (by rw [nI_clamp (by omega)]; exact hw) d k
theorem wf_cald_n {a n j : Nat} {f : Nat → Int32} (v : Int32) (q0 : Nat) (he : w[q0]? = some (a, .inl (E.2.1.2.1, n, .inl f))) (hj : j < n) (hn : n ≤ 1024) (hv : f j = v) (d : decode cc pc = .ok (.caload, 1)) (k : WF l E own cc nL ret rm ini Xt QQ w0 ce sl (pc + 1) lv (.int v :: st) w) : WF l E own cc nL ret rm ini Xt QQ w0 ce sl pc lv (.int (nI j) :: .ref a :: st) w := by
  intro p e s m args below meth c H locs ls hC hl hP hD hS
  obtain ⟨hx, hb, hml, hown, hts, hr, hlk, hEK, hES, hin, hXt⟩ := id hC
  subst hv
  have hk := k p e s m args below meth c H locs ls hC hl hP hD hS
  rw [show f j = f (nI j).toNatClampNeg by rw [nI_clamp (by omega)]] at hk
  exact va_cald hx hb hEK.1 hP q0 1 he rfl (vp_in_nI hj (by omega)) d hk
theorem wf_cast_n {a n j : Nat} {f : Nat → Int32} {x : Int32} (w' : va_W) (q0 : Nat) (he : w[q0]? = some (a, .inl (E.2.1.2.1, n, .inl f))) (hj : j < n) (hn : n ≤ 1024) (hx0 : vp_nar .char x = x) (hw : w.set q0 (a, .inl (E.2.1.2.1, n, .inl (upd f j x))) = w') (d : decode cc pc = .ok (.castore, 1)) (k : WF l E own cc nL ret rm ini Xt QQ w0 ce sl (pc + 1) lv st w') : WF l E own cc nL ret rm ini Xt QQ w0 ce sl pc lv (.int x :: .int (nI j) :: .ref a :: st) w := by
  intro p e s m args below meth c H locs ls hC hl hP hD hS
  obtain ⟨hx, hb, hml, hown, hts, hr, hlk, hEK, hES, hin, hXt⟩ := id hC
  subst hw
  refine va_cast hx hb hEK.1 hP hD hS q0 1 he rfl (vp_in_nI hj (by omega)) d (fun H locs hP hD hS => ?_)
  rw [nI_clamp (by omega), hx0] at hP hD
  exact k p e s m args below meth c H locs ls hC hl hP hD hS
theorem wf_aald_n {a n j b : Nat} {f : Nat → Option Nat} (q0 : Nat) (he : w[q0]? = some (a, .inl (E.2.1.2.2, n, .inr (.inr (.inr (.inr f)))))) (hj : j < n) (hn : n ≤ 1024) (hv : f j = some b) (d : decode cc pc = .ok (.aaload, 1)) (k : WF l E own cc nL ret rm ini Xt QQ w0 ce sl (pc + 1) lv (.ref b :: st) w) : WF l E own cc nL ret rm ini Xt QQ w0 ce sl pc lv (.int (nI j) :: .ref a :: st) w := by
  intro p e s m args below meth c H locs ls hC hl hP hD hS
  obtain ⟨hx, hb, hml, hown, hts, hr, hlk, hEK, hES, hin, hXt⟩ := id hC
  have hk := k p e s m args below meth c H locs ls hC hl hP hD hS
  rw [show Value.ref b = va_rf (f (nI j).toNatClampNeg) by rw [nI_clamp (by omega), hv]; rfl] at hk
  exact va_aldq hx hb hEK.1 hP q0 2 he rfl (vp_in_nI hj (by omega)) d hk
theorem wf_alen {a t0 : Nat} {cA : ClassId} {z : vp_A} {ty : FieldType} (v : Int32) (q0 : Nat) (he : w[q0]? = some (a, .inl (cA, z))) (ht : (tysE E)[t0]? = some (cA, ty)) (hv : Int32.ofNat z.1 = v) (d : decode cc pc = .ok (.arraylength, 1)) (k : WF l E own cc nL ret rm ini Xt QQ w0 ce sl (pc + 1) lv (.int v :: st) w) : WF l E own cc nL ret rm ini Xt QQ w0 ce sl pc lv (.ref a :: st) w := by
  intro p e s m args below meth c H locs ls hC hl hP hD hS
  obtain ⟨hx, hb, hml, hown, hts, hr, hlk, hEK, hES, hin, hXt⟩ := id hC
  exact va_alen hx hb hEK.1 hP q0 t0 he ht hv d (k p e s m args below meth c H locs ls hC hl hP hD hS)

/-! calls: which words each needs -/
def CVw (own : String) (i : Nat) (y : MethodName) (b : ByteArray) (mL : Nat) (ret : Option FieldType) (n : Nat) : Prop :=
  Cond.methodLink own i y ∈ TBg ∧ Cond.instanceMethod y ∈ TBg ∧ Cond.selects y.cls y y ∈ TBg ∧ Cond.initialized y.cls ∈ TBg ∧ Cond.code y b mL ret ∈ TBg ∧ (y.cls ≠ "java/lang/invoke/MethodHandle" ∧ y.cls ≠ "java/lang/invoke/VarHandle" ∧ (parseMethodDescriptor y.desc).map (fun d => d.parameters.length) = some n)
def CSw (own : String) (i : Nat) (y : MethodName) (b : ByteArray) (mL : Nat) (ret : Option FieldType) (n : Nat) : Prop :=
  Cond.methodLink own i y ∈ TBg ∧ Cond.static y ∈ TBg ∧ Cond.initialized y.cls ∈ TBg ∧ Cond.code y b mL ret ∈ TBg ∧ (y.cls ≠ "java/lang/invoke/MethodHandle" ∧ y.cls ≠ "java/lang/invoke/VarHandle" ∧ (parseMethodDescriptor y.desc).map (fun d => d.parameters.length) = some n)
def CIw (own : String) (i : Nat) (y : MethodName) (b : ByteArray) (mL : Nat) (n : Nat) : Prop :=
  Cond.methodLink own i y ∈ TBg ∧ Cond.instanceMethod y ∈ TBg ∧ Cond.initialized y.cls ∈ TBg ∧ Cond.code y b mL none ∈ TBg ∧ y.name = "<init>" ∧ (y.cls ≠ "java/lang/invoke/MethodHandle" ∧ y.cls ≠ "java/lang/invoke/VarHandle" ∧ (parseMethodDescriptor y.desc).map (fun d => d.parameters.length) = some n)
def CNIw (own : String) (i : Nat) (y : MethodName) (host : String) (b : ByteArray) (mL : Nat) (n : Nat) : Prop :=
  (own, i, y, host) ∈ nestW ∧ Cond.instanceMethod y ∈ TBg ∧ Cond.initialized y.cls ∈ TBg ∧ Cond.code y b mL none ∈ TBg ∧ y.name = "<init>" ∧ (y.cls ≠ "java/lang/invoke/MethodHandle" ∧ y.cls ≠ "java/lang/invoke/VarHandle" ∧ (parseMethodDescriptor y.desc).map (fun d => d.parameters.length) = some n)
def CNSw (own : String) (i : Nat) (y : MethodName) (host : String) (b : ByteArray) (mL : Nat) (ret : Option FieldType) (n : Nat) : Prop :=
  (own, i, y, host) ∈ nestW ∧ Cond.static y ∈ TBg ∧ Cond.initialized y.cls ∈ TBg ∧ Cond.code y b mL ret ∈ TBg ∧ (y.cls ≠ "java/lang/invoke/MethodHandle" ∧ y.cls ≠ "java/lang/invoke/VarHandle" ∧ (parseMethodDescriptor y.desc).map (fun d => d.parameters.length) = some n)
/-- x is what the instruction names (of class Sparrow), y what runs for a receiver of class C -/
def CUw (own : String) (i : Nat) (C : String) (x y : MethodName) (b : ByteArray) (mL : Nat) (ret : Option FieldType) (n : Nat) : Prop :=
  Cond.methodLink own i x ∈ TBg ∧ Cond.sameMethod x.cls x.cls x.name x.desc ∈ TBg ∧ Cond.selects C x y ∈ TBg ∧ Cond.instanceMethod y ∈ TBg ∧ Cond.initialized y.cls ∈ TBg ∧ Cond.code y b mL ret ∈ TBg ∧ Cond.instanceMethod x ∈ TBg ∧ (∃ b0 m0 r0, Cond.code x b0 m0 r0 ∈ TBg) ∧ (x.cls ≠ "java/lang/invoke/MethodHandle" ∧ x.cls ≠ "java/lang/invoke/VarHandle" ∧ (parseMethodDescriptor x.desc).map (fun d => d.parameters.length) = some n)
theorem ent_blind {as : List Value} {sz : Nat} : FrameBlind (va_Pc as (Ent E w sz)) := fun a U g mk q => by
  obtain ⟨q0, q1, qP, qD, qK, qS⟩ := q
  exact ⟨q0, q1, qP, qD, qK.same rfl, ES.moved (u := U) (Vm.Alike.refl U.vm) qS⟩
theorem in_A {A0 : Nat → Prop} {s : State} {H : Heap} {locs : List Loc} (hD : va_D (va_A w0 s.heap.size) w) (hS : va_S (va_A w0 s.heap.size) s.heap H locs) : ∀ q, va_A w H.size q → va_A w0 s.heap.size q := by
  intro q h
  rcases h with ⟨k, e, h⟩ | h
  · exact hD.2 k _ h
  · exact Or.inr (Nat.le_trans hS.1 h)
/-- the callee's start out of where the caller stands -/
theorem ent_call {p : Program} {s U : State} {m : MethodId} {args : Array Value} {meth : Method} {c : Code} {H : Heap} {locs : List Loc} {as : List Value} (hC : Cx p s m args meth c E own cc nL ret ini Xt w0) (hP : va_P E.1 vwCl w H) (hD : va_D (va_A w0 s.heap.size) w) (hS : va_S (va_A w0 s.heap.size) s.heap H locs) (hU : U.heap = H) (hW : s.WarmedH U.vm) : va_Pc as (Ent E w H.size) as.toArray U := by
  obtain ⟨hx, hb, hml, hown, hts, hr, hlk, hEK, hES, hni, hXt⟩ := hC
  refine ⟨rfl, by rw [hU], by rw [hU]; exact hP, hD.weaken (fun _ _ _ _ => trivial), hEK.warm hW, ?_⟩
  rw [hU]
  exact ES.moved hW.alike ((hES.kept hS.2.1).narrow (in_A (A0 := fun _ => True) hD hS))
/-- behind a call -/
theorem wf_back {p : Program} {e : Env} {s : State} {m : MethodId} {args : Array Value} {below : List Frame} {meth : Method} {c : Code} {H : Heap} {locs : List Loc} {ls : Array Slot} {mc ms : Nat} {rest : List Value} {Post : Option Value → va_W → Prop} {a : Array Value}
    (hr : va_Run p l e rm s m args below meth c H locs ce sl mc ms (F0 m pc ls st) rest (EndW E w H.size Post a) (va_A w H.size)) (hC : Cx p s m args meth c E own cc nL ret ini Xt w0) (hl : lv_has ls nL lv) (hD : va_D (va_A w0 s.heap.size) w) (hS : va_S (va_A w0 s.heap.size) s.heap H locs)
    (k : ∀ v w2, Post v w2 → WF l E own cc nL ret rm ini Xt QQ w0 (ce + mc) (sl + ms) (pc + 3) lv (v.toList ++ rest) w2) : W p l e rm s m args below meth c H locs ce sl (QQ below args s) (F0 m pc ls st) := by
  have hA := in_A (A0 := fun _ => True) hD hS
  intro T hT X
  obtain ⟨v, st₀, t, T', L, h0, X', hL, e1, e2, ⟨⟨v', w2, hv, hp, hP2, hD2⟩, hz, hk⟩, stp⟩ := hr T hT X
  cases hv
  rw [h0] at hz hk
  obtain ⟨t2, a1, b1⟩ := k v w2 hp p e s m args below meth c T'.heap (locs ++ L) ls hC hl (by rw [e1]; exact hP2) (hD2.weaken (fun _ q _ h => hA q.1 h))
    ⟨Nat.le_trans hS.1 (by rw [e1]; exact hz), fun q h1 h2 => by rw [e1, hk q (Nat.lt_of_lt_of_le h1 hS.1) (fun z => h2 (hA q z))]; exact hS.2.1 q h1 h2, fun q hq => by
      rcases List.mem_append.mp hq with h | h
      · exact hS.2.2 q h
      · exact hA _ (hL q h)⟩ T' rfl X'
  exact ⟨t2, stp t2 a1, b1⟩
theorem wf_callV {i n a ci mL : Nat} {y : MethodName} {b : ByteArray} {ret2 : Option FieldType} {rm2 : Room} {As rest : List Value} {Post : Option Value → va_W → Prop} {fs : List Value} {T : u_T} {N : Nat} (q0 : Nat) (hM : CT l E y b mL ret2 rm2 (.ref a :: As) w Post) (hk : CVw own i y b mL ret2 n) (hn : As.length = n) (hR : rm2.frames + 1 ≤ rm.frames ∧ 8 + (mL + 11) + rm2.locals ≤ rm.locals) (hcs : ce + rm2.cells ≤ rm.cells ∧ sl + rm2.slots ≤ rm.slots) (hcat : (rest.map fun v => v.category).sum ≤ 8) (he : w[q0]? = some (a, .inr (ci, fs))) (hc : vwCl[ci]? = some (y.cls, T, N)) (hst : st = As.reverse ++ .ref a :: rest) (d : decode cc pc = .ok (.invokevirtual i, 3))
    (k : ∀ v w2, Post v w2 → WF l E own cc nL ret rm ini Xt QQ w0 (ce + rm2.cells) (sl + rm2.slots) (pc + 3) lv (v.toList ++ rest) w2) : WF l E own cc nL ret rm ini Xt QQ w0 ce sl pc lv st w := by
  intro p e s m args below meth c H locs ls hC hl hP hD hS
  obtain ⟨hx, hb, hml, hown, hts, hr, hlk, hEK, hES, hin, hXt⟩ := id hC
  obtain ⟨k1, k2, k3, k4, k5, k6, k7, k8⟩ := hk
  refine wf_back (va_runV (C := y.cls) (As := As) (rest := rest) ⟨hx, hb, hml, hown, hts⟩ (hM H.size) ⟨callB_of n hts (gi_tb k5) rfl rfl rfl (hts _ k4) (hts _ k1) ⟨k6, k7, k8⟩ hR, hts _ k2, hts _ k3⟩ ⟨ent_blind, va_recv hEK.1 hP hc he, fun U hU hW => ent_call hC hP hD hS hU hW⟩ rfl hn hl.1 hst (lv_room hcat) d hcs) hC hl hD hS k
theorem wf_callU {i n a ci mL : Nat} {C : String} {x y : MethodName} {b : ByteArray} {ret2 : Option FieldType} {rm2 : Room} {As rest : List Value} {Post : Option Value → va_W → Prop} {fs : List Value} {T : u_T} {N : Nat} (q0 : Nat) (hM : CT l E y b mL ret2 rm2 (.ref a :: As) w Post) (hk : CUw own i C x y b mL ret2 n) (hn : As.length = n) (hR : rm2.frames + 1 ≤ rm.frames ∧ 8 + (mL + 11) + rm2.locals ≤ rm.locals) (hcs : ce + rm2.cells ≤ rm.cells ∧ sl + rm2.slots ≤ rm.slots) (hcat : (rest.map fun v => v.category).sum ≤ 8) (he : w[q0]? = some (a, .inr (ci, fs))) (hc : vwCl[ci]? = some (C, T, N)) (hst : st = As.reverse ++ .ref a :: rest) (d : decode cc pc = .ok (.invokevirtual i, 3))
    (k : ∀ v w2, Post v w2 → WF l E own cc nL ret rm ini Xt QQ w0 (ce + rm2.cells) (sl + rm2.slots) (pc + 3) lv (v.toList ++ rest) w2) : WF l E own cc nL ret rm ini Xt QQ w0 ce sl pc lv st w := by
  intro p e s m args below meth c H locs ls hC hl hP hD hS
  obtain ⟨hx, hb, hml, hown, hts, hr, hlk, hEK, hES, hin, hXt⟩ := id hC
  obtain ⟨k1, k2, k3, k4, k5, k6, k7, ⟨b0, m0, r0, k8⟩, k9, k10, k11⟩ := hk
  have hG := gi_tb k6
  refine wf_back (va_runU (C := C) (owner := x.cls) (x := x) (As := As) (rest := rest) ⟨hx, hb, hml, hown, hts⟩ (hM H.size) ⟨⟨rfl, rfl, hR.1, hR.2, pay_in hts hG, List.mem_cons_self⟩, hts _ k6, hts _ k5, ⟨k9, k10⟩, fun sig h => ?_, hts _ k1, hts _ k2, va_Decl.of (hts _ k7) (hts _ k8), hts _ k3, hts _ k4⟩ ⟨ent_blind, va_recv hEK.1 hP hc he, fun U hU hW => ent_call hC hP hD hS hU hW⟩ rfl hn hl.1 hst (lv_room hcat) d hcs) hC hl hD hS k
  rw [h] at k11
  exact (Option.some.inj k11).symm
theorem wf_callS {i n mL : Nat} {y : MethodName} {b : ByteArray} {ret2 : Option FieldType} {rm2 : Room} {As rest : List Value} {Post : Option Value → va_W → Prop} (hM : CT l E y b mL ret2 rm2 As w Post) (hk : CSw own i y b mL ret2 n) (hn : As.length = n) (hR : rm2.frames + 1 ≤ rm.frames ∧ 8 + (mL + 11) + rm2.locals ≤ rm.locals) (hcs : ce + rm2.cells ≤ rm.cells ∧ sl + rm2.slots ≤ rm.slots) (hcat : (rest.map fun v => v.category).sum ≤ 8) (hst : st = As.reverse ++ rest) (d : decode cc pc = .ok (.invokestatic i, 3))
    (k : ∀ v w2, Post v w2 → WF l E own cc nL ret rm ini Xt QQ w0 (ce + rm2.cells) (sl + rm2.slots) (pc + 3) lv (v.toList ++ rest) w2) : WF l E own cc nL ret rm ini Xt QQ w0 ce sl pc lv st w := by
  intro p e s m args below meth c H locs ls hC hl hP hD hS
  obtain ⟨hx, hb, hml, hown, hts, hr, hlk, hEK, hES, hin, hXt⟩ := id hC
  obtain ⟨k1, k2, k4, k5, k6, k7, k8⟩ := hk
  refine wf_back (va_runS (As := As) (rest := rest) ⟨hx, hb, hml, hown, hts⟩ (hM H.size) ⟨callB_of n hts (gi_tb k5) rfl rfl rfl (hts _ k4) (hts _ k1) ⟨k6, k7, k8⟩ hR, hts _ k2⟩ ⟨ent_blind, fun U hU hW => ent_call hC hP hD hS hU hW⟩ rfl hn hl.1 hst (lv_room hcat) d hcs) hC hl hD hS k
theorem wf_callNS {i n mL : Nat} {y : MethodName} {host : String} {b : ByteArray} {ret2 : Option FieldType} {rm2 : Room} {As rest : List Value} {Post : Option Value → va_W → Prop} (hM : CT l E y b mL ret2 rm2 As w Post) (hk : CNSw own i y host b mL ret2 n) (hn : As.length = n) (hR : rm2.frames + 1 ≤ rm.frames ∧ 8 + (mL + 11) + rm2.locals ≤ rm.locals) (hcs : ce + rm2.cells ≤ rm.cells ∧ sl + rm2.slots ≤ rm.slots) (hcat : (rest.map fun v => v.category).sum ≤ 8) (hst : st = As.reverse ++ rest) (d : decode cc pc = .ok (.invokestatic i, 3))
    (k : ∀ v w2, Post v w2 → WF l E own cc nL ret rm ini Xt QQ w0 (ce + rm2.cells) (sl + rm2.slots) (pc + 3) lv (v.toList ++ rest) w2) : WF l E own cc nL ret rm ini Xt QQ w0 ce sl pc lv st w := by
  intro p e s m args below meth c H locs ls hC hl hP hD hS
  obtain ⟨hx, hb, hml, hown, hts, hr, hlk, hEK, hES, hin, hXt⟩ := id hC
  obtain ⟨k1, k2, k4, k5, k6, k7, k8⟩ := hk
  refine wf_back (va_runSN (host := host) (As := As) (rest := rest) ⟨hx, hb, hml, hown, hts⟩ (hM H.size) ⟨va_cnB n hts (gi_tb k5) rfl rfl rfl (hEK.2.1 _ k1) (hts _ k4) ⟨k6, k7, k8⟩ hR, hts _ k2, trivial⟩ ⟨ent_blind, fun U hU hW => ent_call hC hP hD hS hU hW⟩ rfl hn hl.1 hst (lv_room hcat) d hcs) hC hl hD hS k
theorem wf_callI {i n a mL : Nat} {y : MethodName} {b : ByteArray} {rm2 : Room} {As rest : List Value} {Post : Option Value → va_W → Prop} (hM : CT l E y b mL none rm2 (.ref a :: As) w Post) (hk : CIw own i y b mL n) (hn : As.length = n) (hR : rm2.frames + 1 ≤ rm.frames ∧ 8 + (mL + 11) + rm2.locals ≤ rm.locals) (hcs : ce + rm2.cells ≤ rm.cells ∧ sl + rm2.slots ≤ rm.slots) (hcat : (rest.map fun v => v.category).sum ≤ 8) (hst : st = As.reverse ++ .ref a :: rest) (d : decode cc pc = .ok (.invokespecial i, 3))
    (k : ∀ v w2, Post v w2 → WF l E own cc nL ret rm ini Xt QQ w0 (ce + rm2.cells) (sl + rm2.slots) (pc + 3) lv (v.toList ++ rest) w2) : WF l E own cc nL ret rm ini Xt QQ w0 ce sl pc lv st w := by
  intro p e s m args below meth c H locs ls hC hl hP hD hS
  obtain ⟨hx, hb, hml, hown, hts, hr, hlk, hEK, hES, hin, hXt⟩ := id hC
  obtain ⟨k1, k2, k4, k5, k9, k6, k7, k8⟩ := hk
  refine wf_back (va_runI (As := As) (rest := rest) ⟨hx, hb, hml, hown, hts⟩ (hM H.size) ⟨callB_of n hts (gi_tb k5) rfl rfl rfl (hts _ k4) (hts _ k1) ⟨k6, k7, k8⟩ hR, k9, hts _ k2⟩ ⟨ent_blind, fun U hU hW => ent_call (as := .ref a :: As) hC hP hD hS hU hW⟩ rfl hn hl.1 hst (lv_room hcat) d hcs) hC hl hD hS k
theorem wf_callNI {i n a mL : Nat} {y : MethodName} {host : String} {b : ByteArray} {rm2 : Room} {As rest : List Value} {Post : Option Value → va_W → Prop} (hM : CT l E y b mL none rm2 (.ref a :: As) w Post) (hk : CNIw own i y host b mL n) (hn : As.length = n) (hR : rm2.frames + 1 ≤ rm.frames ∧ 8 + (mL + 11) + rm2.locals ≤ rm.locals) (hcs : ce + rm2.cells ≤ rm.cells ∧ sl + rm2.slots ≤ rm.slots) (hcat : (rest.map fun v => v.category).sum ≤ 8) (hst : st = As.reverse ++ .ref a :: rest) (d : decode cc pc = .ok (.invokespecial i, 3))
    (k : ∀ v w2, Post v w2 → WF l E own cc nL ret rm ini Xt QQ w0 (ce + rm2.cells) (sl + rm2.slots) (pc + 3) lv (v.toList ++ rest) w2) : WF l E own cc nL ret rm ini Xt QQ w0 ce sl pc lv st w := by
  intro p e s m args below meth c H locs ls hC hl hP hD hS
  obtain ⟨hx, hb, hml, hown, hts, hr, hlk, hEK, hES, hin, hXt⟩ := id hC
  obtain ⟨k1, k2, k4, k5, k9, k6, k7, k8⟩ := hk
  refine wf_back (va_runIN (host := host) (As := As) (rest := rest) ⟨hx, hb, hml, hown, hts⟩ (hM H.size) ⟨va_cnB n hts (gi_tb k5) rfl rfl rfl (hEK.2.1 _ k1) (hts _ k4) ⟨k6, k7, k8⟩ hR, k9, hts _ k2⟩ ⟨ent_blind, fun U hU hW => ent_call (as := .ref a :: As) hC hP hD hS hU hW⟩ rfl hn hl.1 hst (lv_room hcat) d hcs) hC hl hD hS k
/-- an inherited member of a String constant's -/
theorem wf_callStr {i n i0 mL : Nat} {y : MethodName} {b : ByteArray} {ret2 : Option FieldType} {rm2 : Room} {As rest : List Value} {Post : Option Value → va_W → Prop} (hi0 : i0 < 5) (hM : CT l E y b mL ret2 rm2 (.ref (E.2.2.1 i0) :: As) w Post) (hk : CVw own i y b mL ret2 n) (hn : As.length = n) (hR : rm2.frames + 1 ≤ rm.frames ∧ 8 + (mL + 11) + rm2.locals ≤ rm.locals) (hcs : ce + rm2.cells ≤ rm.cells ∧ sl + rm2.slots ≤ rm.slots) (hcat : (rest.map fun v => v.category).sum ≤ 8) (hc : y.cls = "java/lang/String") (hst : st = As.reverse ++ .ref (E.2.2.1 i0) :: rest) (d : decode cc pc = .ok (.invokevirtual i, 3))
    (k : ∀ v w2, Post v w2 → WF l E own cc nL ret rm ini Xt QQ w0 (ce + rm2.cells) (sl + rm2.slots) (pc + 3) lv (v.toList ++ rest) w2) : WF l E own cc nL ret rm ini Xt QQ w0 ce sl pc lv st w := by
  intro p e s m args below meth c H locs ls hC hl hP hD hS
  obtain ⟨hx, hb, hml, hown, hts, hr, hlk, hEK, hES, hin, hXt⟩ := id hC
  obtain ⟨k1, k2, k3, k4, k5, k6, k7, k8⟩ := hk
  refine wf_back (va_runV (C := y.cls) (As := As) (rest := rest) ⟨hx, hb, hml, hown, hts⟩ (hM H.size) ⟨callB_of n hts (gi_tb k5) rfl rfl rfl (hts _ k4) (hts _ k1) ⟨k6, k7, k8⟩ hR, hts _ k2, hts _ k3⟩ ⟨ent_blind, by rw [hc]; exact vk_recv hES.1 hi0 hS, fun U hU hW => ent_call hC hP hD hS hU hW⟩ rfl hn hl.1 hst (lv_room hcat) d hcs) hC hl hD hS k
theorem wf_ldcS {i q : Nat} {tx : String} (hR : ∀ s : State, SR E.2.2.1 s → vk_R own i tx q s) (d : decode cc pc = .ok (.ldc i, 2)) (k : WF l E own cc nL ret rm ini Xt QQ w0 ce sl (pc + 2) lv (.ref q :: st) w) : WF l E own cc nL ret rm ini Xt QQ w0 ce sl pc lv st w := by
  intro p e s m args below meth c H locs ls hC hl hP hD hS
  obtain ⟨hx, hb, hml, hown, hts, hr, hlk, hEK, hES, hin, hXt⟩ := id hC
  exact va_ldcS hx hb hown (hR s hEK.2.2) d (k p e s m args below meth c H locs ls hC hl hP hD hS)
theorem wf_strval {i i0 : Nat} (hi0 : i0 < 5) (hlink : Cond.fieldLink own i "java/lang/String" "value" "[B" ∈ TBg) (d : decode cc pc = .ok (.getfield i, 3)) (k : WF l E own cc nL ret rm ini Xt QQ w0 ce sl (pc + 3) lv (.ref (E.2.2.2 i0) :: st) w) : WF l E own cc nL ret rm ini Xt QQ w0 ce sl pc lv (.ref (E.2.2.1 i0) :: st) w := by
  intro p e s m args below meth c H locs ls hC hl hP hD hS
  obtain ⟨hx, hb, hml, hown, hts, hr, hlk, hEK, hES, hin, hXt⟩ := id hC
  exact vk_getf hx hb (hES.1.1 i0 hi0).2.2.1 hS hown (hts _ hlink) (fun _ h => h) d (k p e s m args below meth c H locs ls hC hl hP hD hS)
theorem wf_strcoder {i i0 : Nat} (hi0 : i0 < 5) (hlink : Cond.fieldLink own i "java/lang/String" "coder" "B" ∈ TBg) (d : decode cc pc = .ok (.getfield i, 3)) (k : WF l E own cc nL ret rm ini Xt QQ w0 ce sl (pc + 3) lv (.int 0 :: st) w) : WF l E own cc nL ret rm ini Xt QQ w0 ce sl pc lv (.ref (E.2.2.1 i0) :: st) w := by
  intro p e s m args below meth c H locs ls hC hl hP hD hS
  obtain ⟨hx, hb, hml, hown, hts, hr, hlk, hEK, hES, hin, hXt⟩ := id hC
  exact vk_getf hx hb (hES.1.1 i0 hi0).2.1 hS hown (hts _ hlink) (fun _ h => h) d (k p e s m args below meth c H locs ls hC hl hP hD hS)
theorem wf_strlen {i0 : Nat} (v : Int32) (hi0 : i0 < 5) (hv : Int32.ofNat (lenS.getD i0 0) = v) (d : decode cc pc = .ok (.arraylength, 1)) (k : WF l E own cc nL ret rm ini Xt QQ w0 ce sl (pc + 1) lv (.int v :: st) w) : WF l E own cc nL ret rm ini Xt QQ w0 ce sl pc lv (.ref (E.2.2.2 i0) :: st) w := by
  intro p e s m args below meth c H locs ls hC hl hP hD hS
  obtain ⟨hx, hb, hml, hown, hts, hr, hlk, hEK, hES, hin, hXt⟩ := id hC
  exact va_tlen hx hb (hES.1.1 i0 hi0).2.2.2 hS hv d (k p e s m args below meth c H locs ls hC hl hP hD hS)
theorem wf_strbyte {i0 j : Nat} (v : Int32) (hi0 : i0 < 5) (hj : j < lenS.getD i0 0) (hn : j < 1024) (hv : (bytS.getD i0 []).getD j 0 = v) (d : decode cc pc = .ok (.baload, 1)) (k : WF l E own cc nL ret rm ini Xt QQ w0 ce sl (pc + 1) lv (.int v :: st) w) : WF l E own cc nL ret rm ini Xt QQ w0 ce sl pc lv (.int (nI j) :: .ref (E.2.2.2 i0) :: st) w := by
  intro p e s m args below meth c H locs ls hC hl hP hD hS
  obtain ⟨hx, hb, hml, hown, hts, hr, hlk, hEK, hES, hin, hXt⟩ := id hC
  have hin2 : vp_in (nI j) (lenS.getD i0 0) := by
    rw [vp_in_iff, nI_toInt (by omega)]; omega
  exact va_tb hx hb (hES.1.1 i0 hi0).2.2.2 hS hin2 (by rw [nI_clamp (by omega), hv]) d (k p e s m args below meth c H locs ls hC hl hP hD hS)
theorem wf_compact {i : Nat} (hlink : Cond.fieldLink own i "java/lang/String" "COMPACT_STRINGS" "Z" ∈ TBg) (d : decode cc pc = .ok (.getstatic i, 3)) (k : WF l E own cc nL ret rm ini Xt QQ w0 ce sl (pc + 3) lv (.int 1 :: st) w) : WF l E own cc nL ret rm ini Xt QQ w0 ce sl pc lv st w := by
  intro p e s m args below meth c H locs ls hC hl hP hD hS
  obtain ⟨hx, hb, hml, hown, hts, hr, hlk, hEK, hES, hin, hXt⟩ := id hC
  exact va_gets hx hb hES.2.1 hS hown (hts _ hlink) (fun _ h => h) d (k p e s m args below meth c H locs ls hC hl hP hD hS)
theorem wf_formatter {i : Nat} (hlink : Cond.fieldLink own i "jdk/internal/util/Preconditions" "SIOOBE_FORMATTER" "Ljava/util/function/BiFunction;" ∈ TBg) (d : decode cc pc = .ok (.getstatic i, 3)) (k0 : WF l E own cc nL ret rm ini Xt QQ w0 ce sl (pc + 3) lv (.null :: st) w) (k : ∀ q : Nat, WF l E own cc nL ret rm ini Xt QQ w0 ce sl (pc + 3) lv (.ref q :: st) w) : WF l E own cc nL ret rm ini Xt QQ w0 ce sl pc lv st w := by
  intro p e s m args below meth c H locs ls hC hl hP hD hS
  obtain ⟨hx, hb, hml, hown, hts, hr, hlk, hEK, hES, hin, hXt⟩ := id hC
  rcases hES.2.2 with h | ⟨t, h⟩
  · exact va_gets hx hb h hS hown (hts _ hlink) (fun _ h => h) d (k0 p e s m args below meth c H locs ls hC hl hP hD hS)
  · exact va_gets hx hb h hS hown (hts _ hlink) (fun _ h => h) d (k t p e s m args below meth c H locs ls hC hl hP hD hS)
theorem wf_math_min {i : Nat} {x y : Int32} (v : Int32) (hk : Cond.methodLink own i Lib.Math.min.name ∈ TBg ∧ Cond.static Lib.Math.min.name ∈ TBg ∧ Cond.initialized "java/lang/Math" ∈ TBg ∧ Cond.code Lib.Math.min.name Lib.Math.min.code 2 (some .int) ∈ TBg) (hf : 1 ≤ rm.frames) (hlo : (st.map fun v => v.category).sum + 13 ≤ rm.locals) (hc : ce ≤ rm.cells ∧ sl ≤ rm.slots) (hv : (if y < x then y else x) = v) (d : decode cc pc = .ok (.invokestatic i, 3)) (k : WF l E own cc nL ret rm ini Xt QQ w0 ce sl (pc + 3) lv (.int v :: st) w) : WF l E own cc nL ret rm ini Xt QQ w0 ce sl pc lv (.int y :: .int x :: st) w := by
  intro p e s m args below meth c H locs ls hC hl hP hD hS
  obtain ⟨hx, hb, hml, hown, hts, hr, hlk, hEK, hES, hin, hXt⟩ := id hC
  subst hv
  exact va_mmin hx hb (by rw [hml, hl.1]) hown (hts _ hk.1) (hts _ hk.2.1) (hts _ hk.2.2.1) (hts _ hk.2.2.2) hf hlo hc.1 hc.2 d (k p e s m args below meth c H locs ls hC hl hP hD hS)
theorem wf_math_max {i : Nat} {x y : Int32} (v : Int32) (hk : Cond.methodLink own i Lib.Math.max.name ∈ TBg ∧ Cond.static Lib.Math.max.name ∈ TBg ∧ Cond.initialized "java/lang/Math" ∈ TBg ∧ Cond.code Lib.Math.max.name Lib.Math.max.code 2 (some .int) ∈ TBg) (hf : 1 ≤ rm.frames) (hlo : (st.map fun v => v.category).sum + 13 ≤ rm.locals) (hc : ce ≤ rm.cells ∧ sl ≤ rm.slots) (hv : (if x < y then y else x) = v) (d : decode cc pc = .ok (.invokestatic i, 3)) (k : WF l E own cc nL ret rm ini Xt QQ w0 ce sl (pc + 3) lv (.int v :: st) w) : WF l E own cc nL ret rm ini Xt QQ w0 ce sl pc lv (.int y :: .int x :: st) w := by
  intro p e s m args below meth c H locs ls hC hl hP hD hS
  obtain ⟨hx, hb, hml, hown, hts, hr, hlk, hEK, hES, hin, hXt⟩ := id hC
  subst hv
  exact va_mmax hx hb (by rw [hml, hl.1]) hown (hts _ hk.1) (hts _ hk.2.1) (hts _ hk.2.2.1) (hts _ hk.2.2.2) hf hlo hc.1 hc.2 d (k p e s m args below meth c H locs ls hC hl hP hD hS)

theorem wf_copyi {i a a0 n0 n1 : Nat} {f g : Nat → Int32} (q0 q1 : Nat) (n : Nat) (w' : va_W) (hk : Cond.methodLink own i arraycopyName ∈ TBg ∧ Cond.native arraycopyName ∈ TBg ∧ Cond.static arraycopyName ∈ TBg ∧ Cond.initialized "java/lang/System" ∈ TBg) (he0 : w[q0]? = some (a0, .inl (E.2.1.1, n0, .inl f))) (he1 : w[q1]? = some (a, .inl (E.2.1.1, n1, .inl g))) (h4 : n ≤ n0) (h5 : n ≤ n1) (h6 : n ≤ 1024) (hf : 1 ≤ rm.frames) (hlo : (st.map fun v => v.category).sum + (nativeFrameWords "java/lang/System" "arraycopy" 5 + 11) ≤ rm.locals) (hw : w.set q1 (a, .inl (E.2.1.1, n1, .inl (va_cpy f g 0 0 n))) = w') (d : decode cc pc = .ok (.invokestatic i, 3)) (k : WF l E own cc nL ret rm ini Xt QQ w0 ce sl (pc + 3) lv st w') : WF l E own cc nL ret rm ini Xt QQ w0 ce sl pc lv (.int (nI n) :: .int (nI 0) :: .ref a :: .int (nI 0) :: .ref a0 :: st) w := by
  intro p e s m args below meth c H locs ls hC hl hP hD hS
  obtain ⟨hx, hb, hml, hown, hts, hr, hlk, hEK, hES, hin, hXt⟩ := id hC
  subst hw
  have e0 : (nI 0).toNatClampNeg = 0 := nI_clamp (by decide)
  have en : (nI n).toNatClampNeg = n := nI_clamp (by omega)
  refine va_copyi hx hb (by rw [hml, hl.1]) hown (hts _ hk.1) (hts _ hk.2.1) (hts _ hk.2.2.1) (hts _ hk.2.2.2) hEK.1 hP hD hS q0 q1 0 0 he0 he1 rfl rfl rfl (nI_pos (by decide)) (nI_pos (by decide)) (nI_pos (by omega)) (by rw [e0, en]; omega) (by rw [e0, en]; omega) (fun i hi => rfl) hf hlo d (fun H locs hP hD hS => ?_)
  rw [e0, en] at hP hD
  exact k p e s m args below meth c H locs ls hC hl hP hD hS
theorem wf_new {C : String} {T : u_T} {N ci i : Nat} (fs : List Value) (ty : Nat → FieldType) (hin : ∀ w ∈ u_ws C T N, w ∈ TBg) (hty : ∀ k, k < N → parseFieldDescriptor (T k).2.2.1 = some (ty k)) (hcl : Cond.classLink own i C ∈ TBg) (hinst : Cond.instantiable C N ∈ TBg) (hini : Cond.initialized C ∈ TBg) (hc : vwCl[ci]? = some (C, T, N)) (hfs : ∀ j, j < N → defaultValue (ty j) = vp_V fs j) (hcells : ce + 1 ≤ rm.cells) (hslots : sl + N ≤ rm.slots) (d : decode cc pc = .ok (.new i, 3))
    (k : ∀ q : Nat, WF l E own cc nL ret rm ini Xt QQ w0 (ce + 1) (sl + N) (pc + 3) lv (.ref q :: st) (w ++ [(q, .inr (ci, fs))])) : WF l E own cc nL ret rm ini Xt QQ w0 ce sl pc lv st w := by
  intro p e s m args below meth c H locs ls hC hl hP hD hS
  obtain ⟨hx, hb, hml, hown, hts, hr, hlk, hEK, hES, hni, hXt⟩ := id hC
  exact va_new hx hb hts hin ty hty hown (hts _ hcl) (hts _ hinst) (hts _ hini) hEK.1 hP hD hS (fun q h => Or.inr h) hc hfs hcells hslots d (fun q H hP hD hS => k q p e s m args below meth c H locs ls hC hl hP hD hS)
theorem wf_newi (N : Nat) (harr : Cond.arrayClass .int ∈ TBg) (hN : N ≤ 1024) (hcells : ce + 1 ≤ rm.cells) (hslots : sl + N ≤ rm.slots) (d : decode cc pc = .ok (.newarray .int, 2))
    (k : ∀ q : Nat, WF l E own cc nL ret rm ini Xt QQ w0 (ce + 1) (sl + N) (pc + 2) lv (.ref q :: st) (w ++ [(q, .inl (E.2.1.1, N, .inl (fun _ => 0)))])) : WF l E own cc nL ret rm ini Xt QQ w0 ce sl pc lv (.int (nI N) :: st) w := by
  intro p e s m args below meth c H locs ls hC hl hP hD hS
  obtain ⟨hx, hb, hml, hown, hts, hr, hlk, hEK, hES, hin, hXt⟩ := id hC
  refine va_newa (atype := .int) (ty := .int) (N' := N) (a0 := (N, .inl (fun _ => 0))) hx hb (hts _ harr) rfl hEK.1 hP hD hS (fun q h => Or.inr h) (fun cA => rfl) (nI_pos (by omega)) (nI_clamp (by omega)) (by show N * 4 ≤ _; omega) hcells hslots d (fun q cA H hK hP hD hS => ?_)
  have e1 : cA = E.2.1.1 := by
    have h1 := (hK.2 3 (cA, .int) rfl).2
    have h2 := (hK.2 0 (E.2.1.1, .int) rfl).2
    exact Option.some.inj (h1.symm.trans h2)
  subst e1
  exact k q p e s m args below meth c H locs ls hC hl hP hD hS
theorem wf_newc (N : Nat) (harr : Cond.arrayClass .char ∈ TBg) (hN : N ≤ 1024) (hcells : ce + 1 ≤ rm.cells) (hslots : sl + N ≤ rm.slots) (d : decode cc pc = .ok (.newarray .char, 2))
    (k : ∀ q : Nat, WF l E own cc nL ret rm ini Xt QQ w0 (ce + 1) (sl + N) (pc + 2) lv (.ref q :: st) (w ++ [(q, .inl (E.2.1.2.1, N, .inl (fun _ => 0)))])) : WF l E own cc nL ret rm ini Xt QQ w0 ce sl pc lv (.int (nI N) :: st) w := by
  intro p e s m args below meth c H locs ls hC hl hP hD hS
  obtain ⟨hx, hb, hml, hown, hts, hr, hlk, hEK, hES, hin, hXt⟩ := id hC
  refine va_newa (atype := .char) (ty := .char) (N' := N) (a0 := (N, .inl (fun _ => 0))) hx hb (hts _ harr) rfl hEK.1 hP hD hS (fun q h => Or.inr h) (fun cA => rfl) (nI_pos (by omega)) (nI_clamp (by omega)) (by show N * 2 ≤ _; omega) hcells hslots d (fun q cA H hK hP hD hS => ?_)
  have e1 : cA = E.2.1.2.1 := by
    have h1 := (hK.2 3 (cA, .char) rfl).2
    have h2 := (hK.2 1 (E.2.1.2.1, .char) rfl).2
    exact Option.some.inj (h1.symm.trans h2)
  subst e1
  exact k q p e s m args below meth c H locs ls hC hl hP hD hS
theorem wf_objInit {i a : Nat} (hl0 : Cond.methodLink own i objectInit ∈ TBg ∧ Cond.instanceMethod objectInit ∈ TBg ∧ Cond.code objectInit ⟨#[0xb1]⟩ 1 none ∈ TBg) (hf : 1 ≤ rm.frames) (hlo : (st.map fun v => v.category).sum + 12 ≤ rm.locals) (d : decode cc pc = .ok (.invokespecial i, 3)) (k : WF l E own cc nL ret rm ini Xt QQ w0 ce sl (pc + 3) lv st w) : WF l E own cc nL ret rm ini Xt QQ w0 ce sl pc lv (.ref a :: st) w := by
  intro p e s m args below meth c H locs ls hC hl hP hD hS
  obtain ⟨hx, hb, hml, hown, hts, hr, hlk, hEK, hES, hin, hXt⟩ := id hC
  exact W.objInit hx hb hown (hts _ hl0.1) (hts _ hl0.2.1) (hts _ hl0.2.2) rfl (by rw [hml]; exact hl.1) rfl d hf (by show 2 * 0 + _ + 12 ≤ _; omega) (k p e s m args below meth c H locs ls hC hl hP hD hS)

theorem wf_iret {Post : Option Value → va_W → Prop} {v : Int32} (ty : FieldType) (hret : ret = some ty) (hn : narrow ty (.int v) = .int v) (hc : ce = rm.cells ∧ sl = rm.slots) (hp : Post (some (.int v)) w) (d : decode cc pc = .ok (.ireturn, 1)) : WF l E own cc nL ret rm ini Xt (QM E w0 Post rm) w0 ce sl pc lv [.int v] w := by
  intro p e s m args below meth c H locs ls hC hl hP hD hS
  obtain ⟨hx, hb, hml, hown, hts, hr, hlk, hEK, hES, hin, hXt⟩ := id hC
  obtain ⟨rfl, rfl⟩ := hc
  exact W.zret hx hb (hr.trans hret) hn (fun t ht hW => ⟨⟨_, w, rfl, hp, by rw [ht]; exact hP, hD⟩, hS.F ht⟩) hS.2.2 d
theorem wf_vret {Post : Option Value → va_W → Prop} (hret : ret = none) (hc : ce = rm.cells ∧ sl = rm.slots) (hp : Post none w) (d : decode cc pc = .ok (.return_, 1)) : WF l E own cc nL ret rm ini Xt (QM E w0 Post rm) w0 ce sl pc lv [] w := by
  intro p e s m args below meth c H locs ls hC hl hP hD hS
  obtain ⟨hx, hb, hml, hown, hts, hr, hlk, hEK, hES, hin, hXt⟩ := id hC
  obtain ⟨rfl, rfl⟩ := hc
  exact W.vret hx hb (hr.trans hret) (fun t ht hW => ⟨⟨_, w, rfl, hp, by rw [ht]; exact hP, hD⟩, hS.F ht⟩) hS.2.2 d
theorem wf_aret {Post : Option Value → va_W → Prop} {a : Nat} (cn : String) (hret : ret = some (.object cn)) (hc : ce = rm.cells ∧ sl = rm.slots) (hp : Post (some (.ref a)) w) (d : decode cc pc = .ok (.areturn, 1)) : WF l E own cc nL ret rm ini Xt (QM E w0 Post rm) w0 ce sl pc lv [.ref a] w := by
  intro p e s m args below meth c H locs ls hC hl hP hD hS
  obtain ⟨hx, hb, hml, hown, hts, hr, hlk, hEK, hES, hin, hXt⟩ := id hC
  obtain ⟨rfl, rfl⟩ := hc
  exact W.aret hx hb (hr.trans hret) (Or.inl ⟨cn, rfl⟩) (Or.inr ⟨a, rfl⟩) (fun t ht hW => ⟨⟨_, w, rfl, hp, by rw [ht]; exact hP, hD⟩, hS.F ht⟩) hS.2.2 d
/-- a contract's end may say less -/
theorem CT.weaken {y : MethodName} {b : ByteArray} {mL : Nat} {as : List Value} {Post Post' : Option Value → va_W → Prop} (h : CT l E y b mL ret rm as w Post) (hp : ∀ v w2, Post v w2 → Post' v w2) : CT l E y b mL ret rm as w Post' := by
  intro sz
  have h1 := h sz
  refine fun p e ha hc hk s m args below hf hap hP hK => ?_
  obtain ⟨t, o, a1, a2, a3, ⟨⟨⟨v, w2, b1, b2, b3⟩, b4⟩, b5⟩⟩ := h1 p e ha hc hk s m args below hf hap hP hK
  exact ⟨t, o, a1, a2, a3, ⟨⟨⟨v, w2, b1, hp v w2 b2, b3⟩, b4⟩, b5⟩⟩
/-- the end that says all: this value, this world -/
def IS (r : Option Value) (w2 : va_W) : Option Value → va_W → Prop := fun v w => v = r ∧ w = w2

end WFS
end
section
theorem dX0_init_0 : decode cX0_init 0 = .ok (.aload_n 0, 1) := by decide +kernel
theorem dX0_init_1 : decode cX0_init 1 = .ok (.invokespecial 1, 3) := by decide +kernel
theorem dX0_init_4 : decode cX0_init 4 = .ok (.return_, 1) := by decide +kernel
theorem dX0_prefers_0 : decode cX0_prefers 0 = .ok (.aload_n 1, 1) := by decide +kernel
theorem dX0_prefers_1 : decode cX0_prefers 1 = .ok (.iload_n 2, 1) := by decide +kernel
theorem dX0_prefers_2 : decode cX0_prefers 2 = .ok (.invokevirtual 7, 3) := by decide +kernel
theorem dX0_prefers_5 : decode cX0_prefers 5 = .ok (.aload_n 1, 1) := by decide +kernel
theorem dX0_prefers_6 : decode cX0_prefers 6 = .ok (.iload_n 3, 1) := by decide +kernel
theorem dX0_prefers_7 : decode cX0_prefers 7 = .ok (.invokevirtual 7, 3) := by decide +kernel
theorem dX0_prefers_10 : decode cX0_prefers 10 = .ok (.if_icmp .ge 7, 3) := by decide +kernel
theorem dX0_prefers_13 : decode cX0_prefers 13 = .ok (.iconst 1, 1) := by decide +kernel
theorem dX0_prefers_14 : decode cX0_prefers 14 = .ok (.goto 4, 3) := by decide +kernel
theorem dX0_prefers_17 : decode cX0_prefers 17 = .ok (.iconst 0, 1) := by decide +kernel
theorem dX0_prefers_18 : decode cX0_prefers 18 = .ok (.ireturn, 1) := by decide +kernel
theorem dX1_init_0 : decode cX1_init 0 = .ok (.aload_n 0, 1) := by decide +kernel
theorem dX1_init_1 : decode cX1_init 1 = .ok (.invokespecial 1, 3) := by decide +kernel
theorem dX1_init_4 : decode cX1_init 4 = .ok (.return_, 1) := by decide +kernel
theorem dX1_reaches_0 : decode cX1_reaches 0 = .ok (.iload_n 2, 1) := by decide +kernel
theorem dX1_reaches_1 : decode cX1_reaches 1 = .ok (.ifCond .eq 13, 3) := by decide +kernel
theorem dX1_reaches_4 : decode cX1_reaches 4 = .ok (.aload_n 1, 1) := by decide +kernel
theorem dX1_reaches_5 : decode cX1_reaches 5 = .ok (.iload_n 2, 1) := by decide +kernel
theorem dX1_reaches_6 : decode cX1_reaches 6 = .ok (.iconst 1, 1) := by decide +kernel
theorem dX1_reaches_7 : decode cX1_reaches 7 = .ok (.isub, 1) := by decide +kernel
theorem dX1_reaches_8 : decode cX1_reaches 8 = .ok (.invokevirtual 7, 3) := by decide +kernel
theorem dX1_reaches_11 : decode cX1_reaches 11 = .ok (.ifCond .eq 7, 3) := by decide +kernel
theorem dX1_reaches_14 : decode cX1_reaches 14 = .ok (.iconst 1, 1) := by decide +kernel
theorem dX1_reaches_15 : decode cX1_reaches 15 = .ok (.goto 4, 3) := by decide +kernel
theorem dX1_reaches_18 : decode cX1_reaches 18 = .ok (.iconst 0, 1) := by decide +kernel
theorem dX1_reaches_19 : decode cX1_reaches 19 = .ok (.ireturn, 1) := by decide +kernel
theorem dX2_init_0 : decode cX2_init 0 = .ok (.aload_n 0, 1) := by decide +kernel
theorem dX2_init_1 : decode cX2_init 1 = .ok (.invokespecial 3, 3) := by decide +kernel
theorem dX2_init_4 : decode cX2_init 4 = .ok (.aload_n 0, 1) := by decide +kernel
theorem dX2_init_5 : decode cX2_init 5 = .ok (.bipush 10, 2) := by decide +kernel
theorem dX2_init_7 : decode cX2_init 7 = .ok (.newarray .int, 2) := by decide +kernel
theorem dX2_init_9 : decode cX2_init 9 = .ok (.putfield 9, 3) := by decide +kernel
theorem dX2_init_12 : decode cX2_init 12 = .ok (.aload_n 0, 1) := by decide +kernel
theorem dX2_init_13 : decode cX2_init 13 = .ok (.bipush 10, 2) := by decide +kernel
theorem dX2_init_15 : decode cX2_init 15 = .ok (.newarray .int, 2) := by decide +kernel
theorem dX2_init_17 : decode cX2_init 17 = .ok (.putfield 15, 3) := by decide +kernel
theorem dX2_init_20 : decode cX2_init 20 = .ok (.aload_n 0, 1) := by decide +kernel
theorem dX2_init_21 : decode cX2_init 21 = .ok (.bipush 10, 2) := by decide +kernel
theorem dX2_init_23 : decode cX2_init 23 = .ok (.newarray .int, 2) := by decide +kernel
theorem dX2_init_25 : decode cX2_init 25 = .ok (.putfield 18, 3) := by decide +kernel
theorem dX2_init_28 : decode cX2_init 28 = .ok (.aload_n 0, 1) := by decide +kernel
theorem dX2_init_29 : decode cX2_init 29 = .ok (.iconst 4, 1) := by decide +kernel
theorem dX2_init_30 : decode cX2_init 30 = .ok (.newarray .int, 2) := by decide +kernel
theorem dX2_init_32 : decode cX2_init 32 = .ok (.putfield 21, 3) := by decide +kernel
theorem dX2_init_35 : decode cX2_init 35 = .ok (.aload_n 0, 1) := by decide +kernel
theorem dX2_init_36 : decode cX2_init 36 = .ok (.iconst 4, 1) := by decide +kernel
theorem dX2_init_37 : decode cX2_init 37 = .ok (.newarray .int, 2) := by decide +kernel
theorem dX2_init_39 : decode cX2_init 39 = .ok (.putfield 24, 3) := by decide +kernel
theorem dX2_init_42 : decode cX2_init 42 = .ok (.aload_n 0, 1) := by decide +kernel
theorem dX2_init_43 : decode cX2_init 43 = .ok (.iconst 4, 1) := by decide +kernel
theorem dX2_init_44 : decode cX2_init 44 = .ok (.newarray .int, 2) := by decide +kernel
theorem dX2_init_46 : decode cX2_init 46 = .ok (.putfield 27, 3) := by decide +kernel
theorem dX2_init_49 : decode cX2_init 49 = .ok (.aload_n 0, 1) := by decide +kernel
theorem dX2_init_50 : decode cX2_init 50 = .ok (.iconst 4, 1) := by decide +kernel
theorem dX2_init_51 : decode cX2_init 51 = .ok (.newarray .int, 2) := by decide +kernel
theorem dX2_init_53 : decode cX2_init 53 = .ok (.putfield 30, 3) := by decide +kernel
theorem dX2_init_56 : decode cX2_init 56 = .ok (.aload_n 0, 1) := by decide +kernel
theorem dX2_init_57 : decode cX2_init 57 = .ok (.iconst 3, 1) := by decide +kernel
theorem dX2_init_58 : decode cX2_init 58 = .ok (.newarray .int, 2) := by decide +kernel
theorem dX2_init_60 : decode cX2_init 60 = .ok (.putfield 33, 3) := by decide +kernel
theorem dX2_init_63 : decode cX2_init 63 = .ok (.aload_n 0, 1) := by decide +kernel
theorem dX2_init_64 : decode cX2_init 64 = .ok (.bipush 8, 2) := by decide +kernel
theorem dX2_init_66 : decode cX2_init 66 = .ok (.newarray .int, 2) := by decide +kernel
theorem dX2_init_68 : decode cX2_init 68 = .ok (.putfield 36, 3) := by decide +kernel
theorem dX2_init_71 : decode cX2_init 71 = .ok (.aload_n 0, 1) := by decide +kernel
theorem dX2_init_72 : decode cX2_init 72 = .ok (.aload_n 1, 1) := by decide +kernel
theorem dX2_init_73 : decode cX2_init 73 = .ok (.putfield 39, 3) := by decide +kernel
theorem dX2_init_76 : decode cX2_init 76 = .ok (.return_, 1) := by decide +kernel
theorem dX2_becomeAs_0 : decode cX2_becomeAs 0 = .ok (.aload_n 1, 1) := by decide +kernel
theorem dX2_becomeAs_1 : decode cX2_becomeAs 1 = .ok (.getfield 9, 3) := by decide +kernel
theorem dX2_becomeAs_4 : decode cX2_becomeAs 4 = .ok (.iconst 0, 1) := by decide +kernel
theorem dX2_becomeAs_5 : decode cX2_becomeAs 5 = .ok (.aload_n 0, 1) := by decide +kernel
theorem dX2_becomeAs_6 : decode cX2_becomeAs 6 = .ok (.getfield 9, 3) := by decide +kernel
theorem dX2_becomeAs_9 : decode cX2_becomeAs 9 = .ok (.iconst 0, 1) := by decide +kernel
theorem dX2_becomeAs_10 : decode cX2_becomeAs 10 = .ok (.bipush 10, 2) := by decide +kernel
theorem dX2_becomeAs_12 : decode cX2_becomeAs 12 = .ok (.invokestatic 43, 3) := by decide +kernel
theorem dX2_becomeAs_15 : decode cX2_becomeAs 15 = .ok (.aload_n 1, 1) := by decide +kernel
theorem dX2_becomeAs_16 : decode cX2_becomeAs 16 = .ok (.getfield 15, 3) := by decide +kernel
theorem dX2_becomeAs_19 : decode cX2_becomeAs 19 = .ok (.iconst 0, 1) := by decide +kernel
theorem dX2_becomeAs_20 : decode cX2_becomeAs 20 = .ok (.aload_n 0, 1) := by decide +kernel
theorem dX2_becomeAs_21 : decode cX2_becomeAs 21 = .ok (.getfield 15, 3) := by decide +kernel
theorem dX2_becomeAs_24 : decode cX2_becomeAs 24 = .ok (.iconst 0, 1) := by decide +kernel
theorem dX2_becomeAs_25 : decode cX2_becomeAs 25 = .ok (.bipush 10, 2) := by decide +kernel
theorem dX2_becomeAs_27 : decode cX2_becomeAs 27 = .ok (.invokestatic 43, 3) := by decide +kernel
theorem dX2_becomeAs_30 : decode cX2_becomeAs 30 = .ok (.aload_n 1, 1) := by decide +kernel
theorem dX2_becomeAs_31 : decode cX2_becomeAs 31 = .ok (.getfield 18, 3) := by decide +kernel
theorem dX2_becomeAs_34 : decode cX2_becomeAs 34 = .ok (.iconst 0, 1) := by decide +kernel
theorem dX2_becomeAs_35 : decode cX2_becomeAs 35 = .ok (.aload_n 0, 1) := by decide +kernel
theorem dX2_becomeAs_36 : decode cX2_becomeAs 36 = .ok (.getfield 18, 3) := by decide +kernel
theorem dX2_becomeAs_39 : decode cX2_becomeAs 39 = .ok (.iconst 0, 1) := by decide +kernel
theorem dX2_becomeAs_40 : decode cX2_becomeAs 40 = .ok (.bipush 10, 2) := by decide +kernel
theorem dX2_becomeAs_42 : decode cX2_becomeAs 42 = .ok (.invokestatic 43, 3) := by decide +kernel
theorem dX2_becomeAs_45 : decode cX2_becomeAs 45 = .ok (.aload_n 0, 1) := by decide +kernel
theorem dX2_becomeAs_46 : decode cX2_becomeAs 46 = .ok (.aload_n 1, 1) := by decide +kernel
theorem dX2_becomeAs_47 : decode cX2_becomeAs 47 = .ok (.getfield 49, 3) := by decide +kernel
theorem dX2_becomeAs_50 : decode cX2_becomeAs 50 = .ok (.putfield 49, 3) := by decide +kernel
theorem dX2_becomeAs_53 : decode cX2_becomeAs 53 = .ok (.aload_n 1, 1) := by decide +kernel
theorem dX2_becomeAs_54 : decode cX2_becomeAs 54 = .ok (.getfield 21, 3) := by decide +kernel
theorem dX2_becomeAs_57 : decode cX2_becomeAs 57 = .ok (.iconst 0, 1) := by decide +kernel
theorem dX2_becomeAs_58 : decode cX2_becomeAs 58 = .ok (.aload_n 0, 1) := by decide +kernel
theorem dX2_becomeAs_59 : decode cX2_becomeAs 59 = .ok (.getfield 21, 3) := by decide +kernel
theorem dX2_becomeAs_62 : decode cX2_becomeAs 62 = .ok (.iconst 0, 1) := by decide +kernel
theorem dX2_becomeAs_63 : decode cX2_becomeAs 63 = .ok (.iconst 4, 1) := by decide +kernel
theorem dX2_becomeAs_64 : decode cX2_becomeAs 64 = .ok (.invokestatic 43, 3) := by decide +kernel
theorem dX2_becomeAs_67 : decode cX2_becomeAs 67 = .ok (.aload_n 1, 1) := by decide +kernel
theorem dX2_becomeAs_68 : decode cX2_becomeAs 68 = .ok (.getfield 24, 3) := by decide +kernel
theorem dX2_becomeAs_71 : decode cX2_becomeAs 71 = .ok (.iconst 0, 1) := by decide +kernel
theorem dX2_becomeAs_72 : decode cX2_becomeAs 72 = .ok (.aload_n 0, 1) := by decide +kernel
theorem dX2_becomeAs_73 : decode cX2_becomeAs 73 = .ok (.getfield 24, 3) := by decide +kernel
theorem dX2_becomeAs_76 : decode cX2_becomeAs 76 = .ok (.iconst 0, 1) := by decide +kernel
theorem dX2_becomeAs_77 : decode cX2_becomeAs 77 = .ok (.iconst 4, 1) := by decide +kernel
theorem dX2_becomeAs_78 : decode cX2_becomeAs 78 = .ok (.invokestatic 43, 3) := by decide +kernel
theorem dX2_becomeAs_81 : decode cX2_becomeAs 81 = .ok (.aload_n 1, 1) := by decide +kernel
theorem dX2_becomeAs_82 : decode cX2_becomeAs 82 = .ok (.getfield 27, 3) := by decide +kernel
theorem dX2_becomeAs_85 : decode cX2_becomeAs 85 = .ok (.iconst 0, 1) := by decide +kernel
theorem dX2_becomeAs_86 : decode cX2_becomeAs 86 = .ok (.aload_n 0, 1) := by decide +kernel
theorem dX2_becomeAs_87 : decode cX2_becomeAs 87 = .ok (.getfield 27, 3) := by decide +kernel
theorem dX2_becomeAs_90 : decode cX2_becomeAs 90 = .ok (.iconst 0, 1) := by decide +kernel
theorem dX2_becomeAs_91 : decode cX2_becomeAs 91 = .ok (.iconst 4, 1) := by decide +kernel
theorem dX2_becomeAs_92 : decode cX2_becomeAs 92 = .ok (.invokestatic 43, 3) := by decide +kernel
theorem dX2_becomeAs_95 : decode cX2_becomeAs 95 = .ok (.aload_n 1, 1) := by decide +kernel
theorem dX2_becomeAs_96 : decode cX2_becomeAs 96 = .ok (.getfield 30, 3) := by decide +kernel
theorem dX2_becomeAs_99 : decode cX2_becomeAs 99 = .ok (.iconst 0, 1) := by decide +kernel
theorem dX2_becomeAs_100 : decode cX2_becomeAs 100 = .ok (.aload_n 0, 1) := by decide +kernel
theorem dX2_becomeAs_101 : decode cX2_becomeAs 101 = .ok (.getfield 30, 3) := by decide +kernel
theorem dX2_becomeAs_104 : decode cX2_becomeAs 104 = .ok (.iconst 0, 1) := by decide +kernel
theorem dX2_becomeAs_105 : decode cX2_becomeAs 105 = .ok (.iconst 4, 1) := by decide +kernel
theorem dX2_becomeAs_106 : decode cX2_becomeAs 106 = .ok (.invokestatic 43, 3) := by decide +kernel
theorem dX2_becomeAs_109 : decode cX2_becomeAs 109 = .ok (.aload_n 0, 1) := by decide +kernel
theorem dX2_becomeAs_110 : decode cX2_becomeAs 110 = .ok (.aload_n 1, 1) := by decide +kernel
theorem dX2_becomeAs_111 : decode cX2_becomeAs 111 = .ok (.getfield 53, 3) := by decide +kernel
theorem dX2_becomeAs_114 : decode cX2_becomeAs 114 = .ok (.putfield 53, 3) := by decide +kernel
theorem dX2_becomeAs_117 : decode cX2_becomeAs 117 = .ok (.aload_n 1, 1) := by decide +kernel
theorem dX2_becomeAs_118 : decode cX2_becomeAs 118 = .ok (.getfield 33, 3) := by decide +kernel
theorem dX2_becomeAs_121 : decode cX2_becomeAs 121 = .ok (.iconst 0, 1) := by decide +kernel
theorem dX2_becomeAs_122 : decode cX2_becomeAs 122 = .ok (.aload_n 0, 1) := by decide +kernel
theorem dX2_becomeAs_123 : decode cX2_becomeAs 123 = .ok (.getfield 33, 3) := by decide +kernel
theorem dX2_becomeAs_126 : decode cX2_becomeAs 126 = .ok (.iconst 0, 1) := by decide +kernel
theorem dX2_becomeAs_127 : decode cX2_becomeAs 127 = .ok (.iconst 3, 1) := by decide +kernel
theorem dX2_becomeAs_128 : decode cX2_becomeAs 128 = .ok (.invokestatic 43, 3) := by decide +kernel
theorem dX2_becomeAs_131 : decode cX2_becomeAs 131 = .ok (.aload_n 1, 1) := by decide +kernel
theorem dX2_becomeAs_132 : decode cX2_becomeAs 132 = .ok (.getfield 36, 3) := by decide +kernel
theorem dX2_becomeAs_135 : decode cX2_becomeAs 135 = .ok (.iconst 0, 1) := by decide +kernel
theorem dX2_becomeAs_136 : decode cX2_becomeAs 136 = .ok (.aload_n 0, 1) := by decide +kernel
theorem dX2_becomeAs_137 : decode cX2_becomeAs 137 = .ok (.getfield 36, 3) := by decide +kernel
theorem dX2_becomeAs_140 : decode cX2_becomeAs 140 = .ok (.iconst 0, 1) := by decide +kernel
theorem dX2_becomeAs_141 : decode cX2_becomeAs 141 = .ok (.bipush 8, 2) := by decide +kernel
theorem dX2_becomeAs_143 : decode cX2_becomeAs 143 = .ok (.invokestatic 43, 3) := by decide +kernel
theorem dX2_becomeAs_146 : decode cX2_becomeAs 146 = .ok (.aload_n 0, 1) := by decide +kernel
theorem dX2_becomeAs_147 : decode cX2_becomeAs 147 = .ok (.aload_n 1, 1) := by decide +kernel
theorem dX2_becomeAs_148 : decode cX2_becomeAs 148 = .ok (.getfield 56, 3) := by decide +kernel
theorem dX2_becomeAs_151 : decode cX2_becomeAs 151 = .ok (.putfield 56, 3) := by decide +kernel
theorem dX2_becomeAs_154 : decode cX2_becomeAs 154 = .ok (.aload_n 0, 1) := by decide +kernel
theorem dX2_becomeAs_155 : decode cX2_becomeAs 155 = .ok (.aload_n 1, 1) := by decide +kernel
theorem dX2_becomeAs_156 : decode cX2_becomeAs 156 = .ok (.getfield 59, 3) := by decide +kernel
theorem dX2_becomeAs_159 : decode cX2_becomeAs 159 = .ok (.putfield 59, 3) := by decide +kernel
theorem dX2_becomeAs_162 : decode cX2_becomeAs 162 = .ok (.return_, 1) := by decide +kernel
theorem dX2_hasWord_0 : decode cX2_hasWord 0 = .ok (.iload_n 1, 1) := by decide +kernel
theorem dX2_hasWord_1 : decode cX2_hasWord 1 = .ok (.ifCond .lt 15, 3) := by decide +kernel
theorem dX2_hasWord_4 : decode cX2_hasWord 4 = .ok (.iload_n 1, 1) := by decide +kernel
theorem dX2_hasWord_5 : decode cX2_hasWord 5 = .ok (.aload_n 0, 1) := by decide +kernel
theorem dX2_hasWord_6 : decode cX2_hasWord 6 = .ok (.getfield 49, 3) := by decide +kernel
theorem dX2_hasWord_9 : decode cX2_hasWord 9 = .ok (.if_icmp .ge 7, 3) := by decide +kernel
theorem dX2_hasWord_12 : decode cX2_hasWord 12 = .ok (.iconst 1, 1) := by decide +kernel
theorem dX2_hasWord_13 : decode cX2_hasWord 13 = .ok (.goto 4, 3) := by decide +kernel
theorem dX2_hasWord_16 : decode cX2_hasWord 16 = .ok (.iconst 0, 1) := by decide +kernel
theorem dX2_hasWord_17 : decode cX2_hasWord 17 = .ok (.ireturn, 1) := by decide +kernel
theorem dX2_hasWords_0 : decode cX2_hasWords 0 = .ok (.iload_n 1, 1) := by decide +kernel
theorem dX2_hasWords_1 : decode cX2_hasWords 1 = .ok (.ifCond .lt 15, 3) := by decide +kernel
theorem dX2_hasWords_4 : decode cX2_hasWords 4 = .ok (.iload_n 1, 1) := by decide +kernel
theorem dX2_hasWords_5 : decode cX2_hasWords 5 = .ok (.aload_n 0, 1) := by decide +kernel
theorem dX2_hasWords_6 : decode cX2_hasWords 6 = .ok (.invokevirtual 62, 3) := by decide +kernel
theorem dX2_hasWords_9 : decode cX2_hasWords 9 = .ok (.if_icmp .gt 7, 3) := by decide +kernel
theorem dX2_hasWords_12 : decode cX2_hasWords 12 = .ok (.iconst 1, 1) := by decide +kernel
theorem dX2_hasWords_13 : decode cX2_hasWords 13 = .ok (.goto 4, 3) := by decide +kernel
theorem dX2_hasWords_16 : decode cX2_hasWords 16 = .ok (.iconst 0, 1) := by decide +kernel
theorem dX2_hasWords_17 : decode cX2_hasWords 17 = .ok (.ireturn, 1) := by decide +kernel
theorem dX2_hasBird_0 : decode cX2_hasBird 0 = .ok (.iload_n 1, 1) := by decide +kernel
theorem dX2_hasBird_1 : decode cX2_hasBird 1 = .ok (.ifCond .lt 15, 3) := by decide +kernel
theorem dX2_hasBird_4 : decode cX2_hasBird 4 = .ok (.iload_n 1, 1) := by decide +kernel
theorem dX2_hasBird_5 : decode cX2_hasBird 5 = .ok (.aload_n 0, 1) := by decide +kernel
theorem dX2_hasBird_6 : decode cX2_hasBird 6 = .ok (.getfield 53, 3) := by decide +kernel
theorem dX2_hasBird_9 : decode cX2_hasBird 9 = .ok (.if_icmp .ge 7, 3) := by decide +kernel
theorem dX2_hasBird_12 : decode cX2_hasBird 12 = .ok (.iconst 1, 1) := by decide +kernel
theorem dX2_hasBird_13 : decode cX2_hasBird 13 = .ok (.goto 4, 3) := by decide +kernel
theorem dX2_hasBird_16 : decode cX2_hasBird 16 = .ok (.iconst 0, 1) := by decide +kernel
theorem dX2_hasBird_17 : decode cX2_hasBird 17 = .ok (.ireturn, 1) := by decide +kernel
theorem dX2_addWord_0 : decode cX2_addWord 0 = .ok (.aload_n 0, 1) := by decide +kernel
theorem dX2_addWord_1 : decode cX2_addWord 1 = .ok (.getfield 49, 3) := by decide +kernel
theorem dX2_addWord_4 : decode cX2_addWord 4 = .ok (.bipush 10, 2) := by decide +kernel
theorem dX2_addWord_6 : decode cX2_addWord 6 = .ok (.if_icmp .ge 10, 3) := by decide +kernel
theorem dX2_addWord_9 : decode cX2_addWord 9 = .ok (.iload_n 2, 1) := by decide +kernel
theorem dX2_addWord_10 : decode cX2_addWord 10 = .ok (.invokestatic 66, 3) := by decide +kernel
theorem dX2_addWord_13 : decode cX2_addWord 13 = .ok (.ifCond .ne 4, 3) := by decide +kernel
theorem dX2_addWord_16 : decode cX2_addWord 16 = .ok (.return_, 1) := by decide +kernel
theorem dX2_addWord_17 : decode cX2_addWord 17 = .ok (.aload_n 0, 1) := by decide +kernel
theorem dX2_addWord_18 : decode cX2_addWord 18 = .ok (.getfield 9, 3) := by decide +kernel
theorem dX2_addWord_21 : decode cX2_addWord 21 = .ok (.aload_n 0, 1) := by decide +kernel
theorem dX2_addWord_22 : decode cX2_addWord 22 = .ok (.getfield 49, 3) := by decide +kernel
theorem dX2_addWord_25 : decode cX2_addWord 25 = .ok (.iload_n 1, 1) := by decide +kernel
theorem dX2_addWord_26 : decode cX2_addWord 26 = .ok (.iastore, 1) := by decide +kernel
theorem dX2_addWord_27 : decode cX2_addWord 27 = .ok (.aload_n 0, 1) := by decide +kernel
theorem dX2_addWord_28 : decode cX2_addWord 28 = .ok (.getfield 15, 3) := by decide +kernel
theorem dX2_addWord_31 : decode cX2_addWord 31 = .ok (.aload_n 0, 1) := by decide +kernel
theorem dX2_addWord_32 : decode cX2_addWord 32 = .ok (.getfield 49, 3) := by decide +kernel
theorem dX2_addWord_35 : decode cX2_addWord 35 = .ok (.iload_n 2, 1) := by decide +kernel
theorem dX2_addWord_36 : decode cX2_addWord 36 = .ok (.iastore, 1) := by decide +kernel
theorem dX2_addWord_37 : decode cX2_addWord 37 = .ok (.aload_n 0, 1) := by decide +kernel
theorem dX2_addWord_38 : decode cX2_addWord 38 = .ok (.getfield 18, 3) := by decide +kernel
theorem dX2_addWord_41 : decode cX2_addWord 41 = .ok (.aload_n 0, 1) := by decide +kernel
theorem dX2_addWord_42 : decode cX2_addWord 42 = .ok (.getfield 49, 3) := by decide +kernel
theorem dX2_addWord_45 : decode cX2_addWord 45 = .ok (.iload_n 3, 1) := by decide +kernel
theorem dX2_addWord_46 : decode cX2_addWord 46 = .ok (.iastore, 1) := by decide +kernel
theorem dX2_addWord_47 : decode cX2_addWord 47 = .ok (.aload_n 0, 1) := by decide +kernel
theorem dX2_addWord_48 : decode cX2_addWord 48 = .ok (.dup, 1) := by decide +kernel
theorem dX2_addWord_49 : decode cX2_addWord 49 = .ok (.getfield 49, 3) := by decide +kernel
theorem dX2_addWord_52 : decode cX2_addWord 52 = .ok (.iconst 1, 1) := by decide +kernel
theorem dX2_addWord_53 : decode cX2_addWord 53 = .ok (.iadd, 1) := by decide +kernel
theorem dX2_addWord_54 : decode cX2_addWord 54 = .ok (.putfield 49, 3) := by decide +kernel
theorem dX2_addWord_57 : decode cX2_addWord 57 = .ok (.return_, 1) := by decide +kernel
theorem dX2_addBird_0 : decode cX2_addBird 0 = .ok (.aload_n 0, 1) := by decide +kernel
theorem dX2_addBird_1 : decode cX2_addBird 1 = .ok (.getfield 53, 3) := by decide +kernel
theorem dX2_addBird_4 : decode cX2_addBird 4 = .ok (.iconst 4, 1) := by decide +kernel
theorem dX2_addBird_5 : decode cX2_addBird 5 = .ok (.if_icmp .ge 16, 3) := by decide +kernel
theorem dX2_addBird_8 : decode cX2_addBird 8 = .ok (.iload_n 1, 1) := by decide +kernel
theorem dX2_addBird_9 : decode cX2_addBird 9 = .ok (.ifCond .lt 12, 3) := by decide +kernel
theorem dX2_addBird_12 : decode cX2_addBird 12 = .ok (.iload_n 1, 1) := by decide +kernel
theorem dX2_addBird_13 : decode cX2_addBird 13 = .ok (.aload_n 0, 1) := by decide +kernel
theorem dX2_addBird_14 : decode cX2_addBird 14 = .ok (.getfield 39, 3) := by decide +kernel
theorem dX2_addBird_17 : decode cX2_addBird 17 = .ok (.arraylength, 1) := by decide +kernel
theorem dX2_addBird_18 : decode cX2_addBird 18 = .ok (.if_icmp .lt 4, 3) := by decide +kernel
theorem dX2_addBird_21 : decode cX2_addBird 21 = .ok (.return_, 1) := by decide +kernel
theorem dX2_addBird_22 : decode cX2_addBird 22 = .ok (.aload_n 0, 1) := by decide +kernel
theorem dX2_addBird_23 : decode cX2_addBird 23 = .ok (.getfield 21, 3) := by decide +kernel
theorem dX2_addBird_26 : decode cX2_addBird 26 = .ok (.aload_n 0, 1) := by decide +kernel
theorem dX2_addBird_27 : decode cX2_addBird 27 = .ok (.getfield 53, 3) := by decide +kernel
theorem dX2_addBird_30 : decode cX2_addBird 30 = .ok (.iload_n 1, 1) := by decide +kernel
theorem dX2_addBird_31 : decode cX2_addBird 31 = .ok (.iastore, 1) := by decide +kernel
theorem dX2_addBird_32 : decode cX2_addBird 32 = .ok (.aload_n 0, 1) := by decide +kernel
theorem dX2_addBird_33 : decode cX2_addBird 33 = .ok (.getfield 24, 3) := by decide +kernel
theorem dX2_addBird_36 : decode cX2_addBird 36 = .ok (.aload_n 0, 1) := by decide +kernel
theorem dX2_addBird_37 : decode cX2_addBird 37 = .ok (.getfield 53, 3) := by decide +kernel
theorem dX2_addBird_40 : decode cX2_addBird 40 = .ok (.iload_n 2, 1) := by decide +kernel
theorem dX2_addBird_41 : decode cX2_addBird 41 = .ok (.iastore, 1) := by decide +kernel
theorem dX2_addBird_42 : decode cX2_addBird 42 = .ok (.aload_n 0, 1) := by decide +kernel
theorem dX2_addBird_43 : decode cX2_addBird 43 = .ok (.getfield 27, 3) := by decide +kernel
theorem dX2_addBird_46 : decode cX2_addBird 46 = .ok (.aload_n 0, 1) := by decide +kernel
theorem dX2_addBird_47 : decode cX2_addBird 47 = .ok (.getfield 53, 3) := by decide +kernel
theorem dX2_addBird_50 : decode cX2_addBird 50 = .ok (.iload_n 3, 1) := by decide +kernel
theorem dX2_addBird_51 : decode cX2_addBird 51 = .ok (.iastore, 1) := by decide +kernel
theorem dX2_addBird_52 : decode cX2_addBird 52 = .ok (.aload_n 0, 1) := by decide +kernel
theorem dX2_addBird_53 : decode cX2_addBird 53 = .ok (.getfield 30, 3) := by decide +kernel
theorem dX2_addBird_56 : decode cX2_addBird 56 = .ok (.aload_n 0, 1) := by decide +kernel
theorem dX2_addBird_57 : decode cX2_addBird 57 = .ok (.getfield 53, 3) := by decide +kernel
theorem dX2_addBird_60 : decode cX2_addBird 60 = .ok (.iload 4, 2) := by decide +kernel
theorem dX2_addBird_62 : decode cX2_addBird 62 = .ok (.iastore, 1) := by decide +kernel
theorem dX2_addBird_63 : decode cX2_addBird 63 = .ok (.aload_n 0, 1) := by decide +kernel
theorem dX2_addBird_64 : decode cX2_addBird 64 = .ok (.dup, 1) := by decide +kernel
theorem dX2_addBird_65 : decode cX2_addBird 65 = .ok (.getfield 53, 3) := by decide +kernel
theorem dX2_addBird_68 : decode cX2_addBird 68 = .ok (.iconst 1, 1) := by decide +kernel
theorem dX2_addBird_69 : decode cX2_addBird 69 = .ok (.iadd, 1) := by decide +kernel
theorem dX2_addBird_70 : decode cX2_addBird 70 = .ok (.putfield 53, 3) := by decide +kernel
theorem dX2_addBird_73 : decode cX2_addBird 73 = .ok (.return_, 1) := by decide +kernel
theorem dX2_keepAway_0 : decode cX2_keepAway 0 = .ok (.aload_n 0, 1) := by decide +kernel
theorem dX2_keepAway_1 : decode cX2_keepAway 1 = .ok (.getfield 27, 3) := by decide +kernel
theorem dX2_keepAway_4 : decode cX2_keepAway 4 = .ok (.iload_n 1, 1) := by decide +kernel
theorem dX2_keepAway_5 : decode cX2_keepAway 5 = .ok (.bipush 8, 2) := by decide +kernel
theorem dX2_keepAway_7 : decode cX2_keepAway 7 = .ok (.iastore, 1) := by decide +kernel
theorem dX2_keepAway_8 : decode cX2_keepAway 8 = .ok (.return_, 1) := by decide +kernel
theorem dX2_setBitter_0 : decode cX2_setBitter 0 = .ok (.iload_n 1, 1) := by decide +kernel
theorem dX2_setBitter_1 : decode cX2_setBitter 1 = .ok (.invokestatic 66, 3) := by decide +kernel
theorem dX2_setBitter_4 : decode cX2_setBitter 4 = .ok (.ifCond .eq 10, 3) := by decide +kernel
theorem dX2_setBitter_7 : decode cX2_setBitter 7 = .ok (.aload_n 0, 1) := by decide +kernel
theorem dX2_setBitter_8 : decode cX2_setBitter 8 = .ok (.getfield 33, 3) := by decide +kernel
theorem dX2_setBitter_11 : decode cX2_setBitter 11 = .ok (.iload_n 1, 1) := by decide +kernel
theorem dX2_setBitter_12 : decode cX2_setBitter 12 = .ok (.iload_n 2, 1) := by decide +kernel
theorem dX2_setBitter_13 : decode cX2_setBitter 13 = .ok (.iastore, 1) := by decide +kernel
theorem dX2_setBitter_14 : decode cX2_setBitter 14 = .ok (.return_, 1) := by decide +kernel
theorem dX2_setWatched_0 : decode cX2_setWatched 0 = .ok (.aload_n 0, 1) := by decide +kernel
theorem dX2_setWatched_1 : decode cX2_setWatched 1 = .ok (.iload_n 1, 1) := by decide +kernel
theorem dX2_setWatched_2 : decode cX2_setWatched 2 = .ok (.invokevirtual 70, 3) := by decide +kernel
theorem dX2_setWatched_5 : decode cX2_setWatched 5 = .ok (.ifCond .eq 13, 3) := by decide +kernel
theorem dX2_setWatched_8 : decode cX2_setWatched 8 = .ok (.iload_n 2, 1) := by decide +kernel
theorem dX2_setWatched_9 : decode cX2_setWatched 9 = .ok (.ifCond .lt 9, 3) := by decide +kernel
theorem dX2_setWatched_12 : decode cX2_setWatched 12 = .ok (.iload_n 2, 1) := by decide +kernel
theorem dX2_setWatched_13 : decode cX2_setWatched 13 = .ok (.bipush 8, 2) := by decide +kernel
theorem dX2_setWatched_15 : decode cX2_setWatched 15 = .ok (.if_icmp .lt 4, 3) := by decide +kernel
theorem dX2_setWatched_18 : decode cX2_setWatched 18 = .ok (.return_, 1) := by decide +kernel
theorem dX2_setWatched_19 : decode cX2_setWatched 19 = .ok (.aload_n 0, 1) := by decide +kernel
theorem dX2_setWatched_20 : decode cX2_setWatched 20 = .ok (.getfield 36, 3) := by decide +kernel
theorem dX2_setWatched_23 : decode cX2_setWatched 23 = .ok (.iload_n 2, 1) := by decide +kernel
theorem dX2_setWatched_24 : decode cX2_setWatched 24 = .ok (.iaload, 1) := by decide +kernel
theorem dX2_setWatched_25 : decode cX2_setWatched 25 = .ok (.iconst 1, 1) := by decide +kernel
theorem dX2_setWatched_26 : decode cX2_setWatched 26 = .ok (.iload_n 1, 1) := by decide +kernel
theorem dX2_setWatched_27 : decode cX2_setWatched 27 = .ok (.ishl, 1) := by decide +kernel
theorem dX2_setWatched_28 : decode cX2_setWatched 28 = .ok (.iconst (-1), 1) := by decide +kernel
theorem dX2_setWatched_29 : decode cX2_setWatched 29 = .ok (.ixor, 1) := by decide +kernel
theorem dX2_setWatched_30 : decode cX2_setWatched 30 = .ok (.iand, 1) := by decide +kernel
theorem dX2_setWatched_31 : decode cX2_setWatched 31 = .ok (.istore 4, 2) := by decide +kernel
theorem dX2_setWatched_33 : decode cX2_setWatched 33 = .ok (.aload_n 0, 1) := by decide +kernel
theorem dX2_setWatched_34 : decode cX2_setWatched 34 = .ok (.getfield 36, 3) := by decide +kernel
theorem dX2_setWatched_37 : decode cX2_setWatched 37 = .ok (.iload_n 2, 1) := by decide +kernel
theorem dX2_setWatched_38 : decode cX2_setWatched 38 = .ok (.iload_n 3, 1) := by decide +kernel
theorem dX2_setWatched_39 : decode cX2_setWatched 39 = .ok (.ifCond .eq 12, 3) := by decide +kernel
theorem dX2_setWatched_42 : decode cX2_setWatched 42 = .ok (.iload 4, 2) := by decide +kernel
theorem dX2_setWatched_44 : decode cX2_setWatched 44 = .ok (.iconst 1, 1) := by decide +kernel
theorem dX2_setWatched_45 : decode cX2_setWatched 45 = .ok (.iload_n 1, 1) := by decide +kernel
theorem dX2_setWatched_46 : decode cX2_setWatched 46 = .ok (.ishl, 1) := by decide +kernel
theorem dX2_setWatched_47 : decode cX2_setWatched 47 = .ok (.ior, 1) := by decide +kernel
theorem dX2_setWatched_48 : decode cX2_setWatched 48 = .ok (.goto 5, 3) := by decide +kernel
theorem dX2_setWatched_51 : decode cX2_setWatched 51 = .ok (.iload 4, 2) := by decide +kernel
theorem dX2_setWatched_53 : decode cX2_setWatched 53 = .ok (.iastore, 1) := by decide +kernel
theorem dX2_setWatched_54 : decode cX2_setWatched 54 = .ok (.return_, 1) := by decide +kernel
theorem dX2_isWatched_0 : decode cX2_isWatched 0 = .ok (.iload_n 2, 1) := by decide +kernel
theorem dX2_isWatched_1 : decode cX2_isWatched 1 = .ok (.ifCond .lt 27, 3) := by decide +kernel
theorem dX2_isWatched_4 : decode cX2_isWatched 4 = .ok (.iload_n 2, 1) := by decide +kernel
theorem dX2_isWatched_5 : decode cX2_isWatched 5 = .ok (.bipush 8, 2) := by decide +kernel
theorem dX2_isWatched_7 : decode cX2_isWatched 7 = .ok (.if_icmp .ge 21, 3) := by decide +kernel
theorem dX2_isWatched_10 : decode cX2_isWatched 10 = .ok (.aload_n 0, 1) := by decide +kernel
theorem dX2_isWatched_11 : decode cX2_isWatched 11 = .ok (.getfield 36, 3) := by decide +kernel
theorem dX2_isWatched_14 : decode cX2_isWatched 14 = .ok (.iload_n 2, 1) := by decide +kernel
theorem dX2_isWatched_15 : decode cX2_isWatched 15 = .ok (.iaload, 1) := by decide +kernel
theorem dX2_isWatched_16 : decode cX2_isWatched 16 = .ok (.iload_n 1, 1) := by decide +kernel
theorem dX2_isWatched_17 : decode cX2_isWatched 17 = .ok (.ishr, 1) := by decide +kernel
theorem dX2_isWatched_18 : decode cX2_isWatched 18 = .ok (.iconst 1, 1) := by decide +kernel
theorem dX2_isWatched_19 : decode cX2_isWatched 19 = .ok (.iand, 1) := by decide +kernel
theorem dX2_isWatched_20 : decode cX2_isWatched 20 = .ok (.iconst 1, 1) := by decide +kernel
theorem dX2_isWatched_21 : decode cX2_isWatched 21 = .ok (.if_icmp .ne 7, 3) := by decide +kernel
theorem dX2_isWatched_24 : decode cX2_isWatched 24 = .ok (.iconst 1, 1) := by decide +kernel
theorem dX2_isWatched_25 : decode cX2_isWatched 25 = .ok (.goto 4, 3) := by decide +kernel
theorem dX2_isWatched_28 : decode cX2_isWatched 28 = .ok (.iconst 0, 1) := by decide +kernel
theorem dX2_isWatched_29 : decode cX2_isWatched 29 = .ok (.ireturn, 1) := by decide +kernel
theorem dX2_isGone_0 : decode cX2_isGone 0 = .ok (.aload_n 0, 1) := by decide +kernel
theorem dX2_isGone_1 : decode cX2_isGone 1 = .ok (.getfield 56, 3) := by decide +kernel
theorem dX2_isGone_4 : decode cX2_isGone 4 = .ok (.iload_n 1, 1) := by decide +kernel
theorem dX2_isGone_5 : decode cX2_isGone 5 = .ok (.ishr, 1) := by decide +kernel
theorem dX2_isGone_6 : decode cX2_isGone 6 = .ok (.iconst 1, 1) := by decide +kernel
theorem dX2_isGone_7 : decode cX2_isGone 7 = .ok (.iand, 1) := by decide +kernel
theorem dX2_isGone_8 : decode cX2_isGone 8 = .ok (.iconst 1, 1) := by decide +kernel
theorem dX2_isGone_9 : decode cX2_isGone 9 = .ok (.if_icmp .ne 7, 3) := by decide +kernel
theorem dX2_isGone_12 : decode cX2_isGone 12 = .ok (.iconst 1, 1) := by decide +kernel
theorem dX2_isGone_13 : decode cX2_isGone 13 = .ok (.goto 4, 3) := by decide +kernel
theorem dX2_isGone_16 : decode cX2_isGone 16 = .ok (.iconst 0, 1) := by decide +kernel
theorem dX2_isGone_17 : decode cX2_isGone 17 = .ok (.ireturn, 1) := by decide +kernel
theorem dX2_strength_0 : decode cX2_strength 0 = .ok (.aload_n 0, 1) := by decide +kernel
theorem dX2_strength_1 : decode cX2_strength 1 = .ok (.getfield 9, 3) := by decide +kernel
theorem dX2_strength_4 : decode cX2_strength 4 = .ok (.iload_n 1, 1) := by decide +kernel
theorem dX2_strength_5 : decode cX2_strength 5 = .ok (.iaload, 1) := by decide +kernel
theorem dX2_strength_6 : decode cX2_strength 6 = .ok (.aload_n 0, 1) := by decide +kernel
theorem dX2_strength_7 : decode cX2_strength 7 = .ok (.getfield 33, 3) := by decide +kernel
theorem dX2_strength_10 : decode cX2_strength 10 = .ok (.aload_n 0, 1) := by decide +kernel
theorem dX2_strength_11 : decode cX2_strength 11 = .ok (.getfield 15, 3) := by decide +kernel
theorem dX2_strength_14 : decode cX2_strength 14 = .ok (.iload_n 1, 1) := by decide +kernel
theorem dX2_strength_15 : decode cX2_strength 15 = .ok (.iaload, 1) := by decide +kernel
theorem dX2_strength_16 : decode cX2_strength 16 = .ok (.iaload, 1) := by decide +kernel
theorem dX2_strength_17 : decode cX2_strength 17 = .ok (.isub, 1) := by decide +kernel
theorem dX2_strength_18 : decode cX2_strength 18 = .ok (.istore_n 2, 1) := by decide +kernel
theorem dX2_strength_19 : decode cX2_strength 19 = .ok (.iload_n 2, 1) := by decide +kernel
theorem dX2_strength_20 : decode cX2_strength 20 = .ok (.ifCond .ge 7, 3) := by decide +kernel
theorem dX2_strength_23 : decode cX2_strength 23 = .ok (.iconst 0, 1) := by decide +kernel
theorem dX2_strength_24 : decode cX2_strength 24 = .ok (.goto 4, 3) := by decide +kernel
theorem dX2_strength_27 : decode cX2_strength 27 = .ok (.iload_n 2, 1) := by decide +kernel
theorem dX2_strength_28 : decode cX2_strength 28 = .ok (.ireturn, 1) := by decide +kernel
theorem dX2_mayBeEaten_0 : decode cX2_mayBeEaten 0 = .ok (.aload_n 0, 1) := by decide +kernel
theorem dX2_mayBeEaten_1 : decode cX2_mayBeEaten 1 = .ok (.getfield 59, 3) := by decide +kernel
theorem dX2_mayBeEaten_4 : decode cX2_mayBeEaten 4 = .ok (.bipush 8, 2) := by decide +kernel
theorem dX2_mayBeEaten_6 : decode cX2_mayBeEaten 6 = .ok (.if_icmp .ge 36, 3) := by decide +kernel
theorem dX2_mayBeEaten_9 : decode cX2_mayBeEaten 9 = .ok (.aload_n 0, 1) := by decide +kernel
theorem dX2_mayBeEaten_10 : decode cX2_mayBeEaten 10 = .ok (.iload_n 1, 1) := by decide +kernel
theorem dX2_mayBeEaten_11 : decode cX2_mayBeEaten 11 = .ok (.invokevirtual 73, 3) := by decide +kernel
theorem dX2_mayBeEaten_14 : decode cX2_mayBeEaten 14 = .ok (.ifCond .ne 28, 3) := by decide +kernel
theorem dX2_mayBeEaten_17 : decode cX2_mayBeEaten 17 = .ok (.aload_n 0, 1) := by decide +kernel
theorem dX2_mayBeEaten_18 : decode cX2_mayBeEaten 18 = .ok (.iload_n 1, 1) := by decide +kernel
theorem dX2_mayBeEaten_19 : decode cX2_mayBeEaten 19 = .ok (.aload_n 0, 1) := by decide +kernel
theorem dX2_mayBeEaten_20 : decode cX2_mayBeEaten 20 = .ok (.getfield 59, 3) := by decide +kernel
theorem dX2_mayBeEaten_23 : decode cX2_mayBeEaten 23 = .ok (.invokevirtual 76, 3) := by decide +kernel
theorem dX2_mayBeEaten_26 : decode cX2_mayBeEaten 26 = .ok (.ifCond .ne 16, 3) := by decide +kernel
theorem dX2_mayBeEaten_29 : decode cX2_mayBeEaten 29 = .ok (.aload_n 0, 1) := by decide +kernel
theorem dX2_mayBeEaten_30 : decode cX2_mayBeEaten 30 = .ok (.iload_n 1, 1) := by decide +kernel
theorem dX2_mayBeEaten_31 : decode cX2_mayBeEaten 31 = .ok (.invokevirtual 80, 3) := by decide +kernel
theorem dX2_mayBeEaten_34 : decode cX2_mayBeEaten 34 = .ok (.iload_n 2, 1) := by decide +kernel
theorem dX2_mayBeEaten_35 : decode cX2_mayBeEaten 35 = .ok (.if_icmp .lt 7, 3) := by decide +kernel
theorem dX2_mayBeEaten_38 : decode cX2_mayBeEaten 38 = .ok (.iconst 1, 1) := by decide +kernel
theorem dX2_mayBeEaten_39 : decode cX2_mayBeEaten 39 = .ok (.goto 4, 3) := by decide +kernel
theorem dX2_mayBeEaten_42 : decode cX2_mayBeEaten 42 = .ok (.iconst 0, 1) := by decide +kernel
theorem dX2_mayBeEaten_43 : decode cX2_mayBeEaten 43 = .ok (.ireturn, 1) := by decide +kernel
theorem dX2_kindOf_0 : decode cX2_kindOf 0 = .ok (.aload_n 0, 1) := by decide +kernel
theorem dX2_kindOf_1 : decode cX2_kindOf 1 = .ok (.getfield 39, 3) := by decide +kernel
theorem dX2_kindOf_4 : decode cX2_kindOf 4 = .ok (.aload_n 0, 1) := by decide +kernel
theorem dX2_kindOf_5 : decode cX2_kindOf 5 = .ok (.getfield 21, 3) := by decide +kernel
theorem dX2_kindOf_8 : decode cX2_kindOf 8 = .ok (.iload_n 1, 1) := by decide +kernel
theorem dX2_kindOf_9 : decode cX2_kindOf 9 = .ok (.iaload, 1) := by decide +kernel
theorem dX2_kindOf_10 : decode cX2_kindOf 10 = .ok (.aaload, 1) := by decide +kernel
theorem dX2_kindOf_11 : decode cX2_kindOf 11 = .ok (.areturn, 1) := by decide +kernel
theorem dX2_passHour_0 : decode cX2_passHour 0 = .ok (.aload_n 0, 1) := by decide +kernel
theorem dX2_passHour_1 : decode cX2_passHour 1 = .ok (.getfield 59, 3) := by decide +kernel
theorem dX2_passHour_4 : decode cX2_passHour 4 = .ok (.bipush 8, 2) := by decide +kernel
theorem dX2_passHour_6 : decode cX2_passHour 6 = .ok (.if_icmp .lt 5, 3) := by decide +kernel
theorem dX2_passHour_9 : decode cX2_passHour 9 = .ok (.iconst 0, 1) := by decide +kernel
theorem dX2_passHour_10 : decode cX2_passHour 10 = .ok (.ireturn, 1) := by decide +kernel
theorem dX2_passHour_11 : decode cX2_passHour 11 = .ok (.aload_n 0, 1) := by decide +kernel
theorem dX2_passHour_12 : decode cX2_passHour 12 = .ok (.invokevirtual 84, 3) := by decide +kernel
theorem dX2_passHour_15 : decode cX2_passHour 15 = .ok (.istore_n 1, 1) := by decide +kernel
theorem dX2_passHour_16 : decode cX2_passHour 16 = .ok (.iconst 0, 1) := by decide +kernel
theorem dX2_passHour_17 : decode cX2_passHour 17 = .ok (.istore_n 2, 1) := by decide +kernel
theorem dX2_passHour_18 : decode cX2_passHour 18 = .ok (.iload_n 2, 1) := by decide +kernel
theorem dX2_passHour_19 : decode cX2_passHour 19 = .ok (.aload_n 0, 1) := by decide +kernel
theorem dX2_passHour_20 : decode cX2_passHour 20 = .ok (.getfield 53, 3) := by decide +kernel
theorem dX2_passHour_23 : decode cX2_passHour 23 = .ok (.if_icmp .ge 112, 3) := by decide +kernel
theorem dX2_passHour_26 : decode cX2_passHour 26 = .ok (.aload_n 0, 1) := by decide +kernel
theorem dX2_passHour_27 : decode cX2_passHour 27 = .ok (.getfield 27, 3) := by decide +kernel
theorem dX2_passHour_30 : decode cX2_passHour 30 = .ok (.iload_n 2, 1) := by decide +kernel
theorem dX2_passHour_31 : decode cX2_passHour 31 = .ok (.iaload, 1) := by decide +kernel
theorem dX2_passHour_32 : decode cX2_passHour 32 = .ok (.aload_n 0, 1) := by decide +kernel
theorem dX2_passHour_33 : decode cX2_passHour 33 = .ok (.getfield 59, 3) := by decide +kernel
theorem dX2_passHour_36 : decode cX2_passHour 36 = .ok (.if_icmp .gt 20, 3) := by decide +kernel
theorem dX2_passHour_39 : decode cX2_passHour 39 = .ok (.aload_n 0, 1) := by decide +kernel
theorem dX2_passHour_40 : decode cX2_passHour 40 = .ok (.getfield 59, 3) := by decide +kernel
theorem dX2_passHour_43 : decode cX2_passHour 43 = .ok (.aload_n 0, 1) := by decide +kernel
theorem dX2_passHour_44 : decode cX2_passHour 44 = .ok (.getfield 30, 3) := by decide +kernel
theorem dX2_passHour_47 : decode cX2_passHour 47 = .ok (.iload_n 2, 1) := by decide +kernel
theorem dX2_passHour_48 : decode cX2_passHour 48 = .ok (.iaload, 1) := by decide +kernel
theorem dX2_passHour_49 : decode cX2_passHour 49 = .ok (.if_icmp .gt 7, 3) := by decide +kernel
theorem dX2_passHour_52 : decode cX2_passHour 52 = .ok (.iconst 1, 1) := by decide +kernel
theorem dX2_passHour_53 : decode cX2_passHour 53 = .ok (.goto 4, 3) := by decide +kernel
theorem dX2_passHour_56 : decode cX2_passHour 56 = .ok (.iconst 0, 1) := by decide +kernel
theorem dX2_passHour_57 : decode cX2_passHour 57 = .ok (.istore_n 3, 1) := by decide +kernel
theorem dX2_passHour_58 : decode cX2_passHour 58 = .ok (.iload_n 3, 1) := by decide +kernel
theorem dX2_passHour_59 : decode cX2_passHour 59 = .ok (.ifCond .eq 14, 3) := by decide +kernel
theorem dX2_passHour_62 : decode cX2_passHour 62 = .ok (.aload_n 0, 1) := by decide +kernel
theorem dX2_passHour_63 : decode cX2_passHour 63 = .ok (.iload_n 2, 1) := by decide +kernel
theorem dX2_passHour_64 : decode cX2_passHour 64 = .ok (.invokevirtual 87, 3) := by decide +kernel
theorem dX2_passHour_67 : decode cX2_passHour 67 = .ok (.invokevirtual 91, 3) := by decide +kernel
theorem dX2_passHour_70 : decode cX2_passHour 70 = .ok (.goto 4, 3) := by decide +kernel
theorem dX2_passHour_73 : decode cX2_passHour 73 = .ok (.iconst 0, 1) := by decide +kernel
theorem dX2_passHour_74 : decode cX2_passHour 74 = .ok (.istore 4, 2) := by decide +kernel
theorem dX2_passHour_76 : decode cX2_passHour 76 = .ok (.iconst 0, 1) := by decide +kernel
theorem dX2_passHour_77 : decode cX2_passHour 77 = .ok (.istore 5, 2) := by decide +kernel
theorem dX2_passHour_79 : decode cX2_passHour 79 = .ok (.iload 5, 2) := by decide +kernel
theorem dX2_passHour_81 : decode cX2_passHour 81 = .ok (.iload 4, 2) := by decide +kernel
theorem dX2_passHour_83 : decode cX2_passHour 83 = .ok (.if_icmp .ge 46, 3) := by decide +kernel
theorem dX2_passHour_86 : decode cX2_passHour 86 = .ok (.aload_n 0, 1) := by decide +kernel
theorem dX2_passHour_87 : decode cX2_passHour 87 = .ok (.iload_n 2, 1) := by decide +kernel
theorem dX2_passHour_88 : decode cX2_passHour 88 = .ok (.invokevirtual 87, 3) := by decide +kernel
theorem dX2_passHour_91 : decode cX2_passHour 91 = .ok (.aload_n 0, 1) := by decide +kernel
theorem dX2_passHour_92 : decode cX2_passHour 92 = .ok (.aload_n 0, 1) := by decide +kernel
theorem dX2_passHour_93 : decode cX2_passHour 93 = .ok (.getfield 24, 3) := by decide +kernel
theorem dX2_passHour_96 : decode cX2_passHour 96 = .ok (.iload_n 2, 1) := by decide +kernel
theorem dX2_passHour_97 : decode cX2_passHour 97 = .ok (.iaload, 1) := by decide +kernel
theorem dX2_passHour_98 : decode cX2_passHour 98 = .ok (.invokevirtual 96, 3) := by decide +kernel
theorem dX2_passHour_101 : decode cX2_passHour 101 = .ok (.istore 6, 2) := by decide +kernel
theorem dX2_passHour_103 : decode cX2_passHour 103 = .ok (.iload 6, 2) := by decide +kernel
theorem dX2_passHour_105 : decode cX2_passHour 105 = .ok (.bipush (-9), 2) := by decide +kernel
theorem dX2_passHour_107 : decode cX2_passHour 107 = .ok (.if_icmp .eq 16, 3) := by decide +kernel
theorem dX2_passHour_110 : decode cX2_passHour 110 = .ok (.aload_n 0, 1) := by decide +kernel
theorem dX2_passHour_111 : decode cX2_passHour 111 = .ok (.dup, 1) := by decide +kernel
theorem dX2_passHour_112 : decode cX2_passHour 112 = .ok (.getfield 56, 3) := by decide +kernel
theorem dX2_passHour_115 : decode cX2_passHour 115 = .ok (.iconst 1, 1) := by decide +kernel
theorem dX2_passHour_116 : decode cX2_passHour 116 = .ok (.iload 6, 2) := by decide +kernel
theorem dX2_passHour_118 : decode cX2_passHour 118 = .ok (.ishl, 1) := by decide +kernel
theorem dX2_passHour_119 : decode cX2_passHour 119 = .ok (.ior, 1) := by decide +kernel
theorem dX2_passHour_120 : decode cX2_passHour 120 = .ok (.putfield 56, 3) := by decide +kernel
theorem dX2_passHour_123 : decode cX2_passHour 123 = .ok (.iinc 5 1, 3) := by decide +kernel
theorem dX2_passHour_126 : decode cX2_passHour 126 = .ok (.goto (-47), 3) := by decide +kernel
theorem dX2_passHour_129 : decode cX2_passHour 129 = .ok (.iinc 2 1, 3) := by decide +kernel
theorem dX2_passHour_132 : decode cX2_passHour 132 = .ok (.goto (-114), 3) := by decide +kernel
theorem dX2_passHour_135 : decode cX2_passHour 135 = .ok (.aload_n 0, 1) := by decide +kernel
theorem dX2_passHour_136 : decode cX2_passHour 136 = .ok (.dup, 1) := by decide +kernel
theorem dX2_passHour_137 : decode cX2_passHour 137 = .ok (.getfield 59, 3) := by decide +kernel
theorem dX2_passHour_140 : decode cX2_passHour 140 = .ok (.iconst 1, 1) := by decide +kernel
theorem dX2_passHour_141 : decode cX2_passHour 141 = .ok (.iadd, 1) := by decide +kernel
theorem dX2_passHour_142 : decode cX2_passHour 142 = .ok (.putfield 59, 3) := by decide +kernel
theorem dX2_passHour_145 : decode cX2_passHour 145 = .ok (.iload_n 1, 1) := by decide +kernel
theorem dX2_passHour_146 : decode cX2_passHour 146 = .ok (.aload_n 0, 1) := by decide +kernel
theorem dX2_passHour_147 : decode cX2_passHour 147 = .ok (.invokevirtual 84, 3) := by decide +kernel
theorem dX2_passHour_150 : decode cX2_passHour 150 = .ok (.isub, 1) := by decide +kernel
theorem dX2_passHour_151 : decode cX2_passHour 151 = .ok (.ireturn, 1) := by decide +kernel
theorem dX2_passTillDusk_0 : decode cX2_passTillDusk 0 = .ok (.aload_n 0, 1) := by decide +kernel
theorem dX2_passTillDusk_1 : decode cX2_passTillDusk 1 = .ok (.getfield 59, 3) := by decide +kernel
theorem dX2_passTillDusk_4 : decode cX2_passTillDusk 4 = .ok (.istore_n 1, 1) := by decide +kernel
theorem dX2_passTillDusk_5 : decode cX2_passTillDusk 5 = .ok (.iload_n 1, 1) := by decide +kernel
theorem dX2_passTillDusk_6 : decode cX2_passTillDusk 6 = .ok (.bipush 8, 2) := by decide +kernel
theorem dX2_passTillDusk_8 : decode cX2_passTillDusk 8 = .ok (.if_icmp .ge 14, 3) := by decide +kernel
theorem dX2_passTillDusk_11 : decode cX2_passTillDusk 11 = .ok (.aload_n 0, 1) := by decide +kernel
theorem dX2_passTillDusk_12 : decode cX2_passTillDusk 12 = .ok (.invokevirtual 100, 3) := by decide +kernel
theorem dX2_passTillDusk_15 : decode cX2_passTillDusk 15 = .ok (.pop, 1) := by decide +kernel
theorem dX2_passTillDusk_16 : decode cX2_passTillDusk 16 = .ok (.iinc 1 1, 3) := by decide +kernel
theorem dX2_passTillDusk_19 : decode cX2_passTillDusk 19 = .ok (.goto (-14), 3) := by decide +kernel
theorem dX2_passTillDusk_22 : decode cX2_passTillDusk 22 = .ok (.aload_n 0, 1) := by decide +kernel
theorem dX2_passTillDusk_23 : decode cX2_passTillDusk 23 = .ok (.invokevirtual 84, 3) := by decide +kernel
theorem dX2_passTillDusk_26 : decode cX2_passTillDusk 26 = .ok (.ireturn, 1) := by decide +kernel
theorem dX2_hourOfGoing_0 : decode cX2_hourOfGoing 0 = .ok (.aload_n 0, 1) := by decide +kernel
theorem dX2_hourOfGoing_1 : decode cX2_hourOfGoing 1 = .ok (.getfield 59, 3) := by decide +kernel
theorem dX2_hourOfGoing_4 : decode cX2_hourOfGoing 4 = .ok (.istore_n 2, 1) := by decide +kernel
theorem dX2_hourOfGoing_5 : decode cX2_hourOfGoing 5 = .ok (.iload_n 2, 1) := by decide +kernel
theorem dX2_hourOfGoing_6 : decode cX2_hourOfGoing 6 = .ok (.bipush 8, 2) := by decide +kernel
theorem dX2_hourOfGoing_8 : decode cX2_hourOfGoing 8 = .ok (.if_icmp .ge 24, 3) := by decide +kernel
theorem dX2_hourOfGoing_11 : decode cX2_hourOfGoing 11 = .ok (.aload_n 0, 1) := by decide +kernel
theorem dX2_hourOfGoing_12 : decode cX2_hourOfGoing 12 = .ok (.invokevirtual 100, 3) := by decide +kernel
theorem dX2_hourOfGoing_15 : decode cX2_hourOfGoing 15 = .ok (.pop, 1) := by decide +kernel
theorem dX2_hourOfGoing_16 : decode cX2_hourOfGoing 16 = .ok (.aload_n 0, 1) := by decide +kernel
theorem dX2_hourOfGoing_17 : decode cX2_hourOfGoing 17 = .ok (.iload_n 1, 1) := by decide +kernel
theorem dX2_hourOfGoing_18 : decode cX2_hourOfGoing 18 = .ok (.invokevirtual 73, 3) := by decide +kernel
theorem dX2_hourOfGoing_21 : decode cX2_hourOfGoing 21 = .ok (.ifCond .eq 5, 3) := by decide +kernel
theorem dX2_hourOfGoing_24 : decode cX2_hourOfGoing 24 = .ok (.iload_n 2, 1) := by decide +kernel
theorem dX2_hourOfGoing_25 : decode cX2_hourOfGoing 25 = .ok (.ireturn, 1) := by decide +kernel
theorem dX2_hourOfGoing_26 : decode cX2_hourOfGoing 26 = .ok (.iinc 2 1, 3) := by decide +kernel
theorem dX2_hourOfGoing_29 : decode cX2_hourOfGoing 29 = .ok (.goto (-24), 3) := by decide +kernel
theorem dX2_hourOfGoing_32 : decode cX2_hourOfGoing 32 = .ok (.bipush 8, 2) := by decide +kernel
theorem dX2_hourOfGoing_34 : decode cX2_hourOfGoing 34 = .ok (.ireturn, 1) := by decide +kernel
theorem dX2_allWords_0 : decode cX2_allWords 0 = .ok (.iconst 1, 1) := by decide +kernel
theorem dX2_allWords_1 : decode cX2_allWords 1 = .ok (.aload_n 0, 1) := by decide +kernel
theorem dX2_allWords_2 : decode cX2_allWords 2 = .ok (.getfield 49, 3) := by decide +kernel
theorem dX2_allWords_5 : decode cX2_allWords 5 = .ok (.ishl, 1) := by decide +kernel
theorem dX2_allWords_6 : decode cX2_allWords 6 = .ok (.iconst 1, 1) := by decide +kernel
theorem dX2_allWords_7 : decode cX2_allWords 7 = .ok (.isub, 1) := by decide +kernel
theorem dX2_allWords_8 : decode cX2_allWords 8 = .ok (.ireturn, 1) := by decide +kernel
theorem dX2_leftWords_0 : decode cX2_leftWords 0 = .ok (.aload_n 0, 1) := by decide +kernel
theorem dX2_leftWords_1 : decode cX2_leftWords 1 = .ok (.invokevirtual 62, 3) := by decide +kernel
theorem dX2_leftWords_4 : decode cX2_leftWords 4 = .ok (.aload_n 0, 1) := by decide +kernel
theorem dX2_leftWords_5 : decode cX2_leftWords 5 = .ok (.getfield 56, 3) := by decide +kernel
theorem dX2_leftWords_8 : decode cX2_leftWords 8 = .ok (.iconst (-1), 1) := by decide +kernel
theorem dX2_leftWords_9 : decode cX2_leftWords 9 = .ok (.ixor, 1) := by decide +kernel
theorem dX2_leftWords_10 : decode cX2_leftWords 10 = .ok (.iand, 1) := by decide +kernel
theorem dX2_leftWords_11 : decode cX2_leftWords 11 = .ok (.ireturn, 1) := by decide +kernel
theorem dX2_countLeft_0 : decode cX2_countLeft 0 = .ok (.aload_n 0, 1) := by decide +kernel
theorem dX2_countLeft_1 : decode cX2_countLeft 1 = .ok (.invokevirtual 103, 3) := by decide +kernel
theorem dX2_countLeft_4 : decode cX2_countLeft 4 = .ok (.invokestatic 106, 3) := by decide +kernel
theorem dX2_countLeft_7 : decode cX2_countLeft 7 = .ok (.ireturn, 1) := by decide +kernel
theorem dX2_countLeftOf_0 : decode cX2_countLeftOf 0 = .ok (.iconst 0, 1) := by decide +kernel
theorem dX2_countLeftOf_1 : decode cX2_countLeftOf 1 = .ok (.istore_n 2, 1) := by decide +kernel
theorem dX2_countLeftOf_2 : decode cX2_countLeftOf 2 = .ok (.iconst 0, 1) := by decide +kernel
theorem dX2_countLeftOf_3 : decode cX2_countLeftOf 3 = .ok (.istore_n 3, 1) := by decide +kernel
theorem dX2_countLeftOf_4 : decode cX2_countLeftOf 4 = .ok (.iload_n 3, 1) := by decide +kernel
theorem dX2_countLeftOf_5 : decode cX2_countLeftOf 5 = .ok (.aload_n 0, 1) := by decide +kernel
theorem dX2_countLeftOf_6 : decode cX2_countLeftOf 6 = .ok (.getfield 49, 3) := by decide +kernel
theorem dX2_countLeftOf_9 : decode cX2_countLeftOf 9 = .ok (.if_icmp .ge 30, 3) := by decide +kernel
theorem dX2_countLeftOf_12 : decode cX2_countLeftOf 12 = .ok (.aload_n 0, 1) := by decide +kernel
theorem dX2_countLeftOf_13 : decode cX2_countLeftOf 13 = .ok (.iload_n 3, 1) := by decide +kernel
theorem dX2_countLeftOf_14 : decode cX2_countLeftOf 14 = .ok (.invokevirtual 73, 3) := by decide +kernel
theorem dX2_countLeftOf_17 : decode cX2_countLeftOf 17 = .ok (.ifCond .ne 16, 3) := by decide +kernel
theorem dX2_countLeftOf_20 : decode cX2_countLeftOf 20 = .ok (.aload_n 0, 1) := by decide +kernel
theorem dX2_countLeftOf_21 : decode cX2_countLeftOf 21 = .ok (.getfield 18, 3) := by decide +kernel
theorem dX2_countLeftOf_24 : decode cX2_countLeftOf 24 = .ok (.iload_n 3, 1) := by decide +kernel
theorem dX2_countLeftOf_25 : decode cX2_countLeftOf 25 = .ok (.iaload, 1) := by decide +kernel
theorem dX2_countLeftOf_26 : decode cX2_countLeftOf 26 = .ok (.iload_n 1, 1) := by decide +kernel
theorem dX2_countLeftOf_27 : decode cX2_countLeftOf 27 = .ok (.if_icmp .ne 6, 3) := by decide +kernel
theorem dX2_countLeftOf_30 : decode cX2_countLeftOf 30 = .ok (.iinc 2 1, 3) := by decide +kernel
theorem dX2_countLeftOf_33 : decode cX2_countLeftOf 33 = .ok (.iinc 3 1, 3) := by decide +kernel
theorem dX2_countLeftOf_36 : decode cX2_countLeftOf 36 = .ok (.goto (-32), 3) := by decide +kernel
theorem dX2_countLeftOf_39 : decode cX2_countLeftOf 39 = .ok (.iload_n 2, 1) := by decide +kernel
theorem dX2_countLeftOf_40 : decode cX2_countLeftOf 40 = .ok (.ireturn, 1) := by decide +kernel
theorem dX2_leftMeanings_0 : decode cX2_leftMeanings 0 = .ok (.iconst 0, 1) := by decide +kernel
theorem dX2_leftMeanings_1 : decode cX2_leftMeanings 1 = .ok (.istore_n 1, 1) := by decide +kernel
theorem dX2_leftMeanings_2 : decode cX2_leftMeanings 2 = .ok (.iconst 0, 1) := by decide +kernel
theorem dX2_leftMeanings_3 : decode cX2_leftMeanings 3 = .ok (.istore_n 2, 1) := by decide +kernel
theorem dX2_leftMeanings_4 : decode cX2_leftMeanings 4 = .ok (.iload_n 2, 1) := by decide +kernel
theorem dX2_leftMeanings_5 : decode cX2_leftMeanings 5 = .ok (.aload_n 0, 1) := by decide +kernel
theorem dX2_leftMeanings_6 : decode cX2_leftMeanings 6 = .ok (.getfield 49, 3) := by decide +kernel
theorem dX2_leftMeanings_9 : decode cX2_leftMeanings 9 = .ok (.if_icmp .ge 28, 3) := by decide +kernel
theorem dX2_leftMeanings_12 : decode cX2_leftMeanings 12 = .ok (.aload_n 0, 1) := by decide +kernel
theorem dX2_leftMeanings_13 : decode cX2_leftMeanings 13 = .ok (.iload_n 2, 1) := by decide +kernel
theorem dX2_leftMeanings_14 : decode cX2_leftMeanings 14 = .ok (.invokevirtual 73, 3) := by decide +kernel
theorem dX2_leftMeanings_17 : decode cX2_leftMeanings 17 = .ok (.ifCond .ne 14, 3) := by decide +kernel
theorem dX2_leftMeanings_20 : decode cX2_leftMeanings 20 = .ok (.iload_n 1, 1) := by decide +kernel
theorem dX2_leftMeanings_21 : decode cX2_leftMeanings 21 = .ok (.iconst 1, 1) := by decide +kernel
theorem dX2_leftMeanings_22 : decode cX2_leftMeanings 22 = .ok (.aload_n 0, 1) := by decide +kernel
theorem dX2_leftMeanings_23 : decode cX2_leftMeanings 23 = .ok (.getfield 18, 3) := by decide +kernel
theorem dX2_leftMeanings_26 : decode cX2_leftMeanings 26 = .ok (.iload_n 2, 1) := by decide +kernel
theorem dX2_leftMeanings_27 : decode cX2_leftMeanings 27 = .ok (.iaload, 1) := by decide +kernel
theorem dX2_leftMeanings_28 : decode cX2_leftMeanings 28 = .ok (.ishl, 1) := by decide +kernel
theorem dX2_leftMeanings_29 : decode cX2_leftMeanings 29 = .ok (.ior, 1) := by decide +kernel
theorem dX2_leftMeanings_30 : decode cX2_leftMeanings 30 = .ok (.istore_n 1, 1) := by decide +kernel
theorem dX2_leftMeanings_31 : decode cX2_leftMeanings 31 = .ok (.iinc 2 1, 3) := by decide +kernel
theorem dX2_leftMeanings_34 : decode cX2_leftMeanings 34 = .ok (.goto (-30), 3) := by decide +kernel
theorem dX2_leftMeanings_37 : decode cX2_leftMeanings 37 = .ok (.iload_n 1, 1) := by decide +kernel
theorem dX2_leftMeanings_38 : decode cX2_leftMeanings 38 = .ok (.ireturn, 1) := by decide +kernel
theorem dX2_strengthLeft_0 : decode cX2_strengthLeft 0 = .ok (.iconst 0, 1) := by decide +kernel
theorem dX2_strengthLeft_1 : decode cX2_strengthLeft 1 = .ok (.istore_n 1, 1) := by decide +kernel
theorem dX2_strengthLeft_2 : decode cX2_strengthLeft 2 = .ok (.iconst 0, 1) := by decide +kernel
theorem dX2_strengthLeft_3 : decode cX2_strengthLeft 3 = .ok (.istore_n 2, 1) := by decide +kernel
theorem dX2_strengthLeft_4 : decode cX2_strengthLeft 4 = .ok (.iload_n 2, 1) := by decide +kernel
theorem dX2_strengthLeft_5 : decode cX2_strengthLeft 5 = .ok (.aload_n 0, 1) := by decide +kernel
theorem dX2_strengthLeft_6 : decode cX2_strengthLeft 6 = .ok (.getfield 49, 3) := by decide +kernel
theorem dX2_strengthLeft_9 : decode cX2_strengthLeft 9 = .ok (.if_icmp .ge 25, 3) := by decide +kernel
theorem dX2_strengthLeft_12 : decode cX2_strengthLeft 12 = .ok (.aload_n 0, 1) := by decide +kernel
theorem dX2_strengthLeft_13 : decode cX2_strengthLeft 13 = .ok (.iload_n 2, 1) := by decide +kernel
theorem dX2_strengthLeft_14 : decode cX2_strengthLeft 14 = .ok (.invokevirtual 73, 3) := by decide +kernel
theorem dX2_strengthLeft_17 : decode cX2_strengthLeft 17 = .ok (.ifCond .ne 11, 3) := by decide +kernel
theorem dX2_strengthLeft_20 : decode cX2_strengthLeft 20 = .ok (.iload_n 1, 1) := by decide +kernel
theorem dX2_strengthLeft_21 : decode cX2_strengthLeft 21 = .ok (.aload_n 0, 1) := by decide +kernel
theorem dX2_strengthLeft_22 : decode cX2_strengthLeft 22 = .ok (.iload_n 2, 1) := by decide +kernel
theorem dX2_strengthLeft_23 : decode cX2_strengthLeft 23 = .ok (.invokevirtual 80, 3) := by decide +kernel
theorem dX2_strengthLeft_26 : decode cX2_strengthLeft 26 = .ok (.iadd, 1) := by decide +kernel
theorem dX2_strengthLeft_27 : decode cX2_strengthLeft 27 = .ok (.istore_n 1, 1) := by decide +kernel
theorem dX2_strengthLeft_28 : decode cX2_strengthLeft 28 = .ok (.iinc 2 1, 3) := by decide +kernel
theorem dX2_strengthLeft_31 : decode cX2_strengthLeft 31 = .ok (.goto (-27), 3) := by decide +kernel
theorem dX2_strengthLeft_34 : decode cX2_strengthLeft 34 = .ok (.iload_n 1, 1) := by decide +kernel
theorem dX2_strengthLeft_35 : decode cX2_strengthLeft 35 = .ok (.ireturn, 1) := by decide +kernel
theorem dX2_placeOtherThan_0 : decode cX2_placeOtherThan 0 = .ok (.iconst 0, 1) := by decide +kernel
theorem dX2_placeOtherThan_1 : decode cX2_placeOtherThan 1 = .ok (.istore_n 3, 1) := by decide +kernel
theorem dX2_placeOtherThan_2 : decode cX2_placeOtherThan 2 = .ok (.iconst 0, 1) := by decide +kernel
theorem dX2_placeOtherThan_3 : decode cX2_placeOtherThan 3 = .ok (.istore 4, 2) := by decide +kernel
theorem dX2_placeOtherThan_5 : decode cX2_placeOtherThan 5 = .ok (.iload 4, 2) := by decide +kernel
theorem dX2_placeOtherThan_7 : decode cX2_placeOtherThan 7 = .ok (.aload_n 0, 1) := by decide +kernel
theorem dX2_placeOtherThan_8 : decode cX2_placeOtherThan 8 = .ok (.getfield 49, 3) := by decide +kernel
theorem dX2_placeOtherThan_11 : decode cX2_placeOtherThan 11 = .ok (.if_icmp .ge 44, 3) := by decide +kernel
theorem dX2_placeOtherThan_14 : decode cX2_placeOtherThan 14 = .ok (.aload_n 0, 1) := by decide +kernel
theorem dX2_placeOtherThan_15 : decode cX2_placeOtherThan 15 = .ok (.iload 4, 2) := by decide +kernel
theorem dX2_placeOtherThan_17 : decode cX2_placeOtherThan 17 = .ok (.invokevirtual 73, 3) := by decide +kernel
theorem dX2_placeOtherThan_20 : decode cX2_placeOtherThan 20 = .ok (.ifCond .eq 6, 3) := by decide +kernel
theorem dX2_placeOtherThan_23 : decode cX2_placeOtherThan 23 = .ok (.goto 26, 3) := by decide +kernel
theorem dX2_placeOtherThan_26 : decode cX2_placeOtherThan 26 = .ok (.iload_n 3, 1) := by decide +kernel
theorem dX2_placeOtherThan_27 : decode cX2_placeOtherThan 27 = .ok (.iload_n 2, 1) := by decide +kernel
theorem dX2_placeOtherThan_28 : decode cX2_placeOtherThan 28 = .ok (.if_icmp .ge 16, 3) := by decide +kernel
theorem dX2_placeOtherThan_31 : decode cX2_placeOtherThan 31 = .ok (.aload_n 1, 1) := by decide +kernel
theorem dX2_placeOtherThan_32 : decode cX2_placeOtherThan 32 = .ok (.iload_n 3, 1) := by decide +kernel
theorem dX2_placeOtherThan_33 : decode cX2_placeOtherThan 33 = .ok (.iaload, 1) := by decide +kernel
theorem dX2_placeOtherThan_34 : decode cX2_placeOtherThan 34 = .ok (.aload_n 0, 1) := by decide +kernel
theorem dX2_placeOtherThan_35 : decode cX2_placeOtherThan 35 = .ok (.getfield 18, 3) := by decide +kernel
theorem dX2_placeOtherThan_38 : decode cX2_placeOtherThan 38 = .ok (.iload 4, 2) := by decide +kernel
theorem dX2_placeOtherThan_40 : decode cX2_placeOtherThan 40 = .ok (.iaload, 1) := by decide +kernel
theorem dX2_placeOtherThan_41 : decode cX2_placeOtherThan 41 = .ok (.if_icmp .eq 5, 3) := by decide +kernel
theorem dX2_placeOtherThan_44 : decode cX2_placeOtherThan 44 = .ok (.iload_n 3, 1) := by decide +kernel
theorem dX2_placeOtherThan_45 : decode cX2_placeOtherThan 45 = .ok (.ireturn, 1) := by decide +kernel
theorem dX2_placeOtherThan_46 : decode cX2_placeOtherThan 46 = .ok (.iinc 3 1, 3) := by decide +kernel
theorem dX2_placeOtherThan_49 : decode cX2_placeOtherThan 49 = .ok (.iinc 4 1, 3) := by decide +kernel
theorem dX2_placeOtherThan_52 : decode cX2_placeOtherThan 52 = .ok (.goto (-47), 3) := by decide +kernel
theorem dX2_placeOtherThan_55 : decode cX2_placeOtherThan 55 = .ok (.iload_n 3, 1) := by decide +kernel
theorem dX2_placeOtherThan_56 : decode cX2_placeOtherThan 56 = .ok (.iload_n 2, 1) := by decide +kernel
theorem dX2_placeOtherThan_57 : decode cX2_placeOtherThan 57 = .ok (.if_icmp .ge 7, 3) := by decide +kernel
theorem dX2_placeOtherThan_60 : decode cX2_placeOtherThan 60 = .ok (.iload_n 3, 1) := by decide +kernel
theorem dX2_placeOtherThan_61 : decode cX2_placeOtherThan 61 = .ok (.goto 5, 3) := by decide +kernel
theorem dX2_placeOtherThan_64 : decode cX2_placeOtherThan 64 = .ok (.bipush (-9), 2) := by decide +kernel
theorem dX2_placeOtherThan_66 : decode cX2_placeOtherThan 66 = .ok (.ireturn, 1) := by decide +kernel
theorem dX3_init_0 : decode cX3_init 0 = .ok (.aload_n 0, 1) := by decide +kernel
theorem dX3_init_1 : decode cX3_init 1 = .ok (.invokespecial 1, 3) := by decide +kernel
theorem dX3_init_4 : decode cX3_init 4 = .ok (.return_, 1) := by decide +kernel
theorem dX3_meals_0 : decode cX3_meals 0 = .ok (.iconst 2, 1) := by decide +kernel
theorem dX3_meals_1 : decode cX3_meals 1 = .ok (.ireturn, 1) := by decide +kernel
theorem dX4_init_0 : decode cX4_init 0 = .ok (.aload_n 0, 1) := by decide +kernel
theorem dX4_init_1 : decode cX4_init 1 = .ok (.invokespecial 3, 3) := by decide +kernel
theorem dX4_init_4 : decode cX4_init 4 = .ok (.aload_n 0, 1) := by decide +kernel
theorem dX4_init_5 : decode cX4_init 5 = .ok (.bipush 80, 2) := by decide +kernel
theorem dX4_init_7 : decode cX4_init 7 = .ok (.newarray .char, 2) := by decide +kernel
theorem dX4_init_9 : decode cX4_init 9 = .ok (.putfield 9, 3) := by decide +kernel
theorem dX4_init_12 : decode cX4_init 12 = .ok (.return_, 1) := by decide +kernel
theorem dX4_isFull_0 : decode cX4_isFull 0 = .ok (.aload_n 0, 1) := by decide +kernel
theorem dX4_isFull_1 : decode cX4_isFull 1 = .ok (.getfield 15, 3) := by decide +kernel
theorem dX4_isFull_4 : decode cX4_isFull 4 = .ok (.bipush 80, 2) := by decide +kernel
theorem dX4_isFull_6 : decode cX4_isFull 6 = .ok (.if_icmp .lt 7, 3) := by decide +kernel
theorem dX4_isFull_9 : decode cX4_isFull 9 = .ok (.iconst 1, 1) := by decide +kernel
theorem dX4_isFull_10 : decode cX4_isFull 10 = .ok (.goto 4, 3) := by decide +kernel
theorem dX4_isFull_13 : decode cX4_isFull 13 = .ok (.iconst 0, 1) := by decide +kernel
theorem dX4_isFull_14 : decode cX4_isFull 14 = .ok (.ireturn, 1) := by decide +kernel
theorem dX4_add_0 : decode cX4_add 0 = .ok (.aload_n 0, 1) := by decide +kernel
theorem dX4_add_1 : decode cX4_add 1 = .ok (.invokevirtual 19, 3) := by decide +kernel
theorem dX4_add_4 : decode cX4_add 4 = .ok (.ifCond .eq 8, 3) := by decide +kernel
theorem dX4_add_7 : decode cX4_add 7 = .ok (.aload_n 0, 1) := by decide +kernel
theorem dX4_add_8 : decode cX4_add 8 = .ok (.getfield 15, 3) := by decide +kernel
theorem dX4_add_11 : decode cX4_add 11 = .ok (.ireturn, 1) := by decide +kernel
theorem dX4_add_12 : decode cX4_add 12 = .ok (.aload_n 0, 1) := by decide +kernel
theorem dX4_add_13 : decode cX4_add 13 = .ok (.getfield 9, 3) := by decide +kernel
theorem dX4_add_16 : decode cX4_add 16 = .ok (.aload_n 0, 1) := by decide +kernel
theorem dX4_add_17 : decode cX4_add 17 = .ok (.getfield 15, 3) := by decide +kernel
theorem dX4_add_20 : decode cX4_add 20 = .ok (.iload_n 1, 1) := by decide +kernel
theorem dX4_add_21 : decode cX4_add 21 = .ok (.castore, 1) := by decide +kernel
theorem dX4_add_22 : decode cX4_add 22 = .ok (.aload_n 0, 1) := by decide +kernel
theorem dX4_add_23 : decode cX4_add 23 = .ok (.dup, 1) := by decide +kernel
theorem dX4_add_24 : decode cX4_add 24 = .ok (.getfield 15, 3) := by decide +kernel
theorem dX4_add_27 : decode cX4_add 27 = .ok (.iconst 1, 1) := by decide +kernel
theorem dX4_add_28 : decode cX4_add 28 = .ok (.iadd, 1) := by decide +kernel
theorem dX4_add_29 : decode cX4_add 29 = .ok (.putfield 15, 3) := by decide +kernel
theorem dX4_add_32 : decode cX4_add 32 = .ok (.aload_n 0, 1) := by decide +kernel
theorem dX4_add_33 : decode cX4_add 33 = .ok (.getfield 15, 3) := by decide +kernel
theorem dX4_add_36 : decode cX4_add 36 = .ok (.ireturn, 1) := by decide +kernel
theorem dX4_clear_0 : decode cX4_clear 0 = .ok (.aload_n 0, 1) := by decide +kernel
theorem dX4_clear_1 : decode cX4_clear 1 = .ok (.iconst 0, 1) := by decide +kernel
theorem dX4_clear_2 : decode cX4_clear 2 = .ok (.putfield 15, 3) := by decide +kernel
theorem dX4_clear_5 : decode cX4_clear 5 = .ok (.return_, 1) := by decide +kernel
theorem dX4_fault_0 : decode cX4_fault 0 = .ok (.aload_n 0, 1) := by decide +kernel
theorem dX4_fault_1 : decode cX4_fault 1 = .ok (.invokevirtual 23, 3) := by decide +kernel
theorem dX4_fault_4 : decode cX4_fault 4 = .ok (.istore_n 3, 1) := by decide +kernel
theorem dX4_fault_5 : decode cX4_fault 5 = .ok (.iload_n 3, 1) := by decide +kernel
theorem dX4_fault_6 : decode cX4_fault 6 = .ok (.bipush (-9), 2) := by decide +kernel
theorem dX4_fault_8 : decode cX4_fault 8 = .ok (.if_icmp .eq 9, 3) := by decide +kernel
theorem dX4_fault_11 : decode cX4_fault 11 = .ok (.sipush (-1000), 3) := by decide +kernel
theorem dX4_fault_14 : decode cX4_fault 14 = .ok (.iload_n 3, 1) := by decide +kernel
theorem dX4_fault_15 : decode cX4_fault 15 = .ok (.isub, 1) := by decide +kernel
theorem dX4_fault_16 : decode cX4_fault 16 = .ok (.ireturn, 1) := by decide +kernel
theorem dX4_fault_17 : decode cX4_fault 17 = .ok (.aload_n 0, 1) := by decide +kernel
theorem dX4_fault_18 : decode cX4_fault 18 = .ok (.iload_n 1, 1) := by decide +kernel
theorem dX4_fault_19 : decode cX4_fault 19 = .ok (.iload_n 2, 1) := by decide +kernel
theorem dX4_fault_20 : decode cX4_fault 20 = .ok (.invokevirtual 27, 3) := by decide +kernel
theorem dX4_fault_23 : decode cX4_fault 23 = .ok (.istore 4, 2) := by decide +kernel
theorem dX4_fault_25 : decode cX4_fault 25 = .ok (.iload 4, 2) := by decide +kernel
theorem dX4_fault_27 : decode cX4_fault 27 = .ok (.bipush (-9), 2) := by decide +kernel
theorem dX4_fault_29 : decode cX4_fault 29 = .ok (.if_icmp .ne 7, 3) := by decide +kernel
theorem dX4_fault_32 : decode cX4_fault 32 = .ok (.iconst 0, 1) := by decide +kernel
theorem dX4_fault_33 : decode cX4_fault 33 = .ok (.goto 9, 3) := by decide +kernel
theorem dX4_fault_36 : decode cX4_fault 36 = .ok (.sipush (-2000), 3) := by decide +kernel
theorem dX4_fault_39 : decode cX4_fault 39 = .ok (.iload 4, 2) := by decide +kernel
theorem dX4_fault_41 : decode cX4_fault 41 = .ok (.isub, 1) := by decide +kernel
theorem dX4_fault_42 : decode cX4_fault 42 = .ok (.ireturn, 1) := by decide +kernel
theorem dX4_tellTo_0 : decode cX4_tellTo 0 = .ok (.iconst 0, 1) := by decide +kernel
theorem dX4_tellTo_1 : decode cX4_tellTo 1 = .ok (.istore_n 2, 1) := by decide +kernel
theorem dX4_tellTo_2 : decode cX4_tellTo 2 = .ok (.iconst 0, 1) := by decide +kernel
theorem dX4_tellTo_3 : decode cX4_tellTo 3 = .ok (.istore_n 3, 1) := by decide +kernel
theorem dX4_tellTo_4 : decode cX4_tellTo 4 = .ok (.iload_n 3, 1) := by decide +kernel
theorem dX4_tellTo_5 : decode cX4_tellTo 5 = .ok (.aload_n 0, 1) := by decide +kernel
theorem dX4_tellTo_6 : decode cX4_tellTo 6 = .ok (.getfield 15, 3) := by decide +kernel
theorem dX4_tellTo_9 : decode cX4_tellTo 9 = .ok (.if_icmp .ge 29, 3) := by decide +kernel
theorem dX4_tellTo_12 : decode cX4_tellTo 12 = .ok (.aload_n 0, 1) := by decide +kernel
theorem dX4_tellTo_13 : decode cX4_tellTo 13 = .ok (.iload_n 3, 1) := by decide +kernel
theorem dX4_tellTo_14 : decode cX4_tellTo 14 = .ok (.invokevirtual 31, 3) := by decide +kernel
theorem dX4_tellTo_17 : decode cX4_tellTo 17 = .ok (.ifCond .ne 6, 3) := by decide +kernel
theorem dX4_tellTo_20 : decode cX4_tellTo 20 = .ok (.goto 12, 3) := by decide +kernel
theorem dX4_tellTo_23 : decode cX4_tellTo 23 = .ok (.aload_n 0, 1) := by decide +kernel
theorem dX4_tellTo_24 : decode cX4_tellTo 24 = .ok (.iload_n 3, 1) := by decide +kernel
theorem dX4_tellTo_25 : decode cX4_tellTo 25 = .ok (.aload_n 1, 1) := by decide +kernel
theorem dX4_tellTo_26 : decode cX4_tellTo 26 = .ok (.invokevirtual 35, 3) := by decide +kernel
theorem dX4_tellTo_29 : decode cX4_tellTo 29 = .ok (.iinc 2 1, 3) := by decide +kernel
theorem dX4_tellTo_32 : decode cX4_tellTo 32 = .ok (.iinc 3 1, 3) := by decide +kernel
theorem dX4_tellTo_35 : decode cX4_tellTo 35 = .ok (.goto (-31), 3) := by decide +kernel
theorem dX4_tellTo_38 : decode cX4_tellTo 38 = .ok (.iload_n 2, 1) := by decide +kernel
theorem dX4_tellTo_39 : decode cX4_tellTo 39 = .ok (.ireturn, 1) := by decide +kernel
theorem dX4_misspeltPlace_0 : decode cX4_misspeltPlace 0 = .ok (.iconst 0, 1) := by decide +kernel
theorem dX4_misspeltPlace_1 : decode cX4_misspeltPlace 1 = .ok (.istore_n 1, 1) := by decide +kernel
theorem dX4_misspeltPlace_2 : decode cX4_misspeltPlace 2 = .ok (.aload_n 0, 1) := by decide +kernel
theorem dX4_misspeltPlace_3 : decode cX4_misspeltPlace 3 = .ok (.iload_n 1, 1) := by decide +kernel
theorem dX4_misspeltPlace_4 : decode cX4_misspeltPlace 4 = .ok (.invokevirtual 39, 3) := by decide +kernel
theorem dX4_misspeltPlace_7 : decode cX4_misspeltPlace 7 = .ok (.invokestatic 43, 3) := by decide +kernel
theorem dX4_misspeltPlace_10 : decode cX4_misspeltPlace 10 = .ok (.astore_n 2, 1) := by decide +kernel
theorem dX4_misspeltPlace_11 : decode cX4_misspeltPlace 11 = .ok (.aload_n 2, 1) := by decide +kernel
theorem dX4_misspeltPlace_12 : decode cX4_misspeltPlace 12 = .ok (.invokevirtual 47, 3) := by decide +kernel
theorem dX4_misspeltPlace_15 : decode cX4_misspeltPlace 15 = .ok (.ifCond .eq 5, 3) := by decide +kernel
theorem dX4_misspeltPlace_18 : decode cX4_misspeltPlace 18 = .ok (.iload_n 1, 1) := by decide +kernel
theorem dX4_misspeltPlace_19 : decode cX4_misspeltPlace 19 = .ok (.ireturn, 1) := by decide +kernel
theorem dX4_misspeltPlace_20 : decode cX4_misspeltPlace 20 = .ok (.iconst 0, 1) := by decide +kernel
theorem dX4_misspeltPlace_21 : decode cX4_misspeltPlace 21 = .ok (.istore_n 3, 1) := by decide +kernel
theorem dX4_misspeltPlace_22 : decode cX4_misspeltPlace 22 = .ok (.iload_n 3, 1) := by decide +kernel
theorem dX4_misspeltPlace_23 : decode cX4_misspeltPlace 23 = .ok (.aload_n 2, 1) := by decide +kernel
theorem dX4_misspeltPlace_24 : decode cX4_misspeltPlace 24 = .ok (.invokevirtual 52, 3) := by decide +kernel
theorem dX4_misspeltPlace_27 : decode cX4_misspeltPlace 27 = .ok (.if_icmp .ge 30, 3) := by decide +kernel
theorem dX4_misspeltPlace_30 : decode cX4_misspeltPlace 30 = .ok (.iinc 1 1, 3) := by decide +kernel
theorem dX4_misspeltPlace_33 : decode cX4_misspeltPlace 33 = .ok (.aload_n 0, 1) := by decide +kernel
theorem dX4_misspeltPlace_34 : decode cX4_misspeltPlace 34 = .ok (.iload_n 1, 1) := by decide +kernel
theorem dX4_misspeltPlace_35 : decode cX4_misspeltPlace 35 = .ok (.invokevirtual 39, 3) := by decide +kernel
theorem dX4_misspeltPlace_38 : decode cX4_misspeltPlace 38 = .ok (.aload_n 2, 1) := by decide +kernel
theorem dX4_misspeltPlace_39 : decode cX4_misspeltPlace 39 = .ok (.iload_n 3, 1) := by decide +kernel
theorem dX4_misspeltPlace_40 : decode cX4_misspeltPlace 40 = .ok (.invokevirtual 55, 3) := by decide +kernel
theorem dX4_misspeltPlace_43 : decode cX4_misspeltPlace 43 = .ok (.invokestatic 58, 3) := by decide +kernel
theorem dX4_misspeltPlace_46 : decode cX4_misspeltPlace 46 = .ok (.ifCond .ne 5, 3) := by decide +kernel
theorem dX4_misspeltPlace_49 : decode cX4_misspeltPlace 49 = .ok (.iload_n 1, 1) := by decide +kernel
theorem dX4_misspeltPlace_50 : decode cX4_misspeltPlace 50 = .ok (.ireturn, 1) := by decide +kernel
theorem dX4_misspeltPlace_51 : decode cX4_misspeltPlace 51 = .ok (.iinc 3 1, 3) := by decide +kernel
theorem dX4_misspeltPlace_54 : decode cX4_misspeltPlace 54 = .ok (.goto (-32), 3) := by decide +kernel
theorem dX4_misspeltPlace_57 : decode cX4_misspeltPlace 57 = .ok (.iinc 1 1, 3) := by decide +kernel
theorem dX4_misspeltPlace_60 : decode cX4_misspeltPlace 60 = .ok (.iload_n 1, 1) := by decide +kernel
theorem dX4_misspeltPlace_61 : decode cX4_misspeltPlace 61 = .ok (.aload_n 0, 1) := by decide +kernel
theorem dX4_misspeltPlace_62 : decode cX4_misspeltPlace 62 = .ok (.getfield 15, 3) := by decide +kernel
theorem dX4_misspeltPlace_65 : decode cX4_misspeltPlace 65 = .ok (.if_icmp .lt (-63), 3) := by decide +kernel
theorem dX4_misspeltPlace_68 : decode cX4_misspeltPlace 68 = .ok (.bipush (-9), 2) := by decide +kernel
theorem dX4_misspeltPlace_70 : decode cX4_misspeltPlace 70 = .ok (.ireturn, 1) := by decide +kernel
theorem dX4_unfitPlace_0 : decode cX4_unfitPlace 0 = .ok (.iload_n 1, 1) := by decide +kernel
theorem dX4_unfitPlace_1 : decode cX4_unfitPlace 1 = .ok (.istore_n 3, 1) := by decide +kernel
theorem dX4_unfitPlace_2 : decode cX4_unfitPlace 2 = .ok (.iload_n 2, 1) := by decide +kernel
theorem dX4_unfitPlace_3 : decode cX4_unfitPlace 3 = .ok (.istore 4, 2) := by decide +kernel
theorem dX4_unfitPlace_5 : decode cX4_unfitPlace 5 = .ok (.iconst 0, 1) := by decide +kernel
theorem dX4_unfitPlace_6 : decode cX4_unfitPlace 6 = .ok (.istore 5, 2) := by decide +kernel
theorem dX4_unfitPlace_8 : decode cX4_unfitPlace 8 = .ok (.iload 5, 2) := by decide +kernel
theorem dX4_unfitPlace_10 : decode cX4_unfitPlace 10 = .ok (.aload_n 0, 1) := by decide +kernel
theorem dX4_unfitPlace_11 : decode cX4_unfitPlace 11 = .ok (.getfield 15, 3) := by decide +kernel
theorem dX4_unfitPlace_14 : decode cX4_unfitPlace 14 = .ok (.if_icmp .ge 64, 3) := by decide +kernel
theorem dX4_unfitPlace_17 : decode cX4_unfitPlace 17 = .ok (.aload_n 0, 1) := by decide +kernel
theorem dX4_unfitPlace_18 : decode cX4_unfitPlace 18 = .ok (.iload 5, 2) := by decide +kernel
theorem dX4_unfitPlace_20 : decode cX4_unfitPlace 20 = .ok (.invokevirtual 31, 3) := by decide +kernel
theorem dX4_unfitPlace_23 : decode cX4_unfitPlace 23 = .ok (.ifCond .ne 6, 3) := by decide +kernel
theorem dX4_unfitPlace_26 : decode cX4_unfitPlace 26 = .ok (.goto 46, 3) := by decide +kernel
theorem dX4_unfitPlace_29 : decode cX4_unfitPlace 29 = .ok (.aload_n 0, 1) := by decide +kernel
theorem dX4_unfitPlace_30 : decode cX4_unfitPlace 30 = .ok (.iload 5, 2) := by decide +kernel
theorem dX4_unfitPlace_32 : decode cX4_unfitPlace 32 = .ok (.iload_n 3, 1) := by decide +kernel
theorem dX4_unfitPlace_33 : decode cX4_unfitPlace 33 = .ok (.iload 4, 2) := by decide +kernel
theorem dX4_unfitPlace_35 : decode cX4_unfitPlace 35 = .ok (.invokevirtual 62, 3) := by decide +kernel
theorem dX4_unfitPlace_38 : decode cX4_unfitPlace 38 = .ok (.ifCond .ne 6, 3) := by decide +kernel
theorem dX4_unfitPlace_41 : decode cX4_unfitPlace 41 = .ok (.iload 5, 2) := by decide +kernel
theorem dX4_unfitPlace_43 : decode cX4_unfitPlace 43 = .ok (.ireturn, 1) := by decide +kernel
theorem dX4_unfitPlace_44 : decode cX4_unfitPlace 44 = .ok (.aload_n 0, 1) := by decide +kernel
theorem dX4_unfitPlace_45 : decode cX4_unfitPlace 45 = .ok (.iload 5, 2) := by decide +kernel
theorem dX4_unfitPlace_47 : decode cX4_unfitPlace 47 = .ok (.invokevirtual 39, 3) := by decide +kernel
theorem dX4_unfitPlace_50 : decode cX4_unfitPlace 50 = .ok (.bipush 119, 2) := by decide +kernel
theorem dX4_unfitPlace_52 : decode cX4_unfitPlace 52 = .ok (.if_icmp .ne 6, 3) := by decide +kernel
theorem dX4_unfitPlace_55 : decode cX4_unfitPlace 55 = .ok (.iinc 3 1, 3) := by decide +kernel
theorem dX4_unfitPlace_58 : decode cX4_unfitPlace 58 = .ok (.aload_n 0, 1) := by decide +kernel
theorem dX4_unfitPlace_59 : decode cX4_unfitPlace 59 = .ok (.iload 5, 2) := by decide +kernel
theorem dX4_unfitPlace_61 : decode cX4_unfitPlace 61 = .ok (.invokevirtual 39, 3) := by decide +kernel
theorem dX4_unfitPlace_64 : decode cX4_unfitPlace 64 = .ok (.bipush 98, 2) := by decide +kernel
theorem dX4_unfitPlace_66 : decode cX4_unfitPlace 66 = .ok (.if_icmp .ne 6, 3) := by decide +kernel
theorem dX4_unfitPlace_69 : decode cX4_unfitPlace 69 = .ok (.iinc 4 1, 3) := by decide +kernel
theorem dX4_unfitPlace_72 : decode cX4_unfitPlace 72 = .ok (.iinc 5 1, 3) := by decide +kernel
theorem dX4_unfitPlace_75 : decode cX4_unfitPlace 75 = .ok (.goto (-67), 3) := by decide +kernel
theorem dX4_unfitPlace_78 : decode cX4_unfitPlace 78 = .ok (.bipush (-9), 2) := by decide +kernel
theorem dX4_unfitPlace_80 : decode cX4_unfitPlace 80 = .ok (.ireturn, 1) := by decide +kernel
theorem dX4_isFit_0 : decode cX4_isFit 0 = .ok (.aload_n 0, 1) := by decide +kernel
theorem dX4_isFit_1 : decode cX4_isFit 1 = .ok (.iload_n 1, 1) := by decide +kernel
theorem dX4_isFit_2 : decode cX4_isFit 2 = .ok (.invokevirtual 39, 3) := by decide +kernel
theorem dX4_isFit_5 : decode cX4_isFit 5 = .ok (.lookupswitch 102 #[(98, 60), (105, 91), (119, 35)], 35) := by decide +kernel
theorem dX4_isFit_40 : decode cX4_isFit 40 = .ok (.iload_n 2, 1) := by decide +kernel
theorem dX4_isFit_41 : decode cX4_isFit 41 = .ok (.bipush 10, 2) := by decide +kernel
theorem dX4_isFit_43 : decode cX4_isFit 43 = .ok (.if_icmp .ge 20, 3) := by decide +kernel
theorem dX4_isFit_46 : decode cX4_isFit 46 = .ok (.aload_n 0, 1) := by decide +kernel
theorem dX4_isFit_47 : decode cX4_isFit 47 = .ok (.iload_n 1, 1) := by decide +kernel
theorem dX4_isFit_48 : decode cX4_isFit 48 = .ok (.iconst 2, 1) := by decide +kernel
theorem dX4_isFit_49 : decode cX4_isFit 49 = .ok (.iadd, 1) := by decide +kernel
theorem dX4_isFit_50 : decode cX4_isFit 50 = .ok (.invokevirtual 66, 3) := by decide +kernel
theorem dX4_isFit_53 : decode cX4_isFit 53 = .ok (.invokestatic 70, 3) := by decide +kernel
theorem dX4_isFit_56 : decode cX4_isFit 56 = .ok (.ifCond .eq 7, 3) := by decide +kernel
theorem dX4_isFit_59 : decode cX4_isFit 59 = .ok (.iconst 1, 1) := by decide +kernel
theorem dX4_isFit_60 : decode cX4_isFit 60 = .ok (.goto 4, 3) := by decide +kernel
theorem dX4_isFit_63 : decode cX4_isFit 63 = .ok (.iconst 0, 1) := by decide +kernel
theorem dX4_isFit_64 : decode cX4_isFit 64 = .ok (.ireturn, 1) := by decide +kernel
theorem dX4_isFit_65 : decode cX4_isFit 65 = .ok (.iload_n 3, 1) := by decide +kernel
theorem dX4_isFit_66 : decode cX4_isFit 66 = .ok (.iconst 4, 1) := by decide +kernel
theorem dX4_isFit_67 : decode cX4_isFit 67 = .ok (.if_icmp .ge 27, 3) := by decide +kernel
theorem dX4_isFit_70 : decode cX4_isFit 70 = .ok (.aload_n 0, 1) := by decide +kernel
theorem dX4_isFit_71 : decode cX4_isFit 71 = .ok (.iload_n 1, 1) := by decide +kernel
theorem dX4_isFit_72 : decode cX4_isFit 72 = .ok (.iconst 3, 1) := by decide +kernel
theorem dX4_isFit_73 : decode cX4_isFit 73 = .ok (.iadd, 1) := by decide +kernel
theorem dX4_isFit_74 : decode cX4_isFit 74 = .ok (.invokevirtual 66, 3) := by decide +kernel
theorem dX4_isFit_77 : decode cX4_isFit 77 = .ok (.aload_n 0, 1) := by decide +kernel
theorem dX4_isFit_78 : decode cX4_isFit 78 = .ok (.iload_n 1, 1) := by decide +kernel
theorem dX4_isFit_79 : decode cX4_isFit 79 = .ok (.iconst 4, 1) := by decide +kernel
theorem dX4_isFit_80 : decode cX4_isFit 80 = .ok (.iadd, 1) := by decide +kernel
theorem dX4_isFit_81 : decode cX4_isFit 81 = .ok (.invokevirtual 66, 3) := by decide +kernel
theorem dX4_isFit_84 : decode cX4_isFit 84 = .ok (.invokestatic 73, 3) := by decide +kernel
theorem dX4_isFit_87 : decode cX4_isFit 87 = .ok (.ifCond .eq 7, 3) := by decide +kernel
theorem dX4_isFit_90 : decode cX4_isFit 90 = .ok (.iconst 1, 1) := by decide +kernel
theorem dX4_isFit_91 : decode cX4_isFit 91 = .ok (.goto 4, 3) := by decide +kernel
theorem dX4_isFit_94 : decode cX4_isFit 94 = .ok (.iconst 0, 1) := by decide +kernel
theorem dX4_isFit_95 : decode cX4_isFit 95 = .ok (.ireturn, 1) := by decide +kernel
theorem dX4_isFit_96 : decode cX4_isFit 96 = .ok (.aload_n 0, 1) := by decide +kernel
theorem dX4_isFit_97 : decode cX4_isFit 97 = .ok (.iload_n 1, 1) := by decide +kernel
theorem dX4_isFit_98 : decode cX4_isFit 98 = .ok (.iconst 1, 1) := by decide +kernel
theorem dX4_isFit_99 : decode cX4_isFit 99 = .ok (.iadd, 1) := by decide +kernel
theorem dX4_isFit_100 : decode cX4_isFit 100 = .ok (.invokevirtual 66, 3) := by decide +kernel
theorem dX4_isFit_103 : decode cX4_isFit 103 = .ok (.invokestatic 70, 3) := by decide +kernel
theorem dX4_isFit_106 : decode cX4_isFit 106 = .ok (.ireturn, 1) := by decide +kernel
theorem dX4_isFit_107 : decode cX4_isFit 107 = .ok (.aload_n 0, 1) := by decide +kernel
theorem dX4_isFit_108 : decode cX4_isFit 108 = .ok (.iload_n 1, 1) := by decide +kernel
theorem dX4_isFit_109 : decode cX4_isFit 109 = .ok (.iconst 1, 1) := by decide +kernel
theorem dX4_isFit_110 : decode cX4_isFit 110 = .ok (.iadd, 1) := by decide +kernel
theorem dX4_isFit_111 : decode cX4_isFit 111 = .ok (.invokevirtual 66, 3) := by decide +kernel
theorem dX4_isFit_114 : decode cX4_isFit 114 = .ok (.iload_n 2, 1) := by decide +kernel
theorem dX4_isFit_115 : decode cX4_isFit 115 = .ok (.if_icmp .ge 27, 3) := by decide +kernel
theorem dX4_isFit_118 : decode cX4_isFit 118 = .ok (.aload_n 0, 1) := by decide +kernel
theorem dX4_isFit_119 : decode cX4_isFit 119 = .ok (.iload_n 1, 1) := by decide +kernel
theorem dX4_isFit_120 : decode cX4_isFit 120 = .ok (.iconst 2, 1) := by decide +kernel
theorem dX4_isFit_121 : decode cX4_isFit 121 = .ok (.iadd, 1) := by decide +kernel
theorem dX4_isFit_122 : decode cX4_isFit 122 = .ok (.invokevirtual 66, 3) := by decide +kernel
theorem dX4_isFit_125 : decode cX4_isFit 125 = .ok (.aload_n 0, 1) := by decide +kernel
theorem dX4_isFit_126 : decode cX4_isFit 126 = .ok (.iload_n 1, 1) := by decide +kernel
theorem dX4_isFit_127 : decode cX4_isFit 127 = .ok (.iconst 3, 1) := by decide +kernel
theorem dX4_isFit_128 : decode cX4_isFit 128 = .ok (.iadd, 1) := by decide +kernel
theorem dX4_isFit_129 : decode cX4_isFit 129 = .ok (.invokevirtual 66, 3) := by decide +kernel
theorem dX4_isFit_132 : decode cX4_isFit 132 = .ok (.invokestatic 73, 3) := by decide +kernel
theorem dX4_isFit_135 : decode cX4_isFit 135 = .ok (.ifCond .eq 7, 3) := by decide +kernel
theorem dX4_isFit_138 : decode cX4_isFit 138 = .ok (.iconst 1, 1) := by decide +kernel
theorem dX4_isFit_139 : decode cX4_isFit 139 = .ok (.goto 4, 3) := by decide +kernel
theorem dX4_isFit_142 : decode cX4_isFit 142 = .ok (.iconst 0, 1) := by decide +kernel
theorem dX4_isFit_143 : decode cX4_isFit 143 = .ok (.ireturn, 1) := by decide +kernel
theorem dX4_tellStatement_0 : decode cX4_tellStatement 0 = .ok (.aload_n 0, 1) := by decide +kernel
theorem dX4_tellStatement_1 : decode cX4_tellStatement 1 = .ok (.iload_n 1, 1) := by decide +kernel
theorem dX4_tellStatement_2 : decode cX4_tellStatement 2 = .ok (.iconst 1, 1) := by decide +kernel
theorem dX4_tellStatement_3 : decode cX4_tellStatement 3 = .ok (.iadd, 1) := by decide +kernel
theorem dX4_tellStatement_4 : decode cX4_tellStatement 4 = .ok (.invokevirtual 66, 3) := by decide +kernel
theorem dX4_tellStatement_7 : decode cX4_tellStatement 7 = .ok (.istore_n 3, 1) := by decide +kernel
theorem dX4_tellStatement_8 : decode cX4_tellStatement 8 = .ok (.aload_n 0, 1) := by decide +kernel
theorem dX4_tellStatement_9 : decode cX4_tellStatement 9 = .ok (.iload_n 1, 1) := by decide +kernel
theorem dX4_tellStatement_10 : decode cX4_tellStatement 10 = .ok (.iconst 2, 1) := by decide +kernel
theorem dX4_tellStatement_11 : decode cX4_tellStatement 11 = .ok (.iadd, 1) := by decide +kernel
theorem dX4_tellStatement_12 : decode cX4_tellStatement 12 = .ok (.invokevirtual 66, 3) := by decide +kernel
theorem dX4_tellStatement_15 : decode cX4_tellStatement 15 = .ok (.istore 4, 2) := by decide +kernel
theorem dX4_tellStatement_17 : decode cX4_tellStatement 17 = .ok (.aload_n 0, 1) := by decide +kernel
theorem dX4_tellStatement_18 : decode cX4_tellStatement 18 = .ok (.iload_n 1, 1) := by decide +kernel
theorem dX4_tellStatement_19 : decode cX4_tellStatement 19 = .ok (.iconst 3, 1) := by decide +kernel
theorem dX4_tellStatement_20 : decode cX4_tellStatement 20 = .ok (.iadd, 1) := by decide +kernel
theorem dX4_tellStatement_21 : decode cX4_tellStatement 21 = .ok (.invokevirtual 66, 3) := by decide +kernel
theorem dX4_tellStatement_24 : decode cX4_tellStatement 24 = .ok (.istore 5, 2) := by decide +kernel
theorem dX4_tellStatement_26 : decode cX4_tellStatement 26 = .ok (.aload_n 0, 1) := by decide +kernel
theorem dX4_tellStatement_27 : decode cX4_tellStatement 27 = .ok (.iload_n 1, 1) := by decide +kernel
theorem dX4_tellStatement_28 : decode cX4_tellStatement 28 = .ok (.invokevirtual 39, 3) := by decide +kernel
theorem dX4_tellStatement_31 : decode cX4_tellStatement 31 = .ok (.lookupswitch 85 #[(98, 45), (105, 75), (119, 33)], 33) := by decide +kernel
theorem dX4_tellStatement_64 : decode cX4_tellStatement 64 = .ok (.aload_n 2, 1) := by decide +kernel
theorem dX4_tellStatement_65 : decode cX4_tellStatement 65 = .ok (.iload_n 3, 1) := by decide +kernel
theorem dX4_tellStatement_66 : decode cX4_tellStatement 66 = .ok (.iload 4, 2) := by decide +kernel
theorem dX4_tellStatement_68 : decode cX4_tellStatement 68 = .ok (.iload 5, 2) := by decide +kernel
theorem dX4_tellStatement_70 : decode cX4_tellStatement 70 = .ok (.invokevirtual 77, 3) := by decide +kernel
theorem dX4_tellStatement_73 : decode cX4_tellStatement 73 = .ok (.goto 68, 3) := by decide +kernel
theorem dX4_tellStatement_76 : decode cX4_tellStatement 76 = .ok (.aload_n 2, 1) := by decide +kernel
theorem dX4_tellStatement_77 : decode cX4_tellStatement 77 = .ok (.ldc 83, 2) := by decide +kernel
theorem dX4_tellStatement_79 : decode cX4_tellStatement 79 = .ok (.aload_n 0, 1) := by decide +kernel
theorem dX4_tellStatement_80 : decode cX4_tellStatement 80 = .ok (.iload_n 1, 1) := by decide +kernel
theorem dX4_tellStatement_81 : decode cX4_tellStatement 81 = .ok (.iconst 1, 1) := by decide +kernel
theorem dX4_tellStatement_82 : decode cX4_tellStatement 82 = .ok (.iadd, 1) := by decide +kernel
theorem dX4_tellStatement_83 : decode cX4_tellStatement 83 = .ok (.invokevirtual 39, 3) := by decide +kernel
theorem dX4_tellStatement_86 : decode cX4_tellStatement 86 = .ok (.invokevirtual 85, 3) := by decide +kernel
theorem dX4_tellStatement_89 : decode cX4_tellStatement 89 = .ok (.iload 4, 2) := by decide +kernel
theorem dX4_tellStatement_91 : decode cX4_tellStatement 91 = .ok (.iload 5, 2) := by decide +kernel
theorem dX4_tellStatement_93 : decode cX4_tellStatement 93 = .ok (.aload_n 0, 1) := by decide +kernel
theorem dX4_tellStatement_94 : decode cX4_tellStatement 94 = .ok (.iload_n 1, 1) := by decide +kernel
theorem dX4_tellStatement_95 : decode cX4_tellStatement 95 = .ok (.iconst 4, 1) := by decide +kernel
theorem dX4_tellStatement_96 : decode cX4_tellStatement 96 = .ok (.iadd, 1) := by decide +kernel
theorem dX4_tellStatement_97 : decode cX4_tellStatement 97 = .ok (.invokevirtual 66, 3) := by decide +kernel
theorem dX4_tellStatement_100 : decode cX4_tellStatement 100 = .ok (.invokevirtual 88, 3) := by decide +kernel
theorem dX4_tellStatement_103 : decode cX4_tellStatement 103 = .ok (.goto 38, 3) := by decide +kernel
theorem dX4_tellStatement_106 : decode cX4_tellStatement 106 = .ok (.aload_n 2, 1) := by decide +kernel
theorem dX4_tellStatement_107 : decode cX4_tellStatement 107 = .ok (.iload_n 3, 1) := by decide +kernel
theorem dX4_tellStatement_108 : decode cX4_tellStatement 108 = .ok (.iload 4, 2) := by decide +kernel
theorem dX4_tellStatement_110 : decode cX4_tellStatement 110 = .ok (.invokevirtual 92, 3) := by decide +kernel
theorem dX4_tellStatement_113 : decode cX4_tellStatement 113 = .ok (.goto 28, 3) := by decide +kernel
theorem dX4_tellStatement_116 : decode cX4_tellStatement 116 = .ok (.iload 4, 2) := by decide +kernel
theorem dX4_tellStatement_118 : decode cX4_tellStatement 118 = .ok (.istore 6, 2) := by decide +kernel
theorem dX4_tellStatement_120 : decode cX4_tellStatement 120 = .ok (.iload 6, 2) := by decide +kernel
theorem dX4_tellStatement_122 : decode cX4_tellStatement 122 = .ok (.iload 5, 2) := by decide +kernel
theorem dX4_tellStatement_124 : decode cX4_tellStatement 124 = .ok (.if_icmp .gt 17, 3) := by decide +kernel
theorem dX4_tellStatement_127 : decode cX4_tellStatement 127 = .ok (.aload_n 2, 1) := by decide +kernel
theorem dX4_tellStatement_128 : decode cX4_tellStatement 128 = .ok (.iload_n 3, 1) := by decide +kernel
theorem dX4_tellStatement_129 : decode cX4_tellStatement 129 = .ok (.iload 6, 2) := by decide +kernel
theorem dX4_tellStatement_131 : decode cX4_tellStatement 131 = .ok (.iconst 1, 1) := by decide +kernel
theorem dX4_tellStatement_132 : decode cX4_tellStatement 132 = .ok (.invokevirtual 96, 3) := by decide +kernel
theorem dX4_tellStatement_135 : decode cX4_tellStatement 135 = .ok (.iinc 6 1, 3) := by decide +kernel
theorem dX4_tellStatement_138 : decode cX4_tellStatement 138 = .ok (.goto (-18), 3) := by decide +kernel
theorem dX4_tellStatement_141 : decode cX4_tellStatement 141 = .ok (.return_, 1) := by decide +kernel
theorem dX4_formBehind_0 : decode cX4_formBehind 0 = .ok (.iload_n 0, 1) := by decide +kernel
theorem dX4_formBehind_1 : decode cX4_formBehind 1 = .ok (.lookupswitch 55 #[(98, 46), (105, 49), (114, 52), (119, 43)], 43) := by decide +kernel
theorem dX4_formBehind_44 : decode cX4_formBehind 44 = .ok (.ldc 100, 2) := by decide +kernel
theorem dX4_formBehind_46 : decode cX4_formBehind 46 = .ok (.areturn, 1) := by decide +kernel
theorem dX4_formBehind_47 : decode cX4_formBehind 47 = .ok (.ldc 102, 2) := by decide +kernel
theorem dX4_formBehind_49 : decode cX4_formBehind 49 = .ok (.areturn, 1) := by decide +kernel
theorem dX4_formBehind_50 : decode cX4_formBehind 50 = .ok (.ldc 104, 2) := by decide +kernel
theorem dX4_formBehind_52 : decode cX4_formBehind 52 = .ok (.areturn, 1) := by decide +kernel
theorem dX4_formBehind_53 : decode cX4_formBehind 53 = .ok (.ldc 100, 2) := by decide +kernel
theorem dX4_formBehind_55 : decode cX4_formBehind 55 = .ok (.areturn, 1) := by decide +kernel
theorem dX4_formBehind_56 : decode cX4_formBehind 56 = .ok (.ldc 106, 2) := by decide +kernel
theorem dX4_formBehind_58 : decode cX4_formBehind 58 = .ok (.areturn, 1) := by decide +kernel
theorem dX4_isOfForm_0 : decode cX4_isOfForm 0 = .ok (.iload_n 1, 1) := by decide +kernel
theorem dX4_isOfForm_1 : decode cX4_isOfForm 1 = .ok (.lookupswitch 60 #[(100, 27), (107, 45)], 27) := by decide +kernel
theorem dX4_isOfForm_28 : decode cX4_isOfForm 28 = .ok (.iload_n 0, 1) := by decide +kernel
theorem dX4_isOfForm_29 : decode cX4_isOfForm 29 = .ok (.bipush 48, 2) := by decide +kernel
theorem dX4_isOfForm_31 : decode cX4_isOfForm 31 = .ok (.if_icmp .lt 13, 3) := by decide +kernel
theorem dX4_isOfForm_34 : decode cX4_isOfForm 34 = .ok (.iload_n 0, 1) := by decide +kernel
theorem dX4_isOfForm_35 : decode cX4_isOfForm 35 = .ok (.bipush 57, 2) := by decide +kernel
theorem dX4_isOfForm_37 : decode cX4_isOfForm 37 = .ok (.if_icmp .gt 7, 3) := by decide +kernel
theorem dX4_isOfForm_40 : decode cX4_isOfForm 40 = .ok (.iconst 1, 1) := by decide +kernel
theorem dX4_isOfForm_41 : decode cX4_isOfForm 41 = .ok (.goto 4, 3) := by decide +kernel
theorem dX4_isOfForm_44 : decode cX4_isOfForm 44 = .ok (.iconst 0, 1) := by decide +kernel
theorem dX4_isOfForm_45 : decode cX4_isOfForm 45 = .ok (.ireturn, 1) := by decide +kernel
theorem dX4_isOfForm_46 : decode cX4_isOfForm 46 = .ok (.ldc 83, 2) := by decide +kernel
theorem dX4_isOfForm_48 : decode cX4_isOfForm 48 = .ok (.iload_n 0, 1) := by decide +kernel
theorem dX4_isOfForm_49 : decode cX4_isOfForm 49 = .ok (.invokevirtual 85, 3) := by decide +kernel
theorem dX4_isOfForm_52 : decode cX4_isOfForm 52 = .ok (.ifCond .lt 7, 3) := by decide +kernel
theorem dX4_isOfForm_55 : decode cX4_isOfForm 55 = .ok (.iconst 1, 1) := by decide +kernel
theorem dX4_isOfForm_56 : decode cX4_isOfForm 56 = .ok (.goto 4, 3) := by decide +kernel
theorem dX4_isOfForm_59 : decode cX4_isOfForm 59 = .ok (.iconst 0, 1) := by decide +kernel
theorem dX4_isOfForm_60 : decode cX4_isOfForm 60 = .ok (.ireturn, 1) := by decide +kernel
theorem dX4_isOfForm_61 : decode cX4_isOfForm 61 = .ok (.iload_n 0, 1) := by decide +kernel
theorem dX4_isOfForm_62 : decode cX4_isOfForm 62 = .ok (.iload_n 1, 1) := by decide +kernel
theorem dX4_isOfForm_63 : decode cX4_isOfForm 63 = .ok (.if_icmp .ne 7, 3) := by decide +kernel
theorem dX4_isOfForm_66 : decode cX4_isOfForm 66 = .ok (.iconst 1, 1) := by decide +kernel
theorem dX4_isOfForm_67 : decode cX4_isOfForm 67 = .ok (.goto 4, 3) := by decide +kernel
theorem dX4_isOfForm_70 : decode cX4_isOfForm 70 = .ok (.iconst 0, 1) := by decide +kernel
theorem dX4_isOfForm_71 : decode cX4_isOfForm 71 = .ok (.ireturn, 1) := by decide +kernel
theorem dX4_areHours_0 : decode cX4_areHours 0 = .ok (.iload_n 0, 1) := by decide +kernel
theorem dX4_areHours_1 : decode cX4_areHours 1 = .ok (.iload_n 1, 1) := by decide +kernel
theorem dX4_areHours_2 : decode cX4_areHours 2 = .ok (.if_icmp .gt 13, 3) := by decide +kernel
theorem dX4_areHours_5 : decode cX4_areHours 5 = .ok (.iload_n 1, 1) := by decide +kernel
theorem dX4_areHours_6 : decode cX4_areHours 6 = .ok (.bipush 8, 2) := by decide +kernel
theorem dX4_areHours_8 : decode cX4_areHours 8 = .ok (.if_icmp .ge 7, 3) := by decide +kernel
theorem dX4_areHours_11 : decode cX4_areHours 11 = .ok (.iconst 1, 1) := by decide +kernel
theorem dX4_areHours_12 : decode cX4_areHours 12 = .ok (.goto 4, 3) := by decide +kernel
theorem dX4_areHours_15 : decode cX4_areHours 15 = .ok (.iconst 0, 1) := by decide +kernel
theorem dX4_areHours_16 : decode cX4_areHours 16 = .ok (.ireturn, 1) := by decide +kernel
theorem dX4_beginsStatement_0 : decode cX4_beginsStatement 0 = .ok (.iload_n 1, 1) := by decide +kernel
theorem dX4_beginsStatement_1 : decode cX4_beginsStatement 1 = .ok (.ifCond .eq 15, 3) := by decide +kernel
theorem dX4_beginsStatement_4 : decode cX4_beginsStatement 4 = .ok (.aload_n 0, 1) := by decide +kernel
theorem dX4_beginsStatement_5 : decode cX4_beginsStatement 5 = .ok (.iload_n 1, 1) := by decide +kernel
theorem dX4_beginsStatement_6 : decode cX4_beginsStatement 6 = .ok (.iconst 1, 1) := by decide +kernel
theorem dX4_beginsStatement_7 : decode cX4_beginsStatement 7 = .ok (.isub, 1) := by decide +kernel
theorem dX4_beginsStatement_8 : decode cX4_beginsStatement 8 = .ok (.invokevirtual 39, 3) := by decide +kernel
theorem dX4_beginsStatement_11 : decode cX4_beginsStatement 11 = .ok (.bipush 59, 2) := by decide +kernel
theorem dX4_beginsStatement_13 : decode cX4_beginsStatement 13 = .ok (.if_icmp .ne 7, 3) := by decide +kernel
theorem dX4_beginsStatement_16 : decode cX4_beginsStatement 16 = .ok (.iconst 1, 1) := by decide +kernel
theorem dX4_beginsStatement_17 : decode cX4_beginsStatement 17 = .ok (.goto 4, 3) := by decide +kernel
theorem dX4_beginsStatement_20 : decode cX4_beginsStatement 20 = .ok (.iconst 0, 1) := by decide +kernel
theorem dX4_beginsStatement_21 : decode cX4_beginsStatement 21 = .ok (.ireturn, 1) := by decide +kernel
theorem dX4_letterAt_0 : decode cX4_letterAt 0 = .ok (.iload_n 1, 1) := by decide +kernel
theorem dX4_letterAt_1 : decode cX4_letterAt 1 = .ok (.ifCond .lt 20, 3) := by decide +kernel
theorem dX4_letterAt_4 : decode cX4_letterAt 4 = .ok (.iload_n 1, 1) := by decide +kernel
theorem dX4_letterAt_5 : decode cX4_letterAt 5 = .ok (.aload_n 0, 1) := by decide +kernel
theorem dX4_letterAt_6 : decode cX4_letterAt 6 = .ok (.getfield 15, 3) := by decide +kernel
theorem dX4_letterAt_9 : decode cX4_letterAt 9 = .ok (.if_icmp .ge 12, 3) := by decide +kernel
theorem dX4_letterAt_12 : decode cX4_letterAt 12 = .ok (.aload_n 0, 1) := by decide +kernel
theorem dX4_letterAt_13 : decode cX4_letterAt 13 = .ok (.getfield 9, 3) := by decide +kernel
theorem dX4_letterAt_16 : decode cX4_letterAt 16 = .ok (.iload_n 1, 1) := by decide +kernel
theorem dX4_letterAt_17 : decode cX4_letterAt 17 = .ok (.caload, 1) := by decide +kernel
theorem dX4_letterAt_18 : decode cX4_letterAt 18 = .ok (.goto 4, 3) := by decide +kernel
theorem dX4_letterAt_21 : decode cX4_letterAt 21 = .ok (.iconst 0, 1) := by decide +kernel
theorem dX4_letterAt_22 : decode cX4_letterAt 22 = .ok (.ireturn, 1) := by decide +kernel
theorem dX4_digitAt_0 : decode cX4_digitAt 0 = .ok (.aload_n 0, 1) := by decide +kernel
theorem dX4_digitAt_1 : decode cX4_digitAt 1 = .ok (.iload_n 1, 1) := by decide +kernel
theorem dX4_digitAt_2 : decode cX4_digitAt 2 = .ok (.invokevirtual 39, 3) := by decide +kernel
theorem dX4_digitAt_5 : decode cX4_digitAt 5 = .ok (.bipush 48, 2) := by decide +kernel
theorem dX4_digitAt_7 : decode cX4_digitAt 7 = .ok (.isub, 1) := by decide +kernel
theorem dX4_digitAt_8 : decode cX4_digitAt 8 = .ok (.ireturn, 1) := by decide +kernel
theorem dX5_init_0 : decode cX5_init 0 = .ok (.aload_n 0, 1) := by decide +kernel
theorem dX5_init_1 : decode cX5_init 1 = .ok (.invokespecial 1, 3) := by decide +kernel
theorem dX5_init_4 : decode cX5_init 4 = .ok (.return_, 1) := by decide +kernel
theorem dX5_prefers_0 : decode cX5_prefers 0 = .ok (.iconst 1, 1) := by decide +kernel
theorem dX5_prefers_1 : decode cX5_prefers 1 = .ok (.ireturn, 1) := by decide +kernel
theorem dX6_init_0 : decode cX6_init 0 = .ok (.aload_n 0, 1) := by decide +kernel
theorem dX6_init_1 : decode cX6_init 1 = .ok (.invokespecial 3, 3) := by decide +kernel
theorem dX6_init_4 : decode cX6_init 4 = .ok (.return_, 1) := by decide +kernel
theorem dX6_choice_0 : decode cX6_choice 0 = .ok (.bipush (-9), 2) := by decide +kernel
theorem dX6_choice_2 : decode cX6_choice 2 = .ok (.istore_n 3, 1) := by decide +kernel
theorem dX6_choice_3 : decode cX6_choice 3 = .ok (.iconst 0, 1) := by decide +kernel
theorem dX6_choice_4 : decode cX6_choice 4 = .ok (.istore 4, 2) := by decide +kernel
theorem dX6_choice_6 : decode cX6_choice 6 = .ok (.iload 4, 2) := by decide +kernel
theorem dX6_choice_8 : decode cX6_choice 8 = .ok (.aload_n 1, 1) := by decide +kernel
theorem dX6_choice_9 : decode cX6_choice 9 = .ok (.getfield 9, 3) := by decide +kernel
theorem dX6_choice_12 : decode cX6_choice 12 = .ok (.if_icmp .ge 52, 3) := by decide +kernel
theorem dX6_choice_15 : decode cX6_choice 15 = .ok (.aload_n 1, 1) := by decide +kernel
theorem dX6_choice_16 : decode cX6_choice 16 = .ok (.iload 4, 2) := by decide +kernel
theorem dX6_choice_18 : decode cX6_choice 18 = .ok (.iload_n 2, 1) := by decide +kernel
theorem dX6_choice_19 : decode cX6_choice 19 = .ok (.invokevirtual 15, 3) := by decide +kernel
theorem dX6_choice_22 : decode cX6_choice 22 = .ok (.ifCond .eq 36, 3) := by decide +kernel
theorem dX6_choice_25 : decode cX6_choice 25 = .ok (.aload_n 0, 1) := by decide +kernel
theorem dX6_choice_26 : decode cX6_choice 26 = .ok (.aload_n 1, 1) := by decide +kernel
theorem dX6_choice_27 : decode cX6_choice 27 = .ok (.iload 4, 2) := by decide +kernel
theorem dX6_choice_29 : decode cX6_choice 29 = .ok (.invokevirtual 19, 3) := by decide +kernel
theorem dX6_choice_32 : decode cX6_choice 32 = .ok (.ifCond .ne 6, 3) := by decide +kernel
theorem dX6_choice_35 : decode cX6_choice 35 = .ok (.goto 23, 3) := by decide +kernel
theorem dX6_choice_38 : decode cX6_choice 38 = .ok (.iload_n 3, 1) := by decide +kernel
theorem dX6_choice_39 : decode cX6_choice 39 = .ok (.bipush (-9), 2) := by decide +kernel
theorem dX6_choice_41 : decode cX6_choice 41 = .ok (.if_icmp .eq 14, 3) := by decide +kernel
theorem dX6_choice_44 : decode cX6_choice 44 = .ok (.aload_n 0, 1) := by decide +kernel
theorem dX6_choice_45 : decode cX6_choice 45 = .ok (.aload_n 1, 1) := by decide +kernel
theorem dX6_choice_46 : decode cX6_choice 46 = .ok (.iload 4, 2) := by decide +kernel
theorem dX6_choice_48 : decode cX6_choice 48 = .ok (.iload_n 3, 1) := by decide +kernel
theorem dX6_choice_49 : decode cX6_choice 49 = .ok (.invokevirtual 25, 3) := by decide +kernel
theorem dX6_choice_52 : decode cX6_choice 52 = .ok (.ifCond .eq 6, 3) := by decide +kernel
theorem dX6_choice_55 : decode cX6_choice 55 = .ok (.iload 4, 2) := by decide +kernel
theorem dX6_choice_57 : decode cX6_choice 57 = .ok (.istore_n 3, 1) := by decide +kernel
theorem dX6_choice_58 : decode cX6_choice 58 = .ok (.iinc 4 1, 3) := by decide +kernel
theorem dX6_choice_61 : decode cX6_choice 61 = .ok (.goto (-55), 3) := by decide +kernel
theorem dX6_choice_64 : decode cX6_choice 64 = .ok (.iload_n 3, 1) := by decide +kernel
theorem dX6_choice_65 : decode cX6_choice 65 = .ok (.ireturn, 1) := by decide +kernel
theorem dX6_meals_0 : decode cX6_meals 0 = .ok (.iconst 1, 1) := by decide +kernel
theorem dX6_meals_1 : decode cX6_meals 1 = .ok (.ireturn, 1) := by decide +kernel
theorem dX6_reaches_0 : decode cX6_reaches 0 = .ok (.iconst 1, 1) := by decide +kernel
theorem dX6_reaches_1 : decode cX6_reaches 1 = .ok (.ireturn, 1) := by decide +kernel
theorem dX6_prefers_0 : decode cX6_prefers 0 = .ok (.aload_n 1, 1) := by decide +kernel
theorem dX6_prefers_1 : decode cX6_prefers 1 = .ok (.iload_n 2, 1) := by decide +kernel
theorem dX6_prefers_2 : decode cX6_prefers 2 = .ok (.invokevirtual 29, 3) := by decide +kernel
theorem dX6_prefers_5 : decode cX6_prefers 5 = .ok (.aload_n 1, 1) := by decide +kernel
theorem dX6_prefers_6 : decode cX6_prefers 6 = .ok (.iload_n 3, 1) := by decide +kernel
theorem dX6_prefers_7 : decode cX6_prefers 7 = .ok (.invokevirtual 29, 3) := by decide +kernel
theorem dX6_prefers_10 : decode cX6_prefers 10 = .ok (.if_icmp .le 7, 3) := by decide +kernel
theorem dX6_prefers_13 : decode cX6_prefers 13 = .ok (.iconst 1, 1) := by decide +kernel
theorem dX6_prefers_14 : decode cX6_prefers 14 = .ok (.goto 4, 3) := by decide +kernel
theorem dX6_prefers_17 : decode cX6_prefers 17 = .ok (.iconst 0, 1) := by decide +kernel
theorem dX6_prefers_18 : decode cX6_prefers 18 = .ok (.ireturn, 1) := by decide +kernel
theorem dX7_init_0 : decode cX7_init 0 = .ok (.aload_n 0, 1) := by decide +kernel
theorem dX7_init_1 : decode cX7_init 1 = .ok (.invokespecial 1, 3) := by decide +kernel
theorem dX7_init_4 : decode cX7_init 4 = .ok (.return_, 1) := by decide +kernel
theorem dX7_prefers_0 : decode cX7_prefers 0 = .ok (.iconst 0, 1) := by decide +kernel
theorem dX7_prefers_1 : decode cX7_prefers 1 = .ok (.ireturn, 1) := by decide +kernel
theorem dX8_init_0 : decode cX8_init 0 = .ok (.aload_n 0, 1) := by decide +kernel
theorem dX8_init_1 : decode cX8_init 1 = .ok (.invokespecial 1, 3) := by decide +kernel
theorem dX8_init_4 : decode cX8_init 4 = .ok (.bipush 6, 2) := by decide +kernel
theorem dX8_init_6 : decode cX8_init 6 = .ok (.anewarray 7, 3) := by decide +kernel
theorem dX8_init_9 : decode cX8_init 9 = .ok (.dup, 1) := by decide +kernel
theorem dX8_init_10 : decode cX8_init 10 = .ok (.iconst 0, 1) := by decide +kernel
theorem dX8_init_11 : decode cX8_init 11 = .ok (.new 7, 3) := by decide +kernel
theorem dX8_init_14 : decode cX8_init 14 = .ok (.dup, 1) := by decide +kernel
theorem dX8_init_15 : decode cX8_init 15 = .ok (.invokespecial 9, 3) := by decide +kernel
theorem dX8_init_18 : decode cX8_init 18 = .ok (.aastore, 1) := by decide +kernel
theorem dX8_init_19 : decode cX8_init 19 = .ok (.dup, 1) := by decide +kernel
theorem dX8_init_20 : decode cX8_init 20 = .ok (.iconst 1, 1) := by decide +kernel
theorem dX8_init_21 : decode cX8_init 21 = .ok (.new 10, 3) := by decide +kernel
theorem dX8_init_24 : decode cX8_init 24 = .ok (.dup, 1) := by decide +kernel
theorem dX8_init_25 : decode cX8_init 25 = .ok (.invokespecial 12, 3) := by decide +kernel
theorem dX8_init_28 : decode cX8_init 28 = .ok (.aastore, 1) := by decide +kernel
theorem dX8_init_29 : decode cX8_init 29 = .ok (.dup, 1) := by decide +kernel
theorem dX8_init_30 : decode cX8_init 30 = .ok (.iconst 2, 1) := by decide +kernel
theorem dX8_init_31 : decode cX8_init 31 = .ok (.new 13, 3) := by decide +kernel
theorem dX8_init_34 : decode cX8_init 34 = .ok (.dup, 1) := by decide +kernel
theorem dX8_init_35 : decode cX8_init 35 = .ok (.invokespecial 15, 3) := by decide +kernel
theorem dX8_init_38 : decode cX8_init 38 = .ok (.aastore, 1) := by decide +kernel
theorem dX8_init_39 : decode cX8_init 39 = .ok (.dup, 1) := by decide +kernel
theorem dX8_init_40 : decode cX8_init 40 = .ok (.iconst 3, 1) := by decide +kernel
theorem dX8_init_41 : decode cX8_init 41 = .ok (.new 16, 3) := by decide +kernel
theorem dX8_init_44 : decode cX8_init 44 = .ok (.dup, 1) := by decide +kernel
theorem dX8_init_45 : decode cX8_init 45 = .ok (.invokespecial 18, 3) := by decide +kernel
theorem dX8_init_48 : decode cX8_init 48 = .ok (.aastore, 1) := by decide +kernel
theorem dX8_init_49 : decode cX8_init 49 = .ok (.dup, 1) := by decide +kernel
theorem dX8_init_50 : decode cX8_init 50 = .ok (.iconst 4, 1) := by decide +kernel
theorem dX8_init_51 : decode cX8_init 51 = .ok (.new 19, 3) := by decide +kernel
theorem dX8_init_54 : decode cX8_init 54 = .ok (.dup, 1) := by decide +kernel
theorem dX8_init_55 : decode cX8_init 55 = .ok (.invokespecial 21, 3) := by decide +kernel
theorem dX8_init_58 : decode cX8_init 58 = .ok (.aastore, 1) := by decide +kernel
theorem dX8_init_59 : decode cX8_init 59 = .ok (.dup, 1) := by decide +kernel
theorem dX8_init_60 : decode cX8_init 60 = .ok (.iconst 5, 1) := by decide +kernel
theorem dX8_init_61 : decode cX8_init 61 = .ok (.new 22, 3) := by decide +kernel
theorem dX8_init_64 : decode cX8_init 64 = .ok (.dup, 1) := by decide +kernel
theorem dX8_init_65 : decode cX8_init 65 = .ok (.invokespecial 24, 3) := by decide +kernel
theorem dX8_init_68 : decode cX8_init 68 = .ok (.aastore, 1) := by decide +kernel
theorem dX8_init_69 : decode cX8_init 69 = .ok (.astore_n 1, 1) := by decide +kernel
theorem dX8_init_70 : decode cX8_init 70 = .ok (.aload_n 0, 1) := by decide +kernel
theorem dX8_init_71 : decode cX8_init 71 = .ok (.new 25, 3) := by decide +kernel
theorem dX8_init_74 : decode cX8_init 74 = .ok (.dup, 1) := by decide +kernel
theorem dX8_init_75 : decode cX8_init 75 = .ok (.aload_n 1, 1) := by decide +kernel
theorem dX8_init_76 : decode cX8_init 76 = .ok (.invokespecial 27, 3) := by decide +kernel
theorem dX8_init_79 : decode cX8_init 79 = .ok (.putfield 30, 3) := by decide +kernel
theorem dX8_init_82 : decode cX8_init 82 = .ok (.aload_n 0, 1) := by decide +kernel
theorem dX8_init_83 : decode cX8_init 83 = .ok (.new 25, 3) := by decide +kernel
theorem dX8_init_86 : decode cX8_init 86 = .ok (.dup, 1) := by decide +kernel
theorem dX8_init_87 : decode cX8_init 87 = .ok (.aload_n 1, 1) := by decide +kernel
theorem dX8_init_88 : decode cX8_init 88 = .ok (.invokespecial 27, 3) := by decide +kernel
theorem dX8_init_91 : decode cX8_init 91 = .ok (.putfield 36, 3) := by decide +kernel
theorem dX8_init_94 : decode cX8_init 94 = .ok (.aload_n 0, 1) := by decide +kernel
theorem dX8_init_95 : decode cX8_init 95 = .ok (.new 25, 3) := by decide +kernel
theorem dX8_init_98 : decode cX8_init 98 = .ok (.dup, 1) := by decide +kernel
theorem dX8_init_99 : decode cX8_init 99 = .ok (.aload_n 1, 1) := by decide +kernel
theorem dX8_init_100 : decode cX8_init 100 = .ok (.invokespecial 27, 3) := by decide +kernel
theorem dX8_init_103 : decode cX8_init 103 = .ok (.putfield 39, 3) := by decide +kernel
theorem dX8_init_106 : decode cX8_init 106 = .ok (.aload_n 0, 1) := by decide +kernel
theorem dX8_init_107 : decode cX8_init 107 = .ok (.new 42, 3) := by decide +kernel
theorem dX8_init_110 : decode cX8_init 110 = .ok (.dup, 1) := by decide +kernel
theorem dX8_init_111 : decode cX8_init 111 = .ok (.invokespecial 44, 3) := by decide +kernel
theorem dX8_init_114 : decode cX8_init 114 = .ok (.putfield 45, 3) := by decide +kernel
theorem dX8_init_117 : decode cX8_init 117 = .ok (.aload_n 0, 1) := by decide +kernel
theorem dX8_init_118 : decode cX8_init 118 = .ok (.bipush 10, 2) := by decide +kernel
theorem dX8_init_120 : decode cX8_init 120 = .ok (.newarray .int, 2) := by decide +kernel
theorem dX8_init_122 : decode cX8_init 122 = .ok (.putfield 49, 3) := by decide +kernel
theorem dX8_init_125 : decode cX8_init 125 = .ok (.aload_n 0, 1) := by decide +kernel
theorem dX8_init_126 : decode cX8_init 126 = .ok (.bipush 6, 2) := by decide +kernel
theorem dX8_init_128 : decode cX8_init 128 = .ok (.newarray .int, 2) := by decide +kernel
theorem dX8_init_130 : decode cX8_init 130 = .ok (.putfield 53, 3) := by decide +kernel
theorem dX8_init_133 : decode cX8_init 133 = .ok (.return_, 1) := by decide +kernel
theorem dX8_letter_0 : decode cX8_letter 0 = .ok (.iload_n 1, 1) := by decide +kernel
theorem dX8_letter_1 : decode cX8_letter 1 = .ok (.ifCond .ge 10, 3) := by decide +kernel
theorem dX8_letter_4 : decode cX8_letter 4 = .ok (.aload_n 0, 1) := by decide +kernel
theorem dX8_letter_5 : decode cX8_letter 5 = .ok (.bipush (-4), 2) := by decide +kernel
theorem dX8_letter_7 : decode cX8_letter 7 = .ok (.invokevirtual 56, 3) := by decide +kernel
theorem dX8_letter_10 : decode cX8_letter 10 = .ok (.ireturn, 1) := by decide +kernel
theorem dX8_letter_11 : decode cX8_letter 11 = .ok (.iload_n 1, 1) := by decide +kernel
theorem dX8_letter_12 : decode cX8_letter 12 = .ok (.sipush 255, 3) := by decide +kernel
theorem dX8_letter_15 : decode cX8_letter 15 = .ok (.if_icmp .gt 13, 3) := by decide +kernel
theorem dX8_letter_18 : decode cX8_letter 18 = .ok (.aload_n 0, 1) := by decide +kernel
theorem dX8_letter_19 : decode cX8_letter 19 = .ok (.getfield 45, 3) := by decide +kernel
theorem dX8_letter_22 : decode cX8_letter 22 = .ok (.invokevirtual 60, 3) := by decide +kernel
theorem dX8_letter_25 : decode cX8_letter 25 = .ok (.ifCond .eq 10, 3) := by decide +kernel
theorem dX8_letter_28 : decode cX8_letter 28 = .ok (.aload_n 0, 1) := by decide +kernel
theorem dX8_letter_29 : decode cX8_letter 29 = .ok (.bipush (-6), 2) := by decide +kernel
theorem dX8_letter_31 : decode cX8_letter 31 = .ok (.invokevirtual 56, 3) := by decide +kernel
theorem dX8_letter_34 : decode cX8_letter 34 = .ok (.ireturn, 1) := by decide +kernel
theorem dX8_letter_35 : decode cX8_letter 35 = .ok (.aload_n 0, 1) := by decide +kernel
theorem dX8_letter_36 : decode cX8_letter 36 = .ok (.getfield 45, 3) := by decide +kernel
theorem dX8_letter_39 : decode cX8_letter 39 = .ok (.iload_n 1, 1) := by decide +kernel
theorem dX8_letter_40 : decode cX8_letter 40 = .ok (.i2c, 1) := by decide +kernel
theorem dX8_letter_41 : decode cX8_letter 41 = .ok (.invokevirtual 64, 3) := by decide +kernel
theorem dX8_letter_44 : decode cX8_letter 44 = .ok (.ireturn, 1) := by decide +kernel
theorem dX8_text_0 : decode cX8_text 0 = .ok (.aload_n 0, 1) := by decide +kernel
theorem dX8_text_1 : decode cX8_text 1 = .ok (.getfield 45, 3) := by decide +kernel
theorem dX8_text_4 : decode cX8_text 4 = .ok (.aload_n 0, 1) := by decide +kernel
theorem dX8_text_5 : decode cX8_text 5 = .ok (.getfield 30, 3) := by decide +kernel
theorem dX8_text_8 : decode cX8_text 8 = .ok (.getfield 68, 3) := by decide +kernel
theorem dX8_text_11 : decode cX8_text 11 = .ok (.aload_n 0, 1) := by decide +kernel
theorem dX8_text_12 : decode cX8_text 12 = .ok (.getfield 30, 3) := by decide +kernel
theorem dX8_text_15 : decode cX8_text 15 = .ok (.getfield 72, 3) := by decide +kernel
theorem dX8_text_18 : decode cX8_text 18 = .ok (.invokevirtual 75, 3) := by decide +kernel
theorem dX8_text_21 : decode cX8_text 21 = .ok (.istore_n 1, 1) := by decide +kernel
theorem dX8_text_22 : decode cX8_text 22 = .ok (.iload_n 1, 1) := by decide +kernel
theorem dX8_text_23 : decode cX8_text 23 = .ok (.ifCond .ne 15, 3) := by decide +kernel
theorem dX8_text_26 : decode cX8_text 26 = .ok (.aload_n 0, 1) := by decide +kernel
theorem dX8_text_27 : decode cX8_text 27 = .ok (.getfield 45, 3) := by decide +kernel
theorem dX8_text_30 : decode cX8_text 30 = .ok (.aload_n 0, 1) := by decide +kernel
theorem dX8_text_31 : decode cX8_text 31 = .ok (.getfield 30, 3) := by decide +kernel
theorem dX8_text_34 : decode cX8_text 34 = .ok (.invokevirtual 79, 3) := by decide +kernel
theorem dX8_text_37 : decode cX8_text 37 = .ok (.istore_n 1, 1) := by decide +kernel
theorem dX8_text_38 : decode cX8_text 38 = .ok (.aload_n 0, 1) := by decide +kernel
theorem dX8_text_39 : decode cX8_text 39 = .ok (.getfield 45, 3) := by decide +kernel
theorem dX8_text_42 : decode cX8_text 42 = .ok (.invokevirtual 83, 3) := by decide +kernel
theorem dX8_text_45 : decode cX8_text 45 = .ok (.iload_n 1, 1) := by decide +kernel
theorem dX8_text_46 : decode cX8_text 46 = .ok (.ireturn, 1) := by decide +kernel
theorem dX8_word_0 : decode cX8_word 0 = .ok (.aload_n 0, 1) := by decide +kernel
theorem dX8_word_1 : decode cX8_word 1 = .ok (.getfield 30, 3) := by decide +kernel
theorem dX8_word_4 : decode cX8_word 4 = .ok (.iload_n 1, 1) := by decide +kernel
theorem dX8_word_5 : decode cX8_word 5 = .ok (.invokevirtual 86, 3) := by decide +kernel
theorem dX8_word_8 : decode cX8_word 8 = .ok (.ifCond .ne 9, 3) := by decide +kernel
theorem dX8_word_11 : decode cX8_word 11 = .ok (.aload_n 0, 1) := by decide +kernel
theorem dX8_word_12 : decode cX8_word 12 = .ok (.iconst (-1), 1) := by decide +kernel
theorem dX8_word_13 : decode cX8_word 13 = .ok (.invokevirtual 56, 3) := by decide +kernel
theorem dX8_word_16 : decode cX8_word 16 = .ok (.ireturn, 1) := by decide +kernel
theorem dX8_word_17 : decode cX8_word 17 = .ok (.iload_n 2, 1) := by decide +kernel
theorem dX8_word_18 : decode cX8_word 18 = .ok (.ifCond .lt 9, 3) := by decide +kernel
theorem dX8_word_21 : decode cX8_word 21 = .ok (.iload_n 2, 1) := by decide +kernel
theorem dX8_word_22 : decode cX8_word 22 = .ok (.bipush 6, 2) := by decide +kernel
theorem dX8_word_24 : decode cX8_word 24 = .ok (.if_icmp .lt 10, 3) := by decide +kernel
theorem dX8_word_27 : decode cX8_word 27 = .ok (.aload_n 0, 1) := by decide +kernel
theorem dX8_word_28 : decode cX8_word 28 = .ok (.bipush (-2), 2) := by decide +kernel
theorem dX8_word_30 : decode cX8_word 30 = .ok (.invokevirtual 56, 3) := by decide +kernel
theorem dX8_word_33 : decode cX8_word 33 = .ok (.ireturn, 1) := by decide +kernel
theorem dX8_word_34 : decode cX8_word 34 = .ok (.iload_n 2, 1) := by decide +kernel
theorem dX8_word_35 : decode cX8_word 35 = .ok (.tableswitch 89 0 4 #[33, 43, 53, 63, 72], 33) := by decide +kernel
theorem dX8_word_68 : decode cX8_word 68 = .ok (.aload_n 0, 1) := by decide +kernel
theorem dX8_word_69 : decode cX8_word 69 = .ok (.getfield 30, 3) := by decide +kernel
theorem dX8_word_72 : decode cX8_word 72 = .ok (.getfield 90, 3) := by decide +kernel
theorem dX8_word_75 : decode cX8_word 75 = .ok (.iload_n 1, 1) := by decide +kernel
theorem dX8_word_76 : decode cX8_word 76 = .ok (.iaload, 1) := by decide +kernel
theorem dX8_word_77 : decode cX8_word 77 = .ok (.ireturn, 1) := by decide +kernel
theorem dX8_word_78 : decode cX8_word 78 = .ok (.aload_n 0, 1) := by decide +kernel
theorem dX8_word_79 : decode cX8_word 79 = .ok (.getfield 30, 3) := by decide +kernel
theorem dX8_word_82 : decode cX8_word 82 = .ok (.getfield 93, 3) := by decide +kernel
theorem dX8_word_85 : decode cX8_word 85 = .ok (.iload_n 1, 1) := by decide +kernel
theorem dX8_word_86 : decode cX8_word 86 = .ok (.iaload, 1) := by decide +kernel
theorem dX8_word_87 : decode cX8_word 87 = .ok (.ireturn, 1) := by decide +kernel
theorem dX8_word_88 : decode cX8_word 88 = .ok (.aload_n 0, 1) := by decide +kernel
theorem dX8_word_89 : decode cX8_word 89 = .ok (.getfield 30, 3) := by decide +kernel
theorem dX8_word_92 : decode cX8_word 92 = .ok (.getfield 96, 3) := by decide +kernel
theorem dX8_word_95 : decode cX8_word 95 = .ok (.iload_n 1, 1) := by decide +kernel
theorem dX8_word_96 : decode cX8_word 96 = .ok (.iaload, 1) := by decide +kernel
theorem dX8_word_97 : decode cX8_word 97 = .ok (.ireturn, 1) := by decide +kernel
theorem dX8_word_98 : decode cX8_word 98 = .ok (.aload_n 0, 1) := by decide +kernel
theorem dX8_word_99 : decode cX8_word 99 = .ok (.getfield 30, 3) := by decide +kernel
theorem dX8_word_102 : decode cX8_word 102 = .ok (.iload_n 1, 1) := by decide +kernel
theorem dX8_word_103 : decode cX8_word 103 = .ok (.invokevirtual 99, 3) := by decide +kernel
theorem dX8_word_106 : decode cX8_word 106 = .ok (.ireturn, 1) := by decide +kernel
theorem dX8_word_107 : decode cX8_word 107 = .ok (.aload_n 0, 1) := by decide +kernel
theorem dX8_word_108 : decode cX8_word 108 = .ok (.getfield 30, 3) := by decide +kernel
theorem dX8_word_111 : decode cX8_word 111 = .ok (.iload_n 1, 1) := by decide +kernel
theorem dX8_word_112 : decode cX8_word 112 = .ok (.invokevirtual 102, 3) := by decide +kernel
theorem dX8_word_115 : decode cX8_word 115 = .ok (.ifCond .eq 7, 3) := by decide +kernel
theorem dX8_word_118 : decode cX8_word 118 = .ok (.iconst 1, 1) := by decide +kernel
theorem dX8_word_119 : decode cX8_word 119 = .ok (.goto 4, 3) := by decide +kernel
theorem dX8_word_122 : decode cX8_word 122 = .ok (.iconst 0, 1) := by decide +kernel
theorem dX8_word_123 : decode cX8_word 123 = .ok (.ireturn, 1) := by decide +kernel
theorem dX8_word_124 : decode cX8_word 124 = .ok (.aload_n 0, 1) := by decide +kernel
theorem dX8_word_125 : decode cX8_word 125 = .ok (.getfield 30, 3) := by decide +kernel
theorem dX8_word_128 : decode cX8_word 128 = .ok (.iload_n 1, 1) := by decide +kernel
theorem dX8_word_129 : decode cX8_word 129 = .ok (.aload_n 0, 1) := by decide +kernel
theorem dX8_word_130 : decode cX8_word 130 = .ok (.getfield 30, 3) := by decide +kernel
theorem dX8_word_133 : decode cX8_word 133 = .ok (.getfield 105, 3) := by decide +kernel
theorem dX8_word_136 : decode cX8_word 136 = .ok (.invokevirtual 108, 3) := by decide +kernel
theorem dX8_word_139 : decode cX8_word 139 = .ok (.ifCond .eq 7, 3) := by decide +kernel
theorem dX8_word_142 : decode cX8_word 142 = .ok (.iconst 1, 1) := by decide +kernel
theorem dX8_word_143 : decode cX8_word 143 = .ok (.goto 4, 3) := by decide +kernel
theorem dX8_word_146 : decode cX8_word 146 = .ok (.iconst 0, 1) := by decide +kernel
theorem dX8_word_147 : decode cX8_word 147 = .ok (.ireturn, 1) := by decide +kernel
theorem dX8_bird_0 : decode cX8_bird 0 = .ok (.aload_n 0, 1) := by decide +kernel
theorem dX8_bird_1 : decode cX8_bird 1 = .ok (.getfield 30, 3) := by decide +kernel
theorem dX8_bird_4 : decode cX8_bird 4 = .ok (.iload_n 1, 1) := by decide +kernel
theorem dX8_bird_5 : decode cX8_bird 5 = .ok (.invokevirtual 112, 3) := by decide +kernel
theorem dX8_bird_8 : decode cX8_bird 8 = .ok (.ifCond .ne 9, 3) := by decide +kernel
theorem dX8_bird_11 : decode cX8_bird 11 = .ok (.aload_n 0, 1) := by decide +kernel
theorem dX8_bird_12 : decode cX8_bird 12 = .ok (.iconst (-1), 1) := by decide +kernel
theorem dX8_bird_13 : decode cX8_bird 13 = .ok (.invokevirtual 56, 3) := by decide +kernel
theorem dX8_bird_16 : decode cX8_bird 16 = .ok (.ireturn, 1) := by decide +kernel
theorem dX8_bird_17 : decode cX8_bird 17 = .ok (.iload_n 2, 1) := by decide +kernel
theorem dX8_bird_18 : decode cX8_bird 18 = .ok (.ifCond .lt 8, 3) := by decide +kernel
theorem dX8_bird_21 : decode cX8_bird 21 = .ok (.iload_n 2, 1) := by decide +kernel
theorem dX8_bird_22 : decode cX8_bird 22 = .ok (.iconst 5, 1) := by decide +kernel
theorem dX8_bird_23 : decode cX8_bird 23 = .ok (.if_icmp .lt 10, 3) := by decide +kernel
theorem dX8_bird_26 : decode cX8_bird 26 = .ok (.aload_n 0, 1) := by decide +kernel
theorem dX8_bird_27 : decode cX8_bird 27 = .ok (.bipush (-2), 2) := by decide +kernel
theorem dX8_bird_29 : decode cX8_bird 29 = .ok (.invokevirtual 56, 3) := by decide +kernel
theorem dX8_bird_32 : decode cX8_bird 32 = .ok (.ireturn, 1) := by decide +kernel
theorem dX8_bird_33 : decode cX8_bird 33 = .ok (.iload_n 2, 1) := by decide +kernel
theorem dX8_bird_34 : decode cX8_bird 34 = .ok (.tableswitch 70 0 3 #[30, 40, 50, 60], 30) := by decide +kernel
theorem dX8_bird_64 : decode cX8_bird 64 = .ok (.aload_n 0, 1) := by decide +kernel
theorem dX8_bird_65 : decode cX8_bird 65 = .ok (.getfield 30, 3) := by decide +kernel
theorem dX8_bird_68 : decode cX8_bird 68 = .ok (.getfield 115, 3) := by decide +kernel
theorem dX8_bird_71 : decode cX8_bird 71 = .ok (.iload_n 1, 1) := by decide +kernel
theorem dX8_bird_72 : decode cX8_bird 72 = .ok (.iaload, 1) := by decide +kernel
theorem dX8_bird_73 : decode cX8_bird 73 = .ok (.ireturn, 1) := by decide +kernel
theorem dX8_bird_74 : decode cX8_bird 74 = .ok (.aload_n 0, 1) := by decide +kernel
theorem dX8_bird_75 : decode cX8_bird 75 = .ok (.getfield 30, 3) := by decide +kernel
theorem dX8_bird_78 : decode cX8_bird 78 = .ok (.getfield 118, 3) := by decide +kernel
theorem dX8_bird_81 : decode cX8_bird 81 = .ok (.iload_n 1, 1) := by decide +kernel
theorem dX8_bird_82 : decode cX8_bird 82 = .ok (.iaload, 1) := by decide +kernel
theorem dX8_bird_83 : decode cX8_bird 83 = .ok (.ireturn, 1) := by decide +kernel
theorem dX8_bird_84 : decode cX8_bird 84 = .ok (.aload_n 0, 1) := by decide +kernel
theorem dX8_bird_85 : decode cX8_bird 85 = .ok (.getfield 30, 3) := by decide +kernel
theorem dX8_bird_88 : decode cX8_bird 88 = .ok (.getfield 121, 3) := by decide +kernel
theorem dX8_bird_91 : decode cX8_bird 91 = .ok (.iload_n 1, 1) := by decide +kernel
theorem dX8_bird_92 : decode cX8_bird 92 = .ok (.iaload, 1) := by decide +kernel
theorem dX8_bird_93 : decode cX8_bird 93 = .ok (.ireturn, 1) := by decide +kernel
theorem dX8_bird_94 : decode cX8_bird 94 = .ok (.aload_n 0, 1) := by decide +kernel
theorem dX8_bird_95 : decode cX8_bird 95 = .ok (.getfield 30, 3) := by decide +kernel
theorem dX8_bird_98 : decode cX8_bird 98 = .ok (.getfield 124, 3) := by decide +kernel
theorem dX8_bird_101 : decode cX8_bird 101 = .ok (.iload_n 1, 1) := by decide +kernel
theorem dX8_bird_102 : decode cX8_bird 102 = .ok (.iaload, 1) := by decide +kernel
theorem dX8_bird_103 : decode cX8_bird 103 = .ok (.ireturn, 1) := by decide +kernel
theorem dX8_bird_104 : decode cX8_bird 104 = .ok (.aload_n 0, 1) := by decide +kernel
theorem dX8_bird_105 : decode cX8_bird 105 = .ok (.getfield 30, 3) := by decide +kernel
theorem dX8_bird_108 : decode cX8_bird 108 = .ok (.iload_n 1, 1) := by decide +kernel
theorem dX8_bird_109 : decode cX8_bird 109 = .ok (.invokevirtual 127, 3) := by decide +kernel
theorem dX8_bird_112 : decode cX8_bird 112 = .ok (.aload_n 0, 1) := by decide +kernel
theorem dX8_bird_113 : decode cX8_bird 113 = .ok (.getfield 30, 3) := by decide +kernel
theorem dX8_bird_116 : decode cX8_bird 116 = .ok (.aload_n 0, 1) := by decide +kernel
theorem dX8_bird_117 : decode cX8_bird 117 = .ok (.getfield 30, 3) := by decide +kernel
theorem dX8_bird_120 : decode cX8_bird 120 = .ok (.getfield 118, 3) := by decide +kernel
theorem dX8_bird_123 : decode cX8_bird 123 = .ok (.iload_n 1, 1) := by decide +kernel
theorem dX8_bird_124 : decode cX8_bird 124 = .ok (.iaload, 1) := by decide +kernel
theorem dX8_bird_125 : decode cX8_bird 125 = .ok (.invokevirtual 131, 3) := by decide +kernel
theorem dX8_bird_128 : decode cX8_bird 128 = .ok (.ireturn, 1) := by decide +kernel
theorem dX8_bitter_0 : decode cX8_bitter 0 = .ok (.iload_n 1, 1) := by decide +kernel
theorem dX8_bitter_1 : decode cX8_bitter 1 = .ok (.invokestatic 135, 3) := by decide +kernel
theorem dX8_bitter_4 : decode cX8_bitter 4 = .ok (.ifCond .ne 9, 3) := by decide +kernel
theorem dX8_bitter_7 : decode cX8_bitter 7 = .ok (.aload_n 0, 1) := by decide +kernel
theorem dX8_bitter_8 : decode cX8_bitter 8 = .ok (.iconst (-1), 1) := by decide +kernel
theorem dX8_bitter_9 : decode cX8_bitter 9 = .ok (.invokevirtual 56, 3) := by decide +kernel
theorem dX8_bitter_12 : decode cX8_bitter 12 = .ok (.ireturn, 1) := by decide +kernel
theorem dX8_bitter_13 : decode cX8_bitter 13 = .ok (.iload_n 2, 1) := by decide +kernel
theorem dX8_bitter_14 : decode cX8_bitter 14 = .ok (.ifCond .ge 10, 3) := by decide +kernel
theorem dX8_bitter_17 : decode cX8_bitter 17 = .ok (.aload_n 0, 1) := by decide +kernel
theorem dX8_bitter_18 : decode cX8_bitter 18 = .ok (.bipush (-4), 2) := by decide +kernel
theorem dX8_bitter_20 : decode cX8_bitter 20 = .ok (.invokevirtual 56, 3) := by decide +kernel
theorem dX8_bitter_23 : decode cX8_bitter 23 = .ok (.ireturn, 1) := by decide +kernel
theorem dX8_bitter_24 : decode cX8_bitter 24 = .ok (.iload_n 2, 1) := by decide +kernel
theorem dX8_bitter_25 : decode cX8_bitter 25 = .ok (.bipush 9, 2) := by decide +kernel
theorem dX8_bitter_27 : decode cX8_bitter 27 = .ok (.if_icmp .le 10, 3) := by decide +kernel
theorem dX8_bitter_30 : decode cX8_bitter 30 = .ok (.aload_n 0, 1) := by decide +kernel
theorem dX8_bitter_31 : decode cX8_bitter 31 = .ok (.bipush (-6), 2) := by decide +kernel
theorem dX8_bitter_33 : decode cX8_bitter 33 = .ok (.invokevirtual 56, 3) := by decide +kernel
theorem dX8_bitter_36 : decode cX8_bitter 36 = .ok (.ireturn, 1) := by decide +kernel
theorem dX8_bitter_37 : decode cX8_bitter 37 = .ok (.aload_n 0, 1) := by decide +kernel
theorem dX8_bitter_38 : decode cX8_bitter 38 = .ok (.getfield 30, 3) := by decide +kernel
theorem dX8_bitter_41 : decode cX8_bitter 41 = .ok (.getfield 138, 3) := by decide +kernel
theorem dX8_bitter_44 : decode cX8_bitter 44 = .ok (.iload_n 1, 1) := by decide +kernel
theorem dX8_bitter_45 : decode cX8_bitter 45 = .ok (.iaload, 1) := by decide +kernel
theorem dX8_bitter_46 : decode cX8_bitter 46 = .ok (.istore_n 3, 1) := by decide +kernel
theorem dX8_bitter_47 : decode cX8_bitter 47 = .ok (.aload_n 0, 1) := by decide +kernel
theorem dX8_bitter_48 : decode cX8_bitter 48 = .ok (.getfield 30, 3) := by decide +kernel
theorem dX8_bitter_51 : decode cX8_bitter 51 = .ok (.iload_n 1, 1) := by decide +kernel
theorem dX8_bitter_52 : decode cX8_bitter 52 = .ok (.iload_n 2, 1) := by decide +kernel
theorem dX8_bitter_53 : decode cX8_bitter 53 = .ok (.invokevirtual 141, 3) := by decide +kernel
theorem dX8_bitter_56 : decode cX8_bitter 56 = .ok (.iload_n 3, 1) := by decide +kernel
theorem dX8_bitter_57 : decode cX8_bitter 57 = .ok (.ireturn, 1) := by decide +kernel
theorem dX8_ink_0 : decode cX8_ink 0 = .ok (.aload_n 0, 1) := by decide +kernel
theorem dX8_ink_1 : decode cX8_ink 1 = .ok (.getfield 30, 3) := by decide +kernel
theorem dX8_ink_4 : decode cX8_ink 4 = .ok (.iload_n 1, 1) := by decide +kernel
theorem dX8_ink_5 : decode cX8_ink 5 = .ok (.invokevirtual 86, 3) := by decide +kernel
theorem dX8_ink_8 : decode cX8_ink 8 = .ok (.ifCond .eq 10, 3) := by decide +kernel
theorem dX8_ink_11 : decode cX8_ink 11 = .ok (.iload_n 2, 1) := by decide +kernel
theorem dX8_ink_12 : decode cX8_ink 12 = .ok (.invokestatic 135, 3) := by decide +kernel
theorem dX8_ink_15 : decode cX8_ink 15 = .ok (.ifCond .ne 9, 3) := by decide +kernel
theorem dX8_ink_18 : decode cX8_ink 18 = .ok (.aload_n 0, 1) := by decide +kernel
theorem dX8_ink_19 : decode cX8_ink 19 = .ok (.iconst (-1), 1) := by decide +kernel
theorem dX8_ink_20 : decode cX8_ink 20 = .ok (.invokevirtual 56, 3) := by decide +kernel
theorem dX8_ink_23 : decode cX8_ink 23 = .ok (.ireturn, 1) := by decide +kernel
theorem dX8_ink_24 : decode cX8_ink 24 = .ok (.aload_n 0, 1) := by decide +kernel
theorem dX8_ink_25 : decode cX8_ink 25 = .ok (.getfield 30, 3) := by decide +kernel
theorem dX8_ink_28 : decode cX8_ink 28 = .ok (.getfield 93, 3) := by decide +kernel
theorem dX8_ink_31 : decode cX8_ink 31 = .ok (.iload_n 1, 1) := by decide +kernel
theorem dX8_ink_32 : decode cX8_ink 32 = .ok (.iaload, 1) := by decide +kernel
theorem dX8_ink_33 : decode cX8_ink 33 = .ok (.istore_n 3, 1) := by decide +kernel
theorem dX8_ink_34 : decode cX8_ink 34 = .ok (.aload_n 0, 1) := by decide +kernel
theorem dX8_ink_35 : decode cX8_ink 35 = .ok (.getfield 30, 3) := by decide +kernel
theorem dX8_ink_38 : decode cX8_ink 38 = .ok (.getfield 93, 3) := by decide +kernel
theorem dX8_ink_41 : decode cX8_ink 41 = .ok (.iload_n 1, 1) := by decide +kernel
theorem dX8_ink_42 : decode cX8_ink 42 = .ok (.iload_n 2, 1) := by decide +kernel
theorem dX8_ink_43 : decode cX8_ink 43 = .ok (.iastore, 1) := by decide +kernel
theorem dX8_ink_44 : decode cX8_ink 44 = .ok (.iload_n 3, 1) := by decide +kernel
theorem dX8_ink_45 : decode cX8_ink 45 = .ok (.ireturn, 1) := by decide +kernel
theorem dX8_watch_0 : decode cX8_watch 0 = .ok (.aload_n 0, 1) := by decide +kernel
theorem dX8_watch_1 : decode cX8_watch 1 = .ok (.getfield 30, 3) := by decide +kernel
theorem dX8_watch_4 : decode cX8_watch 4 = .ok (.iload_n 1, 1) := by decide +kernel
theorem dX8_watch_5 : decode cX8_watch 5 = .ok (.invokevirtual 86, 3) := by decide +kernel
theorem dX8_watch_8 : decode cX8_watch 8 = .ok (.ifCond .ne 9, 3) := by decide +kernel
theorem dX8_watch_11 : decode cX8_watch 11 = .ok (.aload_n 0, 1) := by decide +kernel
theorem dX8_watch_12 : decode cX8_watch 12 = .ok (.iconst (-1), 1) := by decide +kernel
theorem dX8_watch_13 : decode cX8_watch 13 = .ok (.invokevirtual 56, 3) := by decide +kernel
theorem dX8_watch_16 : decode cX8_watch 16 = .ok (.ireturn, 1) := by decide +kernel
theorem dX8_watch_17 : decode cX8_watch 17 = .ok (.iload_n 2, 1) := by decide +kernel
theorem dX8_watch_18 : decode cX8_watch 18 = .ok (.ifCond .ge 10, 3) := by decide +kernel
theorem dX8_watch_21 : decode cX8_watch 21 = .ok (.aload_n 0, 1) := by decide +kernel
theorem dX8_watch_22 : decode cX8_watch 22 = .ok (.bipush (-4), 2) := by decide +kernel
theorem dX8_watch_24 : decode cX8_watch 24 = .ok (.invokevirtual 56, 3) := by decide +kernel
theorem dX8_watch_27 : decode cX8_watch 27 = .ok (.ireturn, 1) := by decide +kernel
theorem dX8_watch_28 : decode cX8_watch 28 = .ok (.iload_n 2, 1) := by decide +kernel
theorem dX8_watch_29 : decode cX8_watch 29 = .ok (.bipush 8, 2) := by decide +kernel
theorem dX8_watch_31 : decode cX8_watch 31 = .ok (.if_icmp .lt 10, 3) := by decide +kernel
theorem dX8_watch_34 : decode cX8_watch 34 = .ok (.aload_n 0, 1) := by decide +kernel
theorem dX8_watch_35 : decode cX8_watch 35 = .ok (.bipush (-6), 2) := by decide +kernel
theorem dX8_watch_37 : decode cX8_watch 37 = .ok (.invokevirtual 56, 3) := by decide +kernel
theorem dX8_watch_40 : decode cX8_watch 40 = .ok (.ireturn, 1) := by decide +kernel
theorem dX8_watch_41 : decode cX8_watch 41 = .ok (.iload_n 3, 1) := by decide +kernel
theorem dX8_watch_42 : decode cX8_watch 42 = .ok (.ifCond .eq 15, 3) := by decide +kernel
theorem dX8_watch_45 : decode cX8_watch 45 = .ok (.iload_n 3, 1) := by decide +kernel
theorem dX8_watch_46 : decode cX8_watch 46 = .ok (.iconst 1, 1) := by decide +kernel
theorem dX8_watch_47 : decode cX8_watch 47 = .ok (.if_icmp .eq 10, 3) := by decide +kernel
theorem dX8_watch_50 : decode cX8_watch 50 = .ok (.aload_n 0, 1) := by decide +kernel
theorem dX8_watch_51 : decode cX8_watch 51 = .ok (.bipush (-2), 2) := by decide +kernel
theorem dX8_watch_53 : decode cX8_watch 53 = .ok (.invokevirtual 56, 3) := by decide +kernel
theorem dX8_watch_56 : decode cX8_watch 56 = .ok (.ireturn, 1) := by decide +kernel
theorem dX8_watch_57 : decode cX8_watch 57 = .ok (.aload_n 0, 1) := by decide +kernel
theorem dX8_watch_58 : decode cX8_watch 58 = .ok (.getfield 30, 3) := by decide +kernel
theorem dX8_watch_61 : decode cX8_watch 61 = .ok (.iload_n 1, 1) := by decide +kernel
theorem dX8_watch_62 : decode cX8_watch 62 = .ok (.iload_n 2, 1) := by decide +kernel
theorem dX8_watch_63 : decode cX8_watch 63 = .ok (.invokevirtual 108, 3) := by decide +kernel
theorem dX8_watch_66 : decode cX8_watch 66 = .ok (.ifCond .eq 7, 3) := by decide +kernel
theorem dX8_watch_69 : decode cX8_watch 69 = .ok (.iconst 1, 1) := by decide +kernel
theorem dX8_watch_70 : decode cX8_watch 70 = .ok (.goto 4, 3) := by decide +kernel
theorem dX8_watch_73 : decode cX8_watch 73 = .ok (.iconst 0, 1) := by decide +kernel
theorem dX8_watch_74 : decode cX8_watch 74 = .ok (.istore 4, 2) := by decide +kernel
theorem dX8_watch_76 : decode cX8_watch 76 = .ok (.aload_n 0, 1) := by decide +kernel
theorem dX8_watch_77 : decode cX8_watch 77 = .ok (.getfield 30, 3) := by decide +kernel
theorem dX8_watch_80 : decode cX8_watch 80 = .ok (.iload_n 1, 1) := by decide +kernel
theorem dX8_watch_81 : decode cX8_watch 81 = .ok (.iload_n 2, 1) := by decide +kernel
theorem dX8_watch_82 : decode cX8_watch 82 = .ok (.iload_n 3, 1) := by decide +kernel
theorem dX8_watch_83 : decode cX8_watch 83 = .ok (.iconst 1, 1) := by decide +kernel
theorem dX8_watch_84 : decode cX8_watch 84 = .ok (.if_icmp .ne 7, 3) := by decide +kernel
theorem dX8_watch_87 : decode cX8_watch 87 = .ok (.iconst 1, 1) := by decide +kernel
theorem dX8_watch_88 : decode cX8_watch 88 = .ok (.goto 4, 3) := by decide +kernel
theorem dX8_watch_91 : decode cX8_watch 91 = .ok (.iconst 0, 1) := by decide +kernel
theorem dX8_watch_92 : decode cX8_watch 92 = .ok (.invokevirtual 145, 3) := by decide +kernel
theorem dX8_watch_95 : decode cX8_watch 95 = .ok (.iload 4, 2) := by decide +kernel
theorem dX8_watch_97 : decode cX8_watch 97 = .ok (.ireturn, 1) := by decide +kernel
theorem dX8_hour_0 : decode cX8_hour 0 = .ok (.aload_n 0, 1) := by decide +kernel
theorem dX8_hour_1 : decode cX8_hour 1 = .ok (.getfield 30, 3) := by decide +kernel
theorem dX8_hour_4 : decode cX8_hour 4 = .ok (.getfield 105, 3) := by decide +kernel
theorem dX8_hour_7 : decode cX8_hour 7 = .ok (.bipush 8, 2) := by decide +kernel
theorem dX8_hour_9 : decode cX8_hour 9 = .ok (.if_icmp .lt 10, 3) := by decide +kernel
theorem dX8_hour_12 : decode cX8_hour 12 = .ok (.aload_n 0, 1) := by decide +kernel
theorem dX8_hour_13 : decode cX8_hour 13 = .ok (.bipush (-3), 2) := by decide +kernel
theorem dX8_hour_15 : decode cX8_hour 15 = .ok (.invokevirtual 56, 3) := by decide +kernel
theorem dX8_hour_18 : decode cX8_hour 18 = .ok (.ireturn, 1) := by decide +kernel
theorem dX8_hour_19 : decode cX8_hour 19 = .ok (.aload_n 0, 1) := by decide +kernel
theorem dX8_hour_20 : decode cX8_hour 20 = .ok (.getfield 30, 3) := by decide +kernel
theorem dX8_hour_23 : decode cX8_hour 23 = .ok (.invokevirtual 149, 3) := by decide +kernel
theorem dX8_hour_26 : decode cX8_hour 26 = .ok (.ireturn, 1) := by decide +kernel
theorem dX8_anew_0 : decode cX8_anew 0 = .ok (.aload_n 0, 1) := by decide +kernel
theorem dX8_anew_1 : decode cX8_anew 1 = .ok (.getfield 30, 3) := by decide +kernel
theorem dX8_anew_4 : decode cX8_anew 4 = .ok (.iconst 0, 1) := by decide +kernel
theorem dX8_anew_5 : decode cX8_anew 5 = .ok (.putfield 153, 3) := by decide +kernel
theorem dX8_anew_8 : decode cX8_anew 8 = .ok (.aload_n 0, 1) := by decide +kernel
theorem dX8_anew_9 : decode cX8_anew 9 = .ok (.getfield 30, 3) := by decide +kernel
theorem dX8_anew_12 : decode cX8_anew 12 = .ok (.iconst 0, 1) := by decide +kernel
theorem dX8_anew_13 : decode cX8_anew 13 = .ok (.putfield 105, 3) := by decide +kernel
theorem dX8_anew_16 : decode cX8_anew 16 = .ok (.aload_n 0, 1) := by decide +kernel
theorem dX8_anew_17 : decode cX8_anew 17 = .ok (.getfield 30, 3) := by decide +kernel
theorem dX8_anew_20 : decode cX8_anew 20 = .ok (.getfield 68, 3) := by decide +kernel
theorem dX8_anew_23 : decode cX8_anew 23 = .ok (.ireturn, 1) := by decide +kernel
theorem dX8_left_0 : decode cX8_left 0 = .ok (.iload_n 1, 1) := by decide +kernel
theorem dX8_left_1 : decode cX8_left 1 = .ok (.ifCond .ge 10, 3) := by decide +kernel
theorem dX8_left_4 : decode cX8_left 4 = .ok (.aload_n 0, 1) := by decide +kernel
theorem dX8_left_5 : decode cX8_left 5 = .ok (.bipush (-4), 2) := by decide +kernel
theorem dX8_left_7 : decode cX8_left 7 = .ok (.invokevirtual 56, 3) := by decide +kernel
theorem dX8_left_10 : decode cX8_left 10 = .ok (.ireturn, 1) := by decide +kernel
theorem dX8_left_11 : decode cX8_left 11 = .ok (.iload_n 1, 1) := by decide +kernel
theorem dX8_left_12 : decode cX8_left 12 = .ok (.bipush 8, 2) := by decide +kernel
theorem dX8_left_14 : decode cX8_left 14 = .ok (.if_icmp .le 10, 3) := by decide +kernel
theorem dX8_left_17 : decode cX8_left 17 = .ok (.aload_n 0, 1) := by decide +kernel
theorem dX8_left_18 : decode cX8_left 18 = .ok (.bipush (-6), 2) := by decide +kernel
theorem dX8_left_20 : decode cX8_left 20 = .ok (.invokevirtual 56, 3) := by decide +kernel
theorem dX8_left_23 : decode cX8_left 23 = .ok (.ireturn, 1) := by decide +kernel
theorem dX8_left_24 : decode cX8_left 24 = .ok (.aload_n 0, 1) := by decide +kernel
theorem dX8_left_25 : decode cX8_left 25 = .ok (.invokevirtual 156, 3) := by decide +kernel
theorem dX8_left_28 : decode cX8_left 28 = .ok (.astore_n 2, 1) := by decide +kernel
theorem dX8_left_29 : decode cX8_left 29 = .ok (.iconst 0, 1) := by decide +kernel
theorem dX8_left_30 : decode cX8_left 30 = .ok (.istore_n 3, 1) := by decide +kernel
theorem dX8_left_31 : decode cX8_left 31 = .ok (.iload_n 3, 1) := by decide +kernel
theorem dX8_left_32 : decode cX8_left 32 = .ok (.iload_n 1, 1) := by decide +kernel
theorem dX8_left_33 : decode cX8_left 33 = .ok (.if_icmp .ge 14, 3) := by decide +kernel
theorem dX8_left_36 : decode cX8_left 36 = .ok (.aload_n 2, 1) := by decide +kernel
theorem dX8_left_37 : decode cX8_left 37 = .ok (.invokevirtual 149, 3) := by decide +kernel
theorem dX8_left_40 : decode cX8_left 40 = .ok (.pop, 1) := by decide +kernel
theorem dX8_left_41 : decode cX8_left 41 = .ok (.iinc 3 1, 3) := by decide +kernel
theorem dX8_left_44 : decode cX8_left 44 = .ok (.goto (-13), 3) := by decide +kernel
theorem dX8_left_47 : decode cX8_left 47 = .ok (.aload_n 2, 1) := by decide +kernel
theorem dX8_left_48 : decode cX8_left 48 = .ok (.invokevirtual 160, 3) := by decide +kernel
theorem dX8_left_51 : decode cX8_left 51 = .ok (.ireturn, 1) := by decide +kernel
theorem dX8_eaten_0 : decode cX8_eaten 0 = .ok (.aload_n 0, 1) := by decide +kernel
theorem dX8_eaten_1 : decode cX8_eaten 1 = .ok (.getfield 30, 3) := by decide +kernel
theorem dX8_eaten_4 : decode cX8_eaten 4 = .ok (.iload_n 1, 1) := by decide +kernel
theorem dX8_eaten_5 : decode cX8_eaten 5 = .ok (.invokevirtual 86, 3) := by decide +kernel
theorem dX8_eaten_8 : decode cX8_eaten 8 = .ok (.ifCond .ne 9, 3) := by decide +kernel
theorem dX8_eaten_11 : decode cX8_eaten 11 = .ok (.aload_n 0, 1) := by decide +kernel
theorem dX8_eaten_12 : decode cX8_eaten 12 = .ok (.iconst (-1), 1) := by decide +kernel
theorem dX8_eaten_13 : decode cX8_eaten 13 = .ok (.invokevirtual 56, 3) := by decide +kernel
theorem dX8_eaten_16 : decode cX8_eaten 16 = .ok (.ireturn, 1) := by decide +kernel
theorem dX8_eaten_17 : decode cX8_eaten 17 = .ok (.aload_n 0, 1) := by decide +kernel
theorem dX8_eaten_18 : decode cX8_eaten 18 = .ok (.getfield 30, 3) := by decide +kernel
theorem dX8_eaten_21 : decode cX8_eaten 21 = .ok (.iload_n 1, 1) := by decide +kernel
theorem dX8_eaten_22 : decode cX8_eaten 22 = .ok (.invokevirtual 102, 3) := by decide +kernel
theorem dX8_eaten_25 : decode cX8_eaten 25 = .ok (.ifCond .eq 6, 3) := by decide +kernel
theorem dX8_eaten_28 : decode cX8_eaten 28 = .ok (.bipush 9, 2) := by decide +kernel
theorem dX8_eaten_30 : decode cX8_eaten 30 = .ok (.ireturn, 1) := by decide +kernel
theorem dX8_eaten_31 : decode cX8_eaten 31 = .ok (.aload_n 0, 1) := by decide +kernel
theorem dX8_eaten_32 : decode cX8_eaten 32 = .ok (.invokevirtual 156, 3) := by decide +kernel
theorem dX8_eaten_35 : decode cX8_eaten 35 = .ok (.iload_n 1, 1) := by decide +kernel
theorem dX8_eaten_36 : decode cX8_eaten 36 = .ok (.invokevirtual 163, 3) := by decide +kernel
theorem dX8_eaten_39 : decode cX8_eaten 39 = .ok (.istore_n 2, 1) := by decide +kernel
theorem dX8_eaten_40 : decode cX8_eaten 40 = .ok (.iload_n 2, 1) := by decide +kernel
theorem dX8_eaten_41 : decode cX8_eaten 41 = .ok (.bipush 8, 2) := by decide +kernel
theorem dX8_eaten_43 : decode cX8_eaten 43 = .ok (.if_icmp .ne 8, 3) := by decide +kernel
theorem dX8_eaten_46 : decode cX8_eaten 46 = .ok (.bipush (-9), 2) := by decide +kernel
theorem dX8_eaten_48 : decode cX8_eaten 48 = .ok (.goto 4, 3) := by decide +kernel
theorem dX8_eaten_51 : decode cX8_eaten 51 = .ok (.iload_n 2, 1) := by decide +kernel
theorem dX8_eaten_52 : decode cX8_eaten 52 = .ok (.ireturn, 1) := by decide +kernel
theorem dX8_meanings_0 : decode cX8_meanings 0 = .ok (.aload_n 0, 1) := by decide +kernel
theorem dX8_meanings_1 : decode cX8_meanings 1 = .ok (.invokevirtual 156, 3) := by decide +kernel
theorem dX8_meanings_4 : decode cX8_meanings 4 = .ok (.astore_n 1, 1) := by decide +kernel
theorem dX8_meanings_5 : decode cX8_meanings 5 = .ok (.aload_n 1, 1) := by decide +kernel
theorem dX8_meanings_6 : decode cX8_meanings 6 = .ok (.invokevirtual 166, 3) := by decide +kernel
theorem dX8_meanings_9 : decode cX8_meanings 9 = .ok (.pop, 1) := by decide +kernel
theorem dX8_meanings_10 : decode cX8_meanings 10 = .ok (.aload_n 1, 1) := by decide +kernel
theorem dX8_meanings_11 : decode cX8_meanings 11 = .ok (.invokevirtual 169, 3) := by decide +kernel
theorem dX8_meanings_14 : decode cX8_meanings 14 = .ok (.ireturn, 1) := by decide +kernel
theorem dX8_remain_0 : decode cX8_remain 0 = .ok (.aload_n 0, 1) := by decide +kernel
theorem dX8_remain_1 : decode cX8_remain 1 = .ok (.invokevirtual 156, 3) := by decide +kernel
theorem dX8_remain_4 : decode cX8_remain 4 = .ok (.invokevirtual 166, 3) := by decide +kernel
theorem dX8_remain_7 : decode cX8_remain 7 = .ok (.ireturn, 1) := by decide +kernel
theorem dX8_holds_0 : decode cX8_holds 0 = .ok (.iload_n 1, 1) := by decide +kernel
theorem dX8_holds_1 : decode cX8_holds 1 = .ok (.ifCond .le 10, 3) := by decide +kernel
theorem dX8_holds_4 : decode cX8_holds 4 = .ok (.iload_n 1, 1) := by decide +kernel
theorem dX8_holds_5 : decode cX8_holds 5 = .ok (.sipush 1024, 3) := by decide +kernel
theorem dX8_holds_8 : decode cX8_holds 8 = .ok (.if_icmp .lt 9, 3) := by decide +kernel
theorem dX8_holds_11 : decode cX8_holds 11 = .ok (.aload_n 0, 1) := by decide +kernel
theorem dX8_holds_12 : decode cX8_holds 12 = .ok (.iconst (-1), 1) := by decide +kernel
theorem dX8_holds_13 : decode cX8_holds 13 = .ok (.invokevirtual 56, 3) := by decide +kernel
theorem dX8_holds_16 : decode cX8_holds 16 = .ok (.ireturn, 1) := by decide +kernel
theorem dX8_holds_17 : decode cX8_holds 17 = .ok (.bipush 10, 2) := by decide +kernel
theorem dX8_holds_19 : decode cX8_holds 19 = .ok (.istore_n 2, 1) := by decide +kernel
theorem dX8_holds_20 : decode cX8_holds 20 = .ok (.iconst 0, 1) := by decide +kernel
theorem dX8_holds_21 : decode cX8_holds 21 = .ok (.istore_n 3, 1) := by decide +kernel
theorem dX8_holds_22 : decode cX8_holds 22 = .ok (.iload_n 3, 1) := by decide +kernel
theorem dX8_holds_23 : decode cX8_holds 23 = .ok (.bipush 10, 2) := by decide +kernel
theorem dX8_holds_25 : decode cX8_holds 25 = .ok (.if_icmp .ge 31, 3) := by decide +kernel
theorem dX8_holds_28 : decode cX8_holds 28 = .ok (.iload_n 1, 1) := by decide +kernel
theorem dX8_holds_29 : decode cX8_holds 29 = .ok (.iload_n 3, 1) := by decide +kernel
theorem dX8_holds_30 : decode cX8_holds 30 = .ok (.ishr, 1) := by decide +kernel
theorem dX8_holds_31 : decode cX8_holds 31 = .ok (.iconst 1, 1) := by decide +kernel
theorem dX8_holds_32 : decode cX8_holds 32 = .ok (.iand, 1) := by decide +kernel
theorem dX8_holds_33 : decode cX8_holds 33 = .ok (.iconst 1, 1) := by decide +kernel
theorem dX8_holds_34 : decode cX8_holds 34 = .ok (.if_icmp .ne 16, 3) := by decide +kernel
theorem dX8_holds_37 : decode cX8_holds 37 = .ok (.iload_n 2, 1) := by decide +kernel
theorem dX8_holds_38 : decode cX8_holds 38 = .ok (.aload_n 0, 1) := by decide +kernel
theorem dX8_holds_39 : decode cX8_holds 39 = .ok (.getfield 30, 3) := by decide +kernel
theorem dX8_holds_42 : decode cX8_holds 42 = .ok (.iload_n 3, 1) := by decide +kernel
theorem dX8_holds_43 : decode cX8_holds 43 = .ok (.invokevirtual 172, 3) := by decide +kernel
theorem dX8_holds_46 : decode cX8_holds 46 = .ok (.invokestatic 175, 3) := by decide +kernel
theorem dX8_holds_49 : decode cX8_holds 49 = .ok (.istore_n 2, 1) := by decide +kernel
theorem dX8_holds_50 : decode cX8_holds 50 = .ok (.iinc 3 1, 3) := by decide +kernel
theorem dX8_holds_53 : decode cX8_holds 53 = .ok (.goto (-31), 3) := by decide +kernel
theorem dX8_holds_56 : decode cX8_holds 56 = .ok (.iload_n 2, 1) := by decide +kernel
theorem dX8_holds_57 : decode cX8_holds 57 = .ok (.ifCond .ne 8, 3) := by decide +kernel
theorem dX8_holds_60 : decode cX8_holds 60 = .ok (.bipush (-9), 2) := by decide +kernel
theorem dX8_holds_62 : decode cX8_holds 62 = .ok (.goto 6, 3) := by decide +kernel
theorem dX8_holds_65 : decode cX8_holds 65 = .ok (.iload_n 2, 1) := by decide +kernel
theorem dX8_holds_66 : decode cX8_holds 66 = .ok (.iconst 1, 1) := by decide +kernel
theorem dX8_holds_67 : decode cX8_holds 67 = .ok (.isub, 1) := by decide +kernel
theorem dX8_holds_68 : decode cX8_holds 68 = .ok (.ireturn, 1) := by decide +kernel
theorem dX8_boys_0 : decode cX8_boys 0 = .ok (.aload_n 0, 1) := by decide +kernel
theorem dX8_boys_1 : decode cX8_boys 1 = .ok (.getfield 30, 3) := by decide +kernel
theorem dX8_boys_4 : decode cX8_boys 4 = .ok (.iload_n 1, 1) := by decide +kernel
theorem dX8_boys_5 : decode cX8_boys 5 = .ok (.invokevirtual 180, 3) := by decide +kernel
theorem dX8_boys_8 : decode cX8_boys 8 = .ok (.ifCond .ne 9, 3) := by decide +kernel
theorem dX8_boys_11 : decode cX8_boys 11 = .ok (.aload_n 0, 1) := by decide +kernel
theorem dX8_boys_12 : decode cX8_boys 12 = .ok (.iconst (-1), 1) := by decide +kernel
theorem dX8_boys_13 : decode cX8_boys 13 = .ok (.invokevirtual 56, 3) := by decide +kernel
theorem dX8_boys_16 : decode cX8_boys 16 = .ok (.ireturn, 1) := by decide +kernel
theorem dX8_boys_17 : decode cX8_boys 17 = .ok (.iload_n 1, 1) := by decide +kernel
theorem dX8_boys_18 : decode cX8_boys 18 = .ok (.aload_n 0, 1) := by decide +kernel
theorem dX8_boys_19 : decode cX8_boys 19 = .ok (.getfield 30, 3) := by decide +kernel
theorem dX8_boys_22 : decode cX8_boys 22 = .ok (.getfield 153, 3) := by decide +kernel
theorem dX8_boys_25 : decode cX8_boys 25 = .ok (.iand, 1) := by decide +kernel
theorem dX8_boys_26 : decode cX8_boys 26 = .ok (.ifCond .eq 10, 3) := by decide +kernel
theorem dX8_boys_29 : decode cX8_boys 29 = .ok (.aload_n 0, 1) := by decide +kernel
theorem dX8_boys_30 : decode cX8_boys 30 = .ok (.bipush (-3), 2) := by decide +kernel
theorem dX8_boys_32 : decode cX8_boys 32 = .ok (.invokevirtual 56, 3) := by decide +kernel
theorem dX8_boys_35 : decode cX8_boys 35 = .ok (.ireturn, 1) := by decide +kernel
theorem dX8_boys_36 : decode cX8_boys 36 = .ok (.iload_n 1, 1) := by decide +kernel
theorem dX8_boys_37 : decode cX8_boys 37 = .ok (.istore_n 2, 1) := by decide +kernel
theorem dX8_boys_38 : decode cX8_boys 38 = .ok (.iload_n 1, 1) := by decide +kernel
theorem dX8_boys_39 : decode cX8_boys 39 = .ok (.invokestatic 183, 3) := by decide +kernel
theorem dX8_boys_42 : decode cX8_boys 42 = .ok (.iconst 1, 1) := by decide +kernel
theorem dX8_boys_43 : decode cX8_boys 43 = .ok (.iadd, 1) := by decide +kernel
theorem dX8_boys_44 : decode cX8_boys 44 = .ok (.istore_n 3, 1) := by decide +kernel
theorem dX8_boys_45 : decode cX8_boys 45 = .ok (.iconst 0, 1) := by decide +kernel
theorem dX8_boys_46 : decode cX8_boys 46 = .ok (.istore 4, 2) := by decide +kernel
theorem dX8_boys_48 : decode cX8_boys 48 = .ok (.iload 4, 2) := by decide +kernel
theorem dX8_boys_50 : decode cX8_boys 50 = .ok (.aload_n 0, 1) := by decide +kernel
theorem dX8_boys_51 : decode cX8_boys 51 = .ok (.getfield 30, 3) := by decide +kernel
theorem dX8_boys_54 : decode cX8_boys 54 = .ok (.invokevirtual 188, 3) := by decide +kernel
theorem dX8_boys_57 : decode cX8_boys 57 = .ok (.if_icmp .gt 62, 3) := by decide +kernel
theorem dX8_boys_60 : decode cX8_boys 60 = .ok (.iload 4, 2) := by decide +kernel
theorem dX8_boys_62 : decode cX8_boys 62 = .ok (.invokestatic 183, 3) := by decide +kernel
theorem dX8_boys_65 : decode cX8_boys 65 = .ok (.iload_n 3, 1) := by decide +kernel
theorem dX8_boys_66 : decode cX8_boys 66 = .ok (.if_icmp .ge 20, 3) := by decide +kernel
theorem dX8_boys_69 : decode cX8_boys 69 = .ok (.iload 4, 2) := by decide +kernel
theorem dX8_boys_71 : decode cX8_boys 71 = .ok (.aload_n 0, 1) := by decide +kernel
theorem dX8_boys_72 : decode cX8_boys 72 = .ok (.getfield 30, 3) := by decide +kernel
theorem dX8_boys_75 : decode cX8_boys 75 = .ok (.getfield 153, 3) := by decide +kernel
theorem dX8_boys_78 : decode cX8_boys 78 = .ok (.iand, 1) := by decide +kernel
theorem dX8_boys_79 : decode cX8_boys 79 = .ok (.ifCond .ne 7, 3) := by decide +kernel
theorem dX8_boys_82 : decode cX8_boys 82 = .ok (.iconst 1, 1) := by decide +kernel
theorem dX8_boys_83 : decode cX8_boys 83 = .ok (.goto 4, 3) := by decide +kernel
theorem dX8_boys_86 : decode cX8_boys 86 = .ok (.iconst 0, 1) := by decide +kernel
theorem dX8_boys_87 : decode cX8_boys 87 = .ok (.istore 5, 2) := by decide +kernel
theorem dX8_boys_89 : decode cX8_boys 89 = .ok (.iload 5, 2) := by decide +kernel
theorem dX8_boys_91 : decode cX8_boys 91 = .ok (.ifCond .eq 22, 3) := by decide +kernel
theorem dX8_boys_94 : decode cX8_boys 94 = .ok (.aload_n 0, 1) := by decide +kernel
theorem dX8_boys_95 : decode cX8_boys 95 = .ok (.iload_n 1, 1) := by decide +kernel
theorem dX8_boys_96 : decode cX8_boys 96 = .ok (.iload 4, 2) := by decide +kernel
theorem dX8_boys_98 : decode cX8_boys 98 = .ok (.invokevirtual 191, 3) := by decide +kernel
theorem dX8_boys_101 : decode cX8_boys 101 = .ok (.ifCond .eq 12, 3) := by decide +kernel
theorem dX8_boys_104 : decode cX8_boys 104 = .ok (.iload 4, 2) := by decide +kernel
theorem dX8_boys_106 : decode cX8_boys 106 = .ok (.istore_n 2, 1) := by decide +kernel
theorem dX8_boys_107 : decode cX8_boys 107 = .ok (.iload 4, 2) := by decide +kernel
theorem dX8_boys_109 : decode cX8_boys 109 = .ok (.invokestatic 183, 3) := by decide +kernel
theorem dX8_boys_112 : decode cX8_boys 112 = .ok (.istore_n 3, 1) := by decide +kernel
theorem dX8_boys_113 : decode cX8_boys 113 = .ok (.iinc 4 1, 3) := by decide +kernel
theorem dX8_boys_116 : decode cX8_boys 116 = .ok (.goto (-68), 3) := by decide +kernel
theorem dX8_boys_119 : decode cX8_boys 119 = .ok (.iload_n 2, 1) := by decide +kernel
theorem dX8_boys_120 : decode cX8_boys 120 = .ok (.ireturn, 1) := by decide +kernel
theorem dX8_guard_0 : decode cX8_guard 0 = .ok (.bipush (-9), 2) := by decide +kernel
theorem dX8_guard_2 : decode cX8_guard 2 = .ok (.istore_n 1, 1) := by decide +kernel
theorem dX8_guard_3 : decode cX8_guard 3 = .ok (.iconst (-1), 1) := by decide +kernel
theorem dX8_guard_4 : decode cX8_guard 4 = .ok (.istore_n 2, 1) := by decide +kernel
theorem dX8_guard_5 : decode cX8_guard 5 = .ok (.aload_n 0, 1) := by decide +kernel
theorem dX8_guard_6 : decode cX8_guard 6 = .ok (.getfield 30, 3) := by decide +kernel
theorem dX8_guard_9 : decode cX8_guard 9 = .ok (.getfield 105, 3) := by decide +kernel
theorem dX8_guard_12 : decode cX8_guard 12 = .ok (.istore_n 3, 1) := by decide +kernel
theorem dX8_guard_13 : decode cX8_guard 13 = .ok (.iload_n 3, 1) := by decide +kernel
theorem dX8_guard_14 : decode cX8_guard 14 = .ok (.bipush 8, 2) := by decide +kernel
theorem dX8_guard_16 : decode cX8_guard 16 = .ok (.if_icmp .ge 45, 3) := by decide +kernel
theorem dX8_guard_19 : decode cX8_guard 19 = .ok (.aload_n 0, 1) := by decide +kernel
theorem dX8_guard_20 : decode cX8_guard 20 = .ok (.invokevirtual 156, 3) := by decide +kernel
theorem dX8_guard_23 : decode cX8_guard 23 = .ok (.astore 4, 2) := by decide +kernel
theorem dX8_guard_25 : decode cX8_guard 25 = .ok (.aload 4, 2) := by decide +kernel
theorem dX8_guard_27 : decode cX8_guard 27 = .ok (.getfield 194, 3) := by decide +kernel
theorem dX8_guard_30 : decode cX8_guard 30 = .ok (.iload_n 3, 1) := by decide +kernel
theorem dX8_guard_31 : decode cX8_guard 31 = .ok (.aload 4, 2) := by decide +kernel
theorem dX8_guard_33 : decode cX8_guard 33 = .ok (.invokevirtual 188, 3) := by decide +kernel
theorem dX8_guard_36 : decode cX8_guard 36 = .ok (.iastore, 1) := by decide +kernel
theorem dX8_guard_37 : decode cX8_guard 37 = .ok (.aload 4, 2) := by decide +kernel
theorem dX8_guard_39 : decode cX8_guard 39 = .ok (.invokevirtual 166, 3) := by decide +kernel
theorem dX8_guard_42 : decode cX8_guard 42 = .ok (.istore 5, 2) := by decide +kernel
theorem dX8_guard_44 : decode cX8_guard 44 = .ok (.iload 5, 2) := by decide +kernel
theorem dX8_guard_46 : decode cX8_guard 46 = .ok (.iload_n 2, 1) := by decide +kernel
theorem dX8_guard_47 : decode cX8_guard 47 = .ok (.if_icmp .le 8, 3) := by decide +kernel
theorem dX8_guard_50 : decode cX8_guard 50 = .ok (.iload 5, 2) := by decide +kernel
theorem dX8_guard_52 : decode cX8_guard 52 = .ok (.istore_n 2, 1) := by decide +kernel
theorem dX8_guard_53 : decode cX8_guard 53 = .ok (.iload_n 3, 1) := by decide +kernel
theorem dX8_guard_54 : decode cX8_guard 54 = .ok (.istore_n 1, 1) := by decide +kernel
theorem dX8_guard_55 : decode cX8_guard 55 = .ok (.iinc 3 1, 3) := by decide +kernel
theorem dX8_guard_58 : decode cX8_guard 58 = .ok (.goto (-45), 3) := by decide +kernel
theorem dX8_guard_61 : decode cX8_guard 61 = .ok (.iload_n 1, 1) := by decide +kernel
theorem dX8_guard_62 : decode cX8_guard 62 = .ok (.ireturn, 1) := by decide +kernel
theorem dX8_winter_0 : decode cX8_winter 0 = .ok (.aload_n 0, 1) := by decide +kernel
theorem dX8_winter_1 : decode cX8_winter 1 = .ok (.getfield 30, 3) := by decide +kernel
theorem dX8_winter_4 : decode cX8_winter 4 = .ok (.iload_n 1, 1) := by decide +kernel
theorem dX8_winter_5 : decode cX8_winter 5 = .ok (.invokevirtual 112, 3) := by decide +kernel
theorem dX8_winter_8 : decode cX8_winter 8 = .ok (.ifCond .ne 12, 3) := by decide +kernel
theorem dX8_winter_11 : decode cX8_winter 11 = .ok (.ldc 197, 2) := by decide +kernel
theorem dX8_winter_13 : decode cX8_winter 13 = .ok (.aload_n 0, 1) := by decide +kernel
theorem dX8_winter_14 : decode cX8_winter 14 = .ok (.iconst (-1), 1) := by decide +kernel
theorem dX8_winter_15 : decode cX8_winter 15 = .ok (.invokevirtual 56, 3) := by decide +kernel
theorem dX8_winter_18 : decode cX8_winter 18 = .ok (.isub, 1) := by decide +kernel
theorem dX8_winter_19 : decode cX8_winter 19 = .ok (.ireturn, 1) := by decide +kernel
theorem dX8_winter_20 : decode cX8_winter 20 = .ok (.aload_n 0, 1) := by decide +kernel
theorem dX8_winter_21 : decode cX8_winter 21 = .ok (.invokevirtual 156, 3) := by decide +kernel
theorem dX8_winter_24 : decode cX8_winter 24 = .ok (.invokevirtual 166, 3) := by decide +kernel
theorem dX8_winter_27 : decode cX8_winter 27 = .ok (.istore_n 2, 1) := by decide +kernel
theorem dX8_winter_28 : decode cX8_winter 28 = .ok (.aload_n 0, 1) := by decide +kernel
theorem dX8_winter_29 : decode cX8_winter 29 = .ok (.invokevirtual 156, 3) := by decide +kernel
theorem dX8_winter_32 : decode cX8_winter 32 = .ok (.astore_n 3, 1) := by decide +kernel
theorem dX8_winter_33 : decode cX8_winter 33 = .ok (.aload_n 3, 1) := by decide +kernel
theorem dX8_winter_34 : decode cX8_winter 34 = .ok (.iload_n 1, 1) := by decide +kernel
theorem dX8_winter_35 : decode cX8_winter 35 = .ok (.invokevirtual 198, 3) := by decide +kernel
theorem dX8_winter_38 : decode cX8_winter 38 = .ok (.aload_n 3, 1) := by decide +kernel
theorem dX8_winter_39 : decode cX8_winter 39 = .ok (.invokevirtual 166, 3) := by decide +kernel
theorem dX8_winter_42 : decode cX8_winter 42 = .ok (.iload_n 2, 1) := by decide +kernel
theorem dX8_winter_43 : decode cX8_winter 43 = .ok (.isub, 1) := by decide +kernel
theorem dX8_winter_44 : decode cX8_winter 44 = .ok (.ireturn, 1) := by decide +kernel
theorem dX8_becomes_0 : decode cX8_becomes 0 = .ok (.aload_n 0, 1) := by decide +kernel
theorem dX8_becomes_1 : decode cX8_becomes 1 = .ok (.invokevirtual 156, 3) := by decide +kernel
theorem dX8_becomes_4 : decode cX8_becomes 4 = .ok (.astore_n 1, 1) := by decide +kernel
theorem dX8_becomes_5 : decode cX8_becomes 5 = .ok (.bipush 8, 2) := by decide +kernel
theorem dX8_becomes_7 : decode cX8_becomes 7 = .ok (.aload_n 0, 1) := by decide +kernel
theorem dX8_becomes_8 : decode cX8_becomes 8 = .ok (.getfield 30, 3) := by decide +kernel
theorem dX8_becomes_11 : decode cX8_becomes 11 = .ok (.getfield 105, 3) := by decide +kernel
theorem dX8_becomes_14 : decode cX8_becomes 14 = .ok (.isub, 1) := by decide +kernel
theorem dX8_becomes_15 : decode cX8_becomes 15 = .ok (.istore_n 2, 1) := by decide +kernel
theorem dX8_becomes_16 : decode cX8_becomes 16 = .ok (.iconst 0, 1) := by decide +kernel
theorem dX8_becomes_17 : decode cX8_becomes 17 = .ok (.istore_n 3, 1) := by decide +kernel
theorem dX8_becomes_18 : decode cX8_becomes 18 = .ok (.iload_n 3, 1) := by decide +kernel
theorem dX8_becomes_19 : decode cX8_becomes 19 = .ok (.iload_n 2, 1) := by decide +kernel
theorem dX8_becomes_20 : decode cX8_becomes 20 = .ok (.if_icmp .gt 33, 3) := by decide +kernel
theorem dX8_becomes_23 : decode cX8_becomes 23 = .ok (.aload_n 1, 1) := by decide +kernel
theorem dX8_becomes_24 : decode cX8_becomes 24 = .ok (.aload_n 0, 1) := by decide +kernel
theorem dX8_becomes_25 : decode cX8_becomes 25 = .ok (.getfield 49, 3) := by decide +kernel
theorem dX8_becomes_28 : decode cX8_becomes 28 = .ok (.aload_n 0, 1) := by decide +kernel
theorem dX8_becomes_29 : decode cX8_becomes 29 = .ok (.getfield 202, 3) := by decide +kernel
theorem dX8_becomes_32 : decode cX8_becomes 32 = .ok (.invokevirtual 205, 3) := by decide +kernel
theorem dX8_becomes_35 : decode cX8_becomes 35 = .ok (.bipush (-9), 2) := by decide +kernel
theorem dX8_becomes_37 : decode cX8_becomes 37 = .ok (.if_icmp .ne 5, 3) := by decide +kernel
theorem dX8_becomes_40 : decode cX8_becomes 40 = .ok (.iload_n 3, 1) := by decide +kernel
theorem dX8_becomes_41 : decode cX8_becomes 41 = .ok (.ireturn, 1) := by decide +kernel
theorem dX8_becomes_42 : decode cX8_becomes 42 = .ok (.aload_n 1, 1) := by decide +kernel
theorem dX8_becomes_43 : decode cX8_becomes 43 = .ok (.invokevirtual 149, 3) := by decide +kernel
theorem dX8_becomes_46 : decode cX8_becomes 46 = .ok (.pop, 1) := by decide +kernel
theorem dX8_becomes_47 : decode cX8_becomes 47 = .ok (.iinc 3 1, 3) := by decide +kernel
theorem dX8_becomes_50 : decode cX8_becomes 50 = .ok (.goto (-32), 3) := by decide +kernel
theorem dX8_becomes_53 : decode cX8_becomes 53 = .ok (.bipush (-9), 2) := by decide +kernel
theorem dX8_becomes_55 : decode cX8_becomes 55 = .ok (.ireturn, 1) := by decide +kernel
theorem dX8_danger_0 : decode cX8_danger 0 = .ok (.aload_n 0, 1) := by decide +kernel
theorem dX8_danger_1 : decode cX8_danger 1 = .ok (.getfield 30, 3) := by decide +kernel
theorem dX8_danger_4 : decode cX8_danger 4 = .ok (.invokevirtual 169, 3) := by decide +kernel
theorem dX8_danger_7 : decode cX8_danger 7 = .ok (.istore_n 1, 1) := by decide +kernel
theorem dX8_danger_8 : decode cX8_danger 8 = .ok (.aload_n 0, 1) := by decide +kernel
theorem dX8_danger_9 : decode cX8_danger 9 = .ok (.invokevirtual 156, 3) := by decide +kernel
theorem dX8_danger_12 : decode cX8_danger 12 = .ok (.astore_n 2, 1) := by decide +kernel
theorem dX8_danger_13 : decode cX8_danger 13 = .ok (.aload_n 2, 1) := by decide +kernel
theorem dX8_danger_14 : decode cX8_danger 14 = .ok (.invokevirtual 166, 3) := by decide +kernel
theorem dX8_danger_17 : decode cX8_danger 17 = .ok (.pop, 1) := by decide +kernel
theorem dX8_danger_18 : decode cX8_danger 18 = .ok (.iload_n 1, 1) := by decide +kernel
theorem dX8_danger_19 : decode cX8_danger 19 = .ok (.aload_n 2, 1) := by decide +kernel
theorem dX8_danger_20 : decode cX8_danger 20 = .ok (.invokevirtual 169, 3) := by decide +kernel
theorem dX8_danger_23 : decode cX8_danger 23 = .ok (.iconst (-1), 1) := by decide +kernel
theorem dX8_danger_24 : decode cX8_danger 24 = .ok (.ixor, 1) := by decide +kernel
theorem dX8_danger_25 : decode cX8_danger 25 = .ok (.iand, 1) := by decide +kernel
theorem dX8_danger_26 : decode cX8_danger 26 = .ok (.ireturn, 1) := by decide +kernel
theorem dX8_lasts_0 : decode cX8_lasts 0 = .ok (.aload_n 0, 1) := by decide +kernel
theorem dX8_lasts_1 : decode cX8_lasts 1 = .ok (.getfield 30, 3) := by decide +kernel
theorem dX8_lasts_4 : decode cX8_lasts 4 = .ok (.iload_n 1, 1) := by decide +kernel
theorem dX8_lasts_5 : decode cX8_lasts 5 = .ok (.invokevirtual 86, 3) := by decide +kernel
theorem dX8_lasts_8 : decode cX8_lasts 8 = .ok (.ifCond .ne 9, 3) := by decide +kernel
theorem dX8_lasts_11 : decode cX8_lasts 11 = .ok (.aload_n 0, 1) := by decide +kernel
theorem dX8_lasts_12 : decode cX8_lasts 12 = .ok (.iconst (-1), 1) := by decide +kernel
theorem dX8_lasts_13 : decode cX8_lasts 13 = .ok (.invokevirtual 56, 3) := by decide +kernel
theorem dX8_lasts_16 : decode cX8_lasts 16 = .ok (.ireturn, 1) := by decide +kernel
theorem dX8_lasts_17 : decode cX8_lasts 17 = .ok (.aload_n 0, 1) := by decide +kernel
theorem dX8_lasts_18 : decode cX8_lasts 18 = .ok (.getfield 30, 3) := by decide +kernel
theorem dX8_lasts_21 : decode cX8_lasts 21 = .ok (.iload_n 1, 1) := by decide +kernel
theorem dX8_lasts_22 : decode cX8_lasts 22 = .ok (.invokevirtual 102, 3) := by decide +kernel
theorem dX8_lasts_25 : decode cX8_lasts 25 = .ok (.ifCond .eq 10, 3) := by decide +kernel
theorem dX8_lasts_28 : decode cX8_lasts 28 = .ok (.aload_n 0, 1) := by decide +kernel
theorem dX8_lasts_29 : decode cX8_lasts 29 = .ok (.bipush (-3), 2) := by decide +kernel
theorem dX8_lasts_31 : decode cX8_lasts 31 = .ok (.invokevirtual 56, 3) := by decide +kernel
theorem dX8_lasts_34 : decode cX8_lasts 34 = .ok (.ireturn, 1) := by decide +kernel
theorem dX8_lasts_35 : decode cX8_lasts 35 = .ok (.iconst 0, 1) := by decide +kernel
theorem dX8_lasts_36 : decode cX8_lasts 36 = .ok (.istore_n 2, 1) := by decide +kernel
theorem dX8_lasts_37 : decode cX8_lasts 37 = .ok (.iconst (-1), 1) := by decide +kernel
theorem dX8_lasts_38 : decode cX8_lasts 38 = .ok (.istore_n 3, 1) := by decide +kernel
theorem dX8_lasts_39 : decode cX8_lasts 39 = .ok (.iconst 0, 1) := by decide +kernel
theorem dX8_lasts_40 : decode cX8_lasts 40 = .ok (.istore 4, 2) := by decide +kernel
theorem dX8_lasts_42 : decode cX8_lasts 42 = .ok (.iload 4, 2) := by decide +kernel
theorem dX8_lasts_44 : decode cX8_lasts 44 = .ok (.iconst 3, 1) := by decide +kernel
theorem dX8_lasts_45 : decode cX8_lasts 45 = .ok (.if_icmp .ge 44, 3) := by decide +kernel
theorem dX8_lasts_48 : decode cX8_lasts 48 = .ok (.aload_n 0, 1) := by decide +kernel
theorem dX8_lasts_49 : decode cX8_lasts 49 = .ok (.invokevirtual 156, 3) := by decide +kernel
theorem dX8_lasts_52 : decode cX8_lasts 52 = .ok (.astore 5, 2) := by decide +kernel
theorem dX8_lasts_54 : decode cX8_lasts 54 = .ok (.aload 5, 2) := by decide +kernel
theorem dX8_lasts_56 : decode cX8_lasts 56 = .ok (.getfield 93, 3) := by decide +kernel
theorem dX8_lasts_59 : decode cX8_lasts 59 = .ok (.iload_n 1, 1) := by decide +kernel
theorem dX8_lasts_60 : decode cX8_lasts 60 = .ok (.iload 4, 2) := by decide +kernel
theorem dX8_lasts_62 : decode cX8_lasts 62 = .ok (.iastore, 1) := by decide +kernel
theorem dX8_lasts_63 : decode cX8_lasts 63 = .ok (.aload 5, 2) := by decide +kernel
theorem dX8_lasts_65 : decode cX8_lasts 65 = .ok (.iload_n 1, 1) := by decide +kernel
theorem dX8_lasts_66 : decode cX8_lasts 66 = .ok (.invokevirtual 163, 3) := by decide +kernel
theorem dX8_lasts_69 : decode cX8_lasts 69 = .ok (.istore 6, 2) := by decide +kernel
theorem dX8_lasts_71 : decode cX8_lasts 71 = .ok (.iload 6, 2) := by decide +kernel
theorem dX8_lasts_73 : decode cX8_lasts 73 = .ok (.iload_n 3, 1) := by decide +kernel
theorem dX8_lasts_74 : decode cX8_lasts 74 = .ok (.if_icmp .le 9, 3) := by decide +kernel
theorem dX8_lasts_77 : decode cX8_lasts 77 = .ok (.iload 6, 2) := by decide +kernel
theorem dX8_lasts_79 : decode cX8_lasts 79 = .ok (.istore_n 3, 1) := by decide +kernel
theorem dX8_lasts_80 : decode cX8_lasts 80 = .ok (.iload 4, 2) := by decide +kernel
theorem dX8_lasts_82 : decode cX8_lasts 82 = .ok (.istore_n 2, 1) := by decide +kernel
theorem dX8_lasts_83 : decode cX8_lasts 83 = .ok (.iinc 4 1, 3) := by decide +kernel
theorem dX8_lasts_86 : decode cX8_lasts 86 = .ok (.goto (-44), 3) := by decide +kernel
theorem dX8_lasts_89 : decode cX8_lasts 89 = .ok (.iload_n 2, 1) := by decide +kernel
theorem dX8_lasts_90 : decode cX8_lasts 90 = .ok (.ireturn, 1) := by decide +kernel
theorem dX8_mixed_0 : decode cX8_mixed 0 = .ok (.iload_n 1, 1) := by decide +kernel
theorem dX8_mixed_1 : decode cX8_mixed 1 = .ok (.ifCond .ge 10, 3) := by decide +kernel
theorem dX8_mixed_4 : decode cX8_mixed 4 = .ok (.aload_n 0, 1) := by decide +kernel
theorem dX8_mixed_5 : decode cX8_mixed 5 = .ok (.bipush (-4), 2) := by decide +kernel
theorem dX8_mixed_7 : decode cX8_mixed 7 = .ok (.invokevirtual 56, 3) := by decide +kernel
theorem dX8_mixed_10 : decode cX8_mixed 10 = .ok (.ireturn, 1) := by decide +kernel
theorem dX8_mixed_11 : decode cX8_mixed 11 = .ok (.iload_n 1, 1) := by decide +kernel
theorem dX8_mixed_12 : decode cX8_mixed 12 = .ok (.bipush 12, 2) := by decide +kernel
theorem dX8_mixed_14 : decode cX8_mixed 14 = .ok (.if_icmp .le 10, 3) := by decide +kernel
theorem dX8_mixed_17 : decode cX8_mixed 17 = .ok (.aload_n 0, 1) := by decide +kernel
theorem dX8_mixed_18 : decode cX8_mixed 18 = .ok (.bipush (-6), 2) := by decide +kernel
theorem dX8_mixed_20 : decode cX8_mixed 20 = .ok (.invokevirtual 56, 3) := by decide +kernel
theorem dX8_mixed_23 : decode cX8_mixed 23 = .ok (.ireturn, 1) := by decide +kernel
theorem dX8_mixed_24 : decode cX8_mixed 24 = .ok (.iload_n 2, 1) := by decide +kernel
theorem dX8_mixed_25 : decode cX8_mixed 25 = .ok (.ifCond .eq 15, 3) := by decide +kernel
theorem dX8_mixed_28 : decode cX8_mixed 28 = .ok (.iload_n 2, 1) := by decide +kernel
theorem dX8_mixed_29 : decode cX8_mixed 29 = .ok (.iconst 1, 1) := by decide +kernel
theorem dX8_mixed_30 : decode cX8_mixed 30 = .ok (.if_icmp .eq 10, 3) := by decide +kernel
theorem dX8_mixed_33 : decode cX8_mixed 33 = .ok (.aload_n 0, 1) := by decide +kernel
theorem dX8_mixed_34 : decode cX8_mixed 34 = .ok (.bipush (-2), 2) := by decide +kernel
theorem dX8_mixed_36 : decode cX8_mixed 36 = .ok (.invokevirtual 56, 3) := by decide +kernel
theorem dX8_mixed_39 : decode cX8_mixed 39 = .ok (.ireturn, 1) := by decide +kernel
theorem dX8_mixed_40 : decode cX8_mixed 40 = .ok (.iconst 0, 1) := by decide +kernel
theorem dX8_mixed_41 : decode cX8_mixed 41 = .ok (.istore_n 3, 1) := by decide +kernel
theorem dX8_mixed_42 : decode cX8_mixed 42 = .ok (.iconst (-1), 1) := by decide +kernel
theorem dX8_mixed_43 : decode cX8_mixed 43 = .ok (.istore 4, 2) := by decide +kernel
theorem dX8_mixed_45 : decode cX8_mixed 45 = .ok (.iconst 0, 1) := by decide +kernel
theorem dX8_mixed_46 : decode cX8_mixed 46 = .ok (.istore 5, 2) := by decide +kernel
theorem dX8_mixed_48 : decode cX8_mixed 48 = .ok (.iload 5, 2) := by decide +kernel
theorem dX8_mixed_50 : decode cX8_mixed 50 = .ok (.sipush 999, 3) := by decide +kernel
theorem dX8_mixed_53 : decode cX8_mixed 53 = .ok (.if_icmp .gt 55, 3) := by decide +kernel
theorem dX8_mixed_56 : decode cX8_mixed 56 = .ok (.iload 4, 2) := by decide +kernel
theorem dX8_mixed_58 : decode cX8_mixed 58 = .ok (.aload_n 0, 1) := by decide +kernel
theorem dX8_mixed_59 : decode cX8_mixed 59 = .ok (.getfield 30, 3) := by decide +kernel
theorem dX8_mixed_62 : decode cX8_mixed 62 = .ok (.invokevirtual 209, 3) := by decide +kernel
theorem dX8_mixed_65 : decode cX8_mixed 65 = .ok (.if_icmp .ge 43, 3) := by decide +kernel
theorem dX8_mixed_68 : decode cX8_mixed 68 = .ok (.iload 5, 2) := by decide +kernel
theorem dX8_mixed_70 : decode cX8_mixed 70 = .ok (.invokestatic 212, 3) := by decide +kernel
theorem dX8_mixed_73 : decode cX8_mixed 73 = .ok (.iload_n 1, 1) := by decide +kernel
theorem dX8_mixed_74 : decode cX8_mixed 74 = .ok (.if_icmp .le 6, 3) := by decide +kernel
theorem dX8_mixed_77 : decode cX8_mixed 77 = .ok (.goto 25, 3) := by decide +kernel
theorem dX8_mixed_80 : decode cX8_mixed 80 = .ok (.aload_n 0, 1) := by decide +kernel
theorem dX8_mixed_81 : decode cX8_mixed 81 = .ok (.iload 5, 2) := by decide +kernel
theorem dX8_mixed_83 : decode cX8_mixed 83 = .ok (.invokevirtual 215, 3) := by decide +kernel
theorem dX8_mixed_86 : decode cX8_mixed 86 = .ok (.istore 6, 2) := by decide +kernel
theorem dX8_mixed_88 : decode cX8_mixed 88 = .ok (.iload 6, 2) := by decide +kernel
theorem dX8_mixed_90 : decode cX8_mixed 90 = .ok (.iload 4, 2) := by decide +kernel
theorem dX8_mixed_92 : decode cX8_mixed 92 = .ok (.if_icmp .le 10, 3) := by decide +kernel
theorem dX8_mixed_95 : decode cX8_mixed 95 = .ok (.iload 6, 2) := by decide +kernel
theorem dX8_mixed_97 : decode cX8_mixed 97 = .ok (.istore 4, 2) := by decide +kernel
theorem dX8_mixed_99 : decode cX8_mixed 99 = .ok (.iload 5, 2) := by decide +kernel
theorem dX8_mixed_101 : decode cX8_mixed 101 = .ok (.istore_n 3, 1) := by decide +kernel
theorem dX8_mixed_102 : decode cX8_mixed 102 = .ok (.iinc 5 1, 3) := by decide +kernel
theorem dX8_mixed_105 : decode cX8_mixed 105 = .ok (.goto (-57), 3) := by decide +kernel
theorem dX8_mixed_108 : decode cX8_mixed 108 = .ok (.iload_n 2, 1) := by decide +kernel
theorem dX8_mixed_109 : decode cX8_mixed 109 = .ok (.ifCond .ne 7, 3) := by decide +kernel
theorem dX8_mixed_112 : decode cX8_mixed 112 = .ok (.iload_n 3, 1) := by decide +kernel
theorem dX8_mixed_113 : decode cX8_mixed 113 = .ok (.goto 5, 3) := by decide +kernel
theorem dX8_mixed_116 : decode cX8_mixed 116 = .ok (.iload 4, 2) := by decide +kernel
theorem dX8_mixed_118 : decode cX8_mixed 118 = .ok (.ireturn, 1) := by decide +kernel
theorem dX8_tastes_0 : decode cX8_tastes 0 = .ok (.aload_n 0, 1) := by decide +kernel
theorem dX8_tastes_1 : decode cX8_tastes 1 = .ok (.getfield 30, 3) := by decide +kernel
theorem dX8_tastes_4 : decode cX8_tastes 4 = .ok (.iload_n 1, 1) := by decide +kernel
theorem dX8_tastes_5 : decode cX8_tastes 5 = .ok (.invokevirtual 112, 3) := by decide +kernel
theorem dX8_tastes_8 : decode cX8_tastes 8 = .ok (.ifCond .eq 14, 3) := by decide +kernel
theorem dX8_tastes_11 : decode cX8_tastes 11 = .ok (.aload_n 0, 1) := by decide +kernel
theorem dX8_tastes_12 : decode cX8_tastes 12 = .ok (.getfield 30, 3) := by decide +kernel
theorem dX8_tastes_15 : decode cX8_tastes 15 = .ok (.iload_n 2, 1) := by decide +kernel
theorem dX8_tastes_16 : decode cX8_tastes 16 = .ok (.invokevirtual 180, 3) := by decide +kernel
theorem dX8_tastes_19 : decode cX8_tastes 19 = .ok (.ifCond .ne 9, 3) := by decide +kernel
theorem dX8_tastes_22 : decode cX8_tastes 22 = .ok (.aload_n 0, 1) := by decide +kernel
theorem dX8_tastes_23 : decode cX8_tastes 23 = .ok (.iconst (-1), 1) := by decide +kernel
theorem dX8_tastes_24 : decode cX8_tastes 24 = .ok (.invokevirtual 56, 3) := by decide +kernel
theorem dX8_tastes_27 : decode cX8_tastes 27 = .ok (.ireturn, 1) := by decide +kernel
theorem dX8_tastes_28 : decode cX8_tastes 28 = .ok (.iconst 0, 1) := by decide +kernel
theorem dX8_tastes_29 : decode cX8_tastes 29 = .ok (.istore_n 3, 1) := by decide +kernel
theorem dX8_tastes_30 : decode cX8_tastes 30 = .ok (.iconst 0, 1) := by decide +kernel
theorem dX8_tastes_31 : decode cX8_tastes 31 = .ok (.istore 4, 2) := by decide +kernel
theorem dX8_tastes_33 : decode cX8_tastes 33 = .ok (.iload 4, 2) := by decide +kernel
theorem dX8_tastes_35 : decode cX8_tastes 35 = .ok (.bipush 10, 2) := by decide +kernel
theorem dX8_tastes_37 : decode cX8_tastes 37 = .ok (.if_icmp .ge 46, 3) := by decide +kernel
theorem dX8_tastes_40 : decode cX8_tastes 40 = .ok (.aload_n 0, 1) := by decide +kernel
theorem dX8_tastes_41 : decode cX8_tastes 41 = .ok (.invokevirtual 156, 3) := by decide +kernel
theorem dX8_tastes_44 : decode cX8_tastes 44 = .ok (.astore 5, 2) := by decide +kernel
theorem dX8_tastes_46 : decode cX8_tastes 46 = .ok (.aload 5, 2) := by decide +kernel
theorem dX8_tastes_48 : decode cX8_tastes 48 = .ok (.getfield 118, 3) := by decide +kernel
theorem dX8_tastes_51 : decode cX8_tastes 51 = .ok (.iload_n 1, 1) := by decide +kernel
theorem dX8_tastes_52 : decode cX8_tastes 52 = .ok (.iload 4, 2) := by decide +kernel
theorem dX8_tastes_54 : decode cX8_tastes 54 = .ok (.iastore, 1) := by decide +kernel
theorem dX8_tastes_55 : decode cX8_tastes 55 = .ok (.aload 5, 2) := by decide +kernel
theorem dX8_tastes_57 : decode cX8_tastes 57 = .ok (.invokevirtual 166, 3) := by decide +kernel
theorem dX8_tastes_60 : decode cX8_tastes 60 = .ok (.pop, 1) := by decide +kernel
theorem dX8_tastes_61 : decode cX8_tastes 61 = .ok (.aload 5, 2) := by decide +kernel
theorem dX8_tastes_63 : decode cX8_tastes 63 = .ok (.invokevirtual 160, 3) := by decide +kernel
theorem dX8_tastes_66 : decode cX8_tastes 66 = .ok (.iload_n 2, 1) := by decide +kernel
theorem dX8_tastes_67 : decode cX8_tastes 67 = .ok (.if_icmp .ne 10, 3) := by decide +kernel
theorem dX8_tastes_70 : decode cX8_tastes 70 = .ok (.iload_n 3, 1) := by decide +kernel
theorem dX8_tastes_71 : decode cX8_tastes 71 = .ok (.iconst 1, 1) := by decide +kernel
theorem dX8_tastes_72 : decode cX8_tastes 72 = .ok (.iload 4, 2) := by decide +kernel
theorem dX8_tastes_74 : decode cX8_tastes 74 = .ok (.ishl, 1) := by decide +kernel
theorem dX8_tastes_75 : decode cX8_tastes 75 = .ok (.ior, 1) := by decide +kernel
theorem dX8_tastes_76 : decode cX8_tastes 76 = .ok (.istore_n 3, 1) := by decide +kernel
theorem dX8_tastes_77 : decode cX8_tastes 77 = .ok (.iinc 4 1, 3) := by decide +kernel
theorem dX8_tastes_80 : decode cX8_tastes 80 = .ok (.goto (-47), 3) := by decide +kernel
theorem dX8_tastes_83 : decode cX8_tastes 83 = .ok (.iload_n 3, 1) := by decide +kernel
theorem dX8_tastes_84 : decode cX8_tastes 84 = .ok (.ireturn, 1) := by decide +kernel
theorem dX8_fitting_0 : decode cX8_fitting 0 = .ok (.aload_n 0, 1) := by decide +kernel
theorem dX8_fitting_1 : decode cX8_fitting 1 = .ok (.getfield 30, 3) := by decide +kernel
theorem dX8_fitting_4 : decode cX8_fitting 4 = .ok (.iload_n 1, 1) := by decide +kernel
theorem dX8_fitting_5 : decode cX8_fitting 5 = .ok (.invokevirtual 112, 3) := by decide +kernel
theorem dX8_fitting_8 : decode cX8_fitting 8 = .ok (.ifCond .eq 14, 3) := by decide +kernel
theorem dX8_fitting_11 : decode cX8_fitting 11 = .ok (.aload_n 0, 1) := by decide +kernel
theorem dX8_fitting_12 : decode cX8_fitting 12 = .ok (.getfield 30, 3) := by decide +kernel
theorem dX8_fitting_15 : decode cX8_fitting 15 = .ok (.iload_n 2, 1) := by decide +kernel
theorem dX8_fitting_16 : decode cX8_fitting 16 = .ok (.invokevirtual 180, 3) := by decide +kernel
theorem dX8_fitting_19 : decode cX8_fitting 19 = .ok (.ifCond .ne 9, 3) := by decide +kernel
theorem dX8_fitting_22 : decode cX8_fitting 22 = .ok (.aload_n 0, 1) := by decide +kernel
theorem dX8_fitting_23 : decode cX8_fitting 23 = .ok (.iconst (-1), 1) := by decide +kernel
theorem dX8_fitting_24 : decode cX8_fitting 24 = .ok (.invokevirtual 56, 3) := by decide +kernel
theorem dX8_fitting_27 : decode cX8_fitting 27 = .ok (.ireturn, 1) := by decide +kernel
theorem dX8_fitting_28 : decode cX8_fitting 28 = .ok (.iconst 0, 1) := by decide +kernel
theorem dX8_fitting_29 : decode cX8_fitting 29 = .ok (.istore_n 3, 1) := by decide +kernel
theorem dX8_fitting_30 : decode cX8_fitting 30 = .ok (.iconst 0, 1) := by decide +kernel
theorem dX8_fitting_31 : decode cX8_fitting 31 = .ok (.istore 4, 2) := by decide +kernel
theorem dX8_fitting_33 : decode cX8_fitting 33 = .ok (.iload 4, 2) := by decide +kernel
theorem dX8_fitting_35 : decode cX8_fitting 35 = .ok (.ldc 218, 2) := by decide +kernel
theorem dX8_fitting_37 : decode cX8_fitting 37 = .ok (.invokevirtual 220, 3) := by decide +kernel
theorem dX8_fitting_40 : decode cX8_fitting 40 = .ok (.if_icmp .ge 46, 3) := by decide +kernel
theorem dX8_fitting_43 : decode cX8_fitting 43 = .ok (.aload_n 0, 1) := by decide +kernel
theorem dX8_fitting_44 : decode cX8_fitting 44 = .ok (.invokevirtual 156, 3) := by decide +kernel
theorem dX8_fitting_47 : decode cX8_fitting 47 = .ok (.astore 5, 2) := by decide +kernel
theorem dX8_fitting_49 : decode cX8_fitting 49 = .ok (.aload 5, 2) := by decide +kernel
theorem dX8_fitting_51 : decode cX8_fitting 51 = .ok (.getfield 115, 3) := by decide +kernel
theorem dX8_fitting_54 : decode cX8_fitting 54 = .ok (.iload_n 1, 1) := by decide +kernel
theorem dX8_fitting_55 : decode cX8_fitting 55 = .ok (.iload 4, 2) := by decide +kernel
theorem dX8_fitting_57 : decode cX8_fitting 57 = .ok (.iastore, 1) := by decide +kernel
theorem dX8_fitting_58 : decode cX8_fitting 58 = .ok (.aload 5, 2) := by decide +kernel
theorem dX8_fitting_60 : decode cX8_fitting 60 = .ok (.invokevirtual 166, 3) := by decide +kernel
theorem dX8_fitting_63 : decode cX8_fitting 63 = .ok (.pop, 1) := by decide +kernel
theorem dX8_fitting_64 : decode cX8_fitting 64 = .ok (.aload 5, 2) := by decide +kernel
theorem dX8_fitting_66 : decode cX8_fitting 66 = .ok (.invokevirtual 160, 3) := by decide +kernel
theorem dX8_fitting_69 : decode cX8_fitting 69 = .ok (.iload_n 2, 1) := by decide +kernel
theorem dX8_fitting_70 : decode cX8_fitting 70 = .ok (.if_icmp .ne 10, 3) := by decide +kernel
theorem dX8_fitting_73 : decode cX8_fitting 73 = .ok (.iload_n 3, 1) := by decide +kernel
theorem dX8_fitting_74 : decode cX8_fitting 74 = .ok (.iconst 1, 1) := by decide +kernel
theorem dX8_fitting_75 : decode cX8_fitting 75 = .ok (.iload 4, 2) := by decide +kernel
theorem dX8_fitting_77 : decode cX8_fitting 77 = .ok (.ishl, 1) := by decide +kernel
theorem dX8_fitting_78 : decode cX8_fitting 78 = .ok (.ior, 1) := by decide +kernel
theorem dX8_fitting_79 : decode cX8_fitting 79 = .ok (.istore_n 3, 1) := by decide +kernel
theorem dX8_fitting_80 : decode cX8_fitting 80 = .ok (.iinc 4 1, 3) := by decide +kernel
theorem dX8_fitting_83 : decode cX8_fitting 83 = .ok (.goto (-50), 3) := by decide +kernel
theorem dX8_fitting_86 : decode cX8_fitting 86 = .ok (.iload_n 3, 1) := by decide +kernel
theorem dX8_fitting_87 : decode cX8_fitting 87 = .ok (.ireturn, 1) := by decide +kernel
theorem dX8_seeds_0 : decode cX8_seeds 0 = .ok (.iload_n 1, 1) := by decide +kernel
theorem dX8_seeds_1 : decode cX8_seeds 1 = .ok (.iconst 1, 1) := by decide +kernel
theorem dX8_seeds_2 : decode cX8_seeds 2 = .ok (.if_icmp .ge 10, 3) := by decide +kernel
theorem dX8_seeds_5 : decode cX8_seeds 5 = .ok (.aload_n 0, 1) := by decide +kernel
theorem dX8_seeds_6 : decode cX8_seeds 6 = .ok (.bipush (-4), 2) := by decide +kernel
theorem dX8_seeds_8 : decode cX8_seeds 8 = .ok (.invokevirtual 56, 3) := by decide +kernel
theorem dX8_seeds_11 : decode cX8_seeds 11 = .ok (.ireturn, 1) := by decide +kernel
theorem dX8_seeds_12 : decode cX8_seeds 12 = .ok (.iload_n 1, 1) := by decide +kernel
theorem dX8_seeds_13 : decode cX8_seeds 13 = .ok (.bipush 20, 2) := by decide +kernel
theorem dX8_seeds_15 : decode cX8_seeds 15 = .ok (.if_icmp .le 10, 3) := by decide +kernel
theorem dX8_seeds_18 : decode cX8_seeds 18 = .ok (.aload_n 0, 1) := by decide +kernel
theorem dX8_seeds_19 : decode cX8_seeds 19 = .ok (.bipush (-6), 2) := by decide +kernel
theorem dX8_seeds_21 : decode cX8_seeds 21 = .ok (.invokevirtual 56, 3) := by decide +kernel
theorem dX8_seeds_24 : decode cX8_seeds 24 = .ok (.ireturn, 1) := by decide +kernel
theorem dX8_seeds_25 : decode cX8_seeds 25 = .ok (.iload_n 2, 1) := by decide +kernel
theorem dX8_seeds_26 : decode cX8_seeds 26 = .ok (.istore_n 3, 1) := by decide +kernel
theorem dX8_seeds_27 : decode cX8_seeds 27 = .ok (.iconst 0, 1) := by decide +kernel
theorem dX8_seeds_28 : decode cX8_seeds 28 = .ok (.istore 4, 2) := by decide +kernel
theorem dX8_seeds_30 : decode cX8_seeds 30 = .ok (.iconst 0, 1) := by decide +kernel
theorem dX8_seeds_31 : decode cX8_seeds 31 = .ok (.istore 5, 2) := by decide +kernel
theorem dX8_seeds_33 : decode cX8_seeds 33 = .ok (.iload 5, 2) := by decide +kernel
theorem dX8_seeds_35 : decode cX8_seeds 35 = .ok (.iload_n 1, 1) := by decide +kernel
theorem dX8_seeds_36 : decode cX8_seeds 36 = .ok (.if_icmp .ge 71, 3) := by decide +kernel
theorem dX8_seeds_39 : decode cX8_seeds 39 = .ok (.aload_n 0, 1) := by decide +kernel
theorem dX8_seeds_40 : decode cX8_seeds 40 = .ok (.invokevirtual 156, 3) := by decide +kernel
theorem dX8_seeds_43 : decode cX8_seeds 43 = .ok (.astore 6, 2) := by decide +kernel
theorem dX8_seeds_45 : decode cX8_seeds 45 = .ok (.iconst 0, 1) := by decide +kernel
theorem dX8_seeds_46 : decode cX8_seeds 46 = .ok (.istore 7, 2) := by decide +kernel
theorem dX8_seeds_48 : decode cX8_seeds 48 = .ok (.iload 7, 2) := by decide +kernel
theorem dX8_seeds_50 : decode cX8_seeds 50 = .ok (.aload 6, 2) := by decide +kernel
theorem dX8_seeds_52 : decode cX8_seeds 52 = .ok (.getfield 72, 3) := by decide +kernel
theorem dX8_seeds_55 : decode cX8_seeds 55 = .ok (.if_icmp .ge 36, 3) := by decide +kernel
theorem dX8_seeds_58 : decode cX8_seeds 58 = .ok (.iload_n 3, 1) := by decide +kernel
theorem dX8_seeds_59 : decode cX8_seeds 59 = .ok (.ldc 225, 2) := by decide +kernel
theorem dX8_seeds_61 : decode cX8_seeds 61 = .ok (.imul, 1) := by decide +kernel
theorem dX8_seeds_62 : decode cX8_seeds 62 = .ok (.ldc 226, 2) := by decide +kernel
theorem dX8_seeds_64 : decode cX8_seeds 64 = .ok (.iadd, 1) := by decide +kernel
theorem dX8_seeds_65 : decode cX8_seeds 65 = .ok (.istore_n 3, 1) := by decide +kernel
theorem dX8_seeds_66 : decode cX8_seeds 66 = .ok (.aload 6, 2) := by decide +kernel
theorem dX8_seeds_68 : decode cX8_seeds 68 = .ok (.getfield 118, 3) := by decide +kernel
theorem dX8_seeds_71 : decode cX8_seeds 71 = .ok (.iload 7, 2) := by decide +kernel
theorem dX8_seeds_73 : decode cX8_seeds 73 = .ok (.iload_n 3, 1) := by decide +kernel
theorem dX8_seeds_74 : decode cX8_seeds 74 = .ok (.ldc 227, 2) := by decide +kernel
theorem dX8_seeds_76 : decode cX8_seeds 76 = .ok (.iand, 1) := by decide +kernel
theorem dX8_seeds_77 : decode cX8_seeds 77 = .ok (.sipush 256, 3) := by decide +kernel
theorem dX8_seeds_80 : decode cX8_seeds 80 = .ok (.idiv, 1) := by decide +kernel
theorem dX8_seeds_81 : decode cX8_seeds 81 = .ok (.bipush 10, 2) := by decide +kernel
theorem dX8_seeds_83 : decode cX8_seeds 83 = .ok (.irem, 1) := by decide +kernel
theorem dX8_seeds_84 : decode cX8_seeds 84 = .ok (.iastore, 1) := by decide +kernel
theorem dX8_seeds_85 : decode cX8_seeds 85 = .ok (.iinc 7 1, 3) := by decide +kernel
theorem dX8_seeds_88 : decode cX8_seeds 88 = .ok (.goto (-40), 3) := by decide +kernel
theorem dX8_seeds_91 : decode cX8_seeds 91 = .ok (.iload 4, 2) := by decide +kernel
theorem dX8_seeds_93 : decode cX8_seeds 93 = .ok (.aload 6, 2) := by decide +kernel
theorem dX8_seeds_95 : decode cX8_seeds 95 = .ok (.invokevirtual 166, 3) := by decide +kernel
theorem dX8_seeds_98 : decode cX8_seeds 98 = .ok (.iadd, 1) := by decide +kernel
theorem dX8_seeds_99 : decode cX8_seeds 99 = .ok (.istore 4, 2) := by decide +kernel
theorem dX8_seeds_101 : decode cX8_seeds 101 = .ok (.iinc 5 1, 3) := by decide +kernel
theorem dX8_seeds_104 : decode cX8_seeds 104 = .ok (.goto (-71), 3) := by decide +kernel
theorem dX8_seeds_107 : decode cX8_seeds 107 = .ok (.iload 4, 2) := by decide +kernel
theorem dX8_seeds_109 : decode cX8_seeds 109 = .ok (.ireturn, 1) := by decide +kernel
theorem dX8_row_0 : decode cX8_row 0 = .ok (.iload_n 1, 1) := by decide +kernel
theorem dX8_row_1 : decode cX8_row 1 = .ok (.ifCond .ge 10, 3) := by decide +kernel
theorem dX8_row_4 : decode cX8_row 4 = .ok (.aload_n 0, 1) := by decide +kernel
theorem dX8_row_5 : decode cX8_row 5 = .ok (.bipush (-4), 2) := by decide +kernel
theorem dX8_row_7 : decode cX8_row 7 = .ok (.invokevirtual 56, 3) := by decide +kernel
theorem dX8_row_10 : decode cX8_row 10 = .ok (.ireturn, 1) := by decide +kernel
theorem dX8_row_11 : decode cX8_row 11 = .ok (.iload_n 1, 1) := by decide +kernel
theorem dX8_row_12 : decode cX8_row 12 = .ok (.bipush 9, 2) := by decide +kernel
theorem dX8_row_14 : decode cX8_row 14 = .ok (.if_icmp .gt 12, 3) := by decide +kernel
theorem dX8_row_17 : decode cX8_row 17 = .ok (.aload_n 0, 1) := by decide +kernel
theorem dX8_row_18 : decode cX8_row 18 = .ok (.getfield 202, 3) := by decide +kernel
theorem dX8_row_21 : decode cX8_row 21 = .ok (.bipush 10, 2) := by decide +kernel
theorem dX8_row_23 : decode cX8_row 23 = .ok (.if_icmp .lt 10, 3) := by decide +kernel
theorem dX8_row_26 : decode cX8_row 26 = .ok (.aload_n 0, 1) := by decide +kernel
theorem dX8_row_27 : decode cX8_row 27 = .ok (.bipush (-6), 2) := by decide +kernel
theorem dX8_row_29 : decode cX8_row 29 = .ok (.invokevirtual 56, 3) := by decide +kernel
theorem dX8_row_32 : decode cX8_row 32 = .ok (.ireturn, 1) := by decide +kernel
theorem dX8_row_33 : decode cX8_row 33 = .ok (.aload_n 0, 1) := by decide +kernel
theorem dX8_row_34 : decode cX8_row 34 = .ok (.getfield 49, 3) := by decide +kernel
theorem dX8_row_37 : decode cX8_row 37 = .ok (.aload_n 0, 1) := by decide +kernel
theorem dX8_row_38 : decode cX8_row 38 = .ok (.getfield 202, 3) := by decide +kernel
theorem dX8_row_41 : decode cX8_row 41 = .ok (.iload_n 1, 1) := by decide +kernel
theorem dX8_row_42 : decode cX8_row 42 = .ok (.iastore, 1) := by decide +kernel
theorem dX8_row_43 : decode cX8_row 43 = .ok (.aload_n 0, 1) := by decide +kernel
theorem dX8_row_44 : decode cX8_row 44 = .ok (.dup, 1) := by decide +kernel
theorem dX8_row_45 : decode cX8_row 45 = .ok (.getfield 202, 3) := by decide +kernel
theorem dX8_row_48 : decode cX8_row 48 = .ok (.iconst 1, 1) := by decide +kernel
theorem dX8_row_49 : decode cX8_row 49 = .ok (.iadd, 1) := by decide +kernel
theorem dX8_row_50 : decode cX8_row 50 = .ok (.putfield 202, 3) := by decide +kernel
theorem dX8_row_53 : decode cX8_row 53 = .ok (.aload_n 0, 1) := by decide +kernel
theorem dX8_row_54 : decode cX8_row 54 = .ok (.getfield 202, 3) := by decide +kernel
theorem dX8_row_57 : decode cX8_row 57 = .ok (.ireturn, 1) := by decide +kernel
theorem dX8_judge_0 : decode cX8_judge 0 = .ok (.aload_n 0, 1) := by decide +kernel
theorem dX8_judge_1 : decode cX8_judge 1 = .ok (.getfield 30, 3) := by decide +kernel
theorem dX8_judge_4 : decode cX8_judge 4 = .ok (.aload_n 0, 1) := by decide +kernel
theorem dX8_judge_5 : decode cX8_judge 5 = .ok (.getfield 49, 3) := by decide +kernel
theorem dX8_judge_8 : decode cX8_judge 8 = .ok (.aload_n 0, 1) := by decide +kernel
theorem dX8_judge_9 : decode cX8_judge 9 = .ok (.getfield 202, 3) := by decide +kernel
theorem dX8_judge_12 : decode cX8_judge 12 = .ok (.invokevirtual 205, 3) := by decide +kernel
theorem dX8_judge_15 : decode cX8_judge 15 = .ok (.istore_n 1, 1) := by decide +kernel
theorem dX8_judge_16 : decode cX8_judge 16 = .ok (.aload_n 0, 1) := by decide +kernel
theorem dX8_judge_17 : decode cX8_judge 17 = .ok (.iconst 0, 1) := by decide +kernel
theorem dX8_judge_18 : decode cX8_judge 18 = .ok (.putfield 202, 3) := by decide +kernel
theorem dX8_judge_21 : decode cX8_judge 21 = .ok (.iload_n 1, 1) := by decide +kernel
theorem dX8_judge_22 : decode cX8_judge 22 = .ok (.ireturn, 1) := by decide +kernel
theorem dX8_image_0 : decode cX8_image 0 = .ok (.aload_n 0, 1) := by decide +kernel
theorem dX8_image_1 : decode cX8_image 1 = .ok (.getfield 39, 3) := by decide +kernel
theorem dX8_image_4 : decode cX8_image 4 = .ok (.aload_n 0, 1) := by decide +kernel
theorem dX8_image_5 : decode cX8_image 5 = .ok (.getfield 30, 3) := by decide +kernel
theorem dX8_image_8 : decode cX8_image 8 = .ok (.invokevirtual 228, 3) := by decide +kernel
theorem dX8_image_11 : decode cX8_image 11 = .ok (.aload_n 0, 1) := by decide +kernel
theorem dX8_image_12 : decode cX8_image 12 = .ok (.iconst 1, 1) := by decide +kernel
theorem dX8_image_13 : decode cX8_image 13 = .ok (.putfield 232, 3) := by decide +kernel
theorem dX8_image_16 : decode cX8_image 16 = .ok (.aload_n 0, 1) := by decide +kernel
theorem dX8_image_17 : decode cX8_image 17 = .ok (.getfield 30, 3) := by decide +kernel
theorem dX8_image_20 : decode cX8_image 20 = .ok (.getfield 105, 3) := by decide +kernel
theorem dX8_image_23 : decode cX8_image 23 = .ok (.ireturn, 1) := by decide +kernel
theorem dX8_on_0 : decode cX8_on 0 = .ok (.aload_n 0, 1) := by decide +kernel
theorem dX8_on_1 : decode cX8_on 1 = .ok (.getfield 232, 3) := by decide +kernel
theorem dX8_on_4 : decode cX8_on 4 = .ok (.ifCond .ne 10, 3) := by decide +kernel
theorem dX8_on_7 : decode cX8_on 7 = .ok (.aload_n 0, 1) := by decide +kernel
theorem dX8_on_8 : decode cX8_on 8 = .ok (.bipush (-3), 2) := by decide +kernel
theorem dX8_on_10 : decode cX8_on 10 = .ok (.invokevirtual 56, 3) := by decide +kernel
theorem dX8_on_13 : decode cX8_on 13 = .ok (.ireturn, 1) := by decide +kernel
theorem dX8_on_14 : decode cX8_on 14 = .ok (.aload_n 0, 1) := by decide +kernel
theorem dX8_on_15 : decode cX8_on 15 = .ok (.getfield 30, 3) := by decide +kernel
theorem dX8_on_18 : decode cX8_on 18 = .ok (.aload_n 0, 1) := by decide +kernel
theorem dX8_on_19 : decode cX8_on 19 = .ok (.getfield 39, 3) := by decide +kernel
theorem dX8_on_22 : decode cX8_on 22 = .ok (.invokevirtual 228, 3) := by decide +kernel
theorem dX8_on_25 : decode cX8_on 25 = .ok (.aload_n 0, 1) := by decide +kernel
theorem dX8_on_26 : decode cX8_on 26 = .ok (.getfield 30, 3) := by decide +kernel
theorem dX8_on_29 : decode cX8_on 29 = .ok (.getfield 105, 3) := by decide +kernel
theorem dX8_on_32 : decode cX8_on 32 = .ok (.ireturn, 1) := by decide +kernel
theorem dX8_count_0 : decode cX8_count 0 = .ok (.iload_n 1, 1) := by decide +kernel
theorem dX8_count_1 : decode cX8_count 1 = .ok (.bipush 10, 2) := by decide +kernel
theorem dX8_count_3 : decode cX8_count 3 = .ok (.if_icmp .le 19, 3) := by decide +kernel
theorem dX8_count_6 : decode cX8_count 6 = .ok (.iload_n 1, 1) := by decide +kernel
theorem dX8_count_7 : decode cX8_count 7 = .ok (.bipush 16, 2) := by decide +kernel
theorem dX8_count_9 : decode cX8_count 9 = .ok (.if_icmp .gt 13, 3) := by decide +kernel
theorem dX8_count_12 : decode cX8_count 12 = .ok (.aload_n 0, 1) := by decide +kernel
theorem dX8_count_13 : decode cX8_count 13 = .ok (.getfield 53, 3) := by decide +kernel
theorem dX8_count_16 : decode cX8_count 16 = .ok (.iload_n 1, 1) := by decide +kernel
theorem dX8_count_17 : decode cX8_count 17 = .ok (.bipush 11, 2) := by decide +kernel
theorem dX8_count_19 : decode cX8_count 19 = .ok (.isub, 1) := by decide +kernel
theorem dX8_count_20 : decode cX8_count 20 = .ok (.iaload, 1) := by decide +kernel
theorem dX8_count_21 : decode cX8_count 21 = .ok (.ireturn, 1) := by decide +kernel
theorem dX8_count_22 : decode cX8_count 22 = .ok (.iload_n 1, 1) := by decide +kernel
theorem dX8_count_23 : decode cX8_count 23 = .ok (.tableswitch 97 0 6 #[41, 49, 57, 65, 76, 84, 89], 41) := by decide +kernel
theorem dX8_count_64 : decode cX8_count 64 = .ok (.aload_n 0, 1) := by decide +kernel
theorem dX8_count_65 : decode cX8_count 65 = .ok (.getfield 30, 3) := by decide +kernel
theorem dX8_count_68 : decode cX8_count 68 = .ok (.getfield 68, 3) := by decide +kernel
theorem dX8_count_71 : decode cX8_count 71 = .ok (.ireturn, 1) := by decide +kernel
theorem dX8_count_72 : decode cX8_count 72 = .ok (.aload_n 0, 1) := by decide +kernel
theorem dX8_count_73 : decode cX8_count 73 = .ok (.getfield 30, 3) := by decide +kernel
theorem dX8_count_76 : decode cX8_count 76 = .ok (.getfield 72, 3) := by decide +kernel
theorem dX8_count_79 : decode cX8_count 79 = .ok (.ireturn, 1) := by decide +kernel
theorem dX8_count_80 : decode cX8_count 80 = .ok (.aload_n 0, 1) := by decide +kernel
theorem dX8_count_81 : decode cX8_count 81 = .ok (.getfield 30, 3) := by decide +kernel
theorem dX8_count_84 : decode cX8_count 84 = .ok (.getfield 105, 3) := by decide +kernel
theorem dX8_count_87 : decode cX8_count 87 = .ok (.ireturn, 1) := by decide +kernel
theorem dX8_count_88 : decode cX8_count 88 = .ok (.aload_n 0, 1) := by decide +kernel
theorem dX8_count_89 : decode cX8_count 89 = .ok (.getfield 30, 3) := by decide +kernel
theorem dX8_count_92 : decode cX8_count 92 = .ok (.getfield 153, 3) := by decide +kernel
theorem dX8_count_95 : decode cX8_count 95 = .ok (.invokestatic 183, 3) := by decide +kernel
theorem dX8_count_98 : decode cX8_count 98 = .ok (.ireturn, 1) := by decide +kernel
theorem dX8_count_99 : decode cX8_count 99 = .ok (.aload_n 0, 1) := by decide +kernel
theorem dX8_count_100 : decode cX8_count 100 = .ok (.getfield 30, 3) := by decide +kernel
theorem dX8_count_103 : decode cX8_count 103 = .ok (.invokevirtual 236, 3) := by decide +kernel
theorem dX8_count_106 : decode cX8_count 106 = .ok (.ireturn, 1) := by decide +kernel
theorem dX8_count_107 : decode cX8_count 107 = .ok (.aload_n 0, 1) := by decide +kernel
theorem dX8_count_108 : decode cX8_count 108 = .ok (.getfield 202, 3) := by decide +kernel
theorem dX8_count_111 : decode cX8_count 111 = .ok (.ireturn, 1) := by decide +kernel
theorem dX8_count_112 : decode cX8_count 112 = .ok (.aload_n 0, 1) := by decide +kernel
theorem dX8_count_113 : decode cX8_count 113 = .ok (.getfield 45, 3) := by decide +kernel
theorem dX8_count_116 : decode cX8_count 116 = .ok (.getfield 239, 3) := by decide +kernel
theorem dX8_count_119 : decode cX8_count 119 = .ok (.ireturn, 1) := by decide +kernel
theorem dX8_count_120 : decode cX8_count 120 = .ok (.bipush (-9), 2) := by decide +kernel
theorem dX8_count_122 : decode cX8_count 122 = .ok (.ireturn, 1) := by decide +kernel
theorem dX8_refuse_0 : decode cX8_refuse 0 = .ok (.iconst (-1), 1) := by decide +kernel
theorem dX8_refuse_1 : decode cX8_refuse 1 = .ok (.iload_n 1, 1) := by decide +kernel
theorem dX8_refuse_2 : decode cX8_refuse 2 = .ok (.isub, 1) := by decide +kernel
theorem dX8_refuse_3 : decode cX8_refuse 3 = .ok (.istore_n 2, 1) := by decide +kernel
theorem dX8_refuse_4 : decode cX8_refuse 4 = .ok (.iload_n 2, 1) := by decide +kernel
theorem dX8_refuse_5 : decode cX8_refuse 5 = .ok (.ifCond .lt 19, 3) := by decide +kernel
theorem dX8_refuse_8 : decode cX8_refuse 8 = .ok (.iload_n 2, 1) := by decide +kernel
theorem dX8_refuse_9 : decode cX8_refuse 9 = .ok (.bipush 6, 2) := by decide +kernel
theorem dX8_refuse_11 : decode cX8_refuse 11 = .ok (.if_icmp .ge 13, 3) := by decide +kernel
theorem dX8_refuse_14 : decode cX8_refuse 14 = .ok (.aload_n 0, 1) := by decide +kernel
theorem dX8_refuse_15 : decode cX8_refuse 15 = .ok (.getfield 53, 3) := by decide +kernel
theorem dX8_refuse_18 : decode cX8_refuse 18 = .ok (.iload_n 2, 1) := by decide +kernel
theorem dX8_refuse_19 : decode cX8_refuse 19 = .ok (.dup2, 1) := by decide +kernel
theorem dX8_refuse_20 : decode cX8_refuse 20 = .ok (.iaload, 1) := by decide +kernel
theorem dX8_refuse_21 : decode cX8_refuse 21 = .ok (.iconst 1, 1) := by decide +kernel
theorem dX8_refuse_22 : decode cX8_refuse 22 = .ok (.iadd, 1) := by decide +kernel
theorem dX8_refuse_23 : decode cX8_refuse 23 = .ok (.iastore, 1) := by decide +kernel
theorem dX8_refuse_24 : decode cX8_refuse 24 = .ok (.iload_n 1, 1) := by decide +kernel
theorem dX8_refuse_25 : decode cX8_refuse 25 = .ok (.ireturn, 1) := by decide +kernel
theorem dX8_mindAsNow_0 : decode cX8_mindAsNow 0 = .ok (.aload_n 0, 1) := by decide +kernel
theorem dX8_mindAsNow_1 : decode cX8_mindAsNow 1 = .ok (.getfield 36, 3) := by decide +kernel
theorem dX8_mindAsNow_4 : decode cX8_mindAsNow 4 = .ok (.aload_n 0, 1) := by decide +kernel
theorem dX8_mindAsNow_5 : decode cX8_mindAsNow 5 = .ok (.getfield 30, 3) := by decide +kernel
theorem dX8_mindAsNow_8 : decode cX8_mindAsNow 8 = .ok (.invokevirtual 228, 3) := by decide +kernel
theorem dX8_mindAsNow_11 : decode cX8_mindAsNow 11 = .ok (.aload_n 0, 1) := by decide +kernel
theorem dX8_mindAsNow_12 : decode cX8_mindAsNow 12 = .ok (.getfield 36, 3) := by decide +kernel
theorem dX8_mindAsNow_15 : decode cX8_mindAsNow 15 = .ok (.areturn, 1) := by decide +kernel
theorem dX8_isKeptByWatching_0 : decode cX8_isKeptByWatching 0 = .ok (.aload_n 0, 1) := by decide +kernel
theorem dX8_isKeptByWatching_1 : decode cX8_isKeptByWatching 1 = .ok (.invokevirtual 156, 3) := by decide +kernel
theorem dX8_isKeptByWatching_4 : decode cX8_isKeptByWatching 4 = .ok (.astore_n 3, 1) := by decide +kernel
theorem dX8_isKeptByWatching_5 : decode cX8_isKeptByWatching 5 = .ok (.iconst 0, 1) := by decide +kernel
theorem dX8_isKeptByWatching_6 : decode cX8_isKeptByWatching 6 = .ok (.istore 4, 2) := by decide +kernel
theorem dX8_isKeptByWatching_8 : decode cX8_isKeptByWatching 8 = .ok (.iload 4, 2) := by decide +kernel
theorem dX8_isKeptByWatching_10 : decode cX8_isKeptByWatching 10 = .ok (.bipush 8, 2) := by decide +kernel
theorem dX8_isKeptByWatching_12 : decode cX8_isKeptByWatching 12 = .ok (.if_icmp .ge 20, 3) := by decide +kernel
theorem dX8_isKeptByWatching_15 : decode cX8_isKeptByWatching 15 = .ok (.aload_n 3, 1) := by decide +kernel
theorem dX8_isKeptByWatching_16 : decode cX8_isKeptByWatching 16 = .ok (.getfield 194, 3) := by decide +kernel
theorem dX8_isKeptByWatching_19 : decode cX8_isKeptByWatching 19 = .ok (.iload 4, 2) := by decide +kernel
theorem dX8_isKeptByWatching_21 : decode cX8_isKeptByWatching 21 = .ok (.dup2, 1) := by decide +kernel
theorem dX8_isKeptByWatching_22 : decode cX8_isKeptByWatching 22 = .ok (.iaload, 1) := by decide +kernel
theorem dX8_isKeptByWatching_23 : decode cX8_isKeptByWatching 23 = .ok (.iload_n 2, 1) := by decide +kernel
theorem dX8_isKeptByWatching_24 : decode cX8_isKeptByWatching 24 = .ok (.ior, 1) := by decide +kernel
theorem dX8_isKeptByWatching_25 : decode cX8_isKeptByWatching 25 = .ok (.iastore, 1) := by decide +kernel
theorem dX8_isKeptByWatching_26 : decode cX8_isKeptByWatching 26 = .ok (.iinc 4 1, 3) := by decide +kernel
theorem dX8_isKeptByWatching_29 : decode cX8_isKeptByWatching 29 = .ok (.goto (-21), 3) := by decide +kernel
theorem dX8_isKeptByWatching_32 : decode cX8_isKeptByWatching 32 = .ok (.aload_n 3, 1) := by decide +kernel
theorem dX8_isKeptByWatching_33 : decode cX8_isKeptByWatching 33 = .ok (.getfield 105, 3) := by decide +kernel
theorem dX8_isKeptByWatching_36 : decode cX8_isKeptByWatching 36 = .ok (.istore 4, 2) := by decide +kernel
theorem dX8_isKeptByWatching_38 : decode cX8_isKeptByWatching 38 = .ok (.iload 4, 2) := by decide +kernel
theorem dX8_isKeptByWatching_40 : decode cX8_isKeptByWatching 40 = .ok (.bipush 8, 2) := by decide +kernel
theorem dX8_isKeptByWatching_42 : decode cX8_isKeptByWatching 42 = .ok (.if_icmp .ge 23, 3) := by decide +kernel
theorem dX8_isKeptByWatching_45 : decode cX8_isKeptByWatching 45 = .ok (.aload_n 3, 1) := by decide +kernel
theorem dX8_isKeptByWatching_46 : decode cX8_isKeptByWatching 46 = .ok (.getfield 153, 3) := by decide +kernel
theorem dX8_isKeptByWatching_49 : decode cX8_isKeptByWatching 49 = .ok (.iload_n 1, 1) := by decide +kernel
theorem dX8_isKeptByWatching_50 : decode cX8_isKeptByWatching 50 = .ok (.iand, 1) := by decide +kernel
theorem dX8_isKeptByWatching_51 : decode cX8_isKeptByWatching 51 = .ok (.ifCond .ne 14, 3) := by decide +kernel
theorem dX8_isKeptByWatching_54 : decode cX8_isKeptByWatching 54 = .ok (.aload_n 3, 1) := by decide +kernel
theorem dX8_isKeptByWatching_55 : decode cX8_isKeptByWatching 55 = .ok (.invokevirtual 149, 3) := by decide +kernel
theorem dX8_isKeptByWatching_58 : decode cX8_isKeptByWatching 58 = .ok (.pop, 1) := by decide +kernel
theorem dX8_isKeptByWatching_59 : decode cX8_isKeptByWatching 59 = .ok (.iinc 4 1, 3) := by decide +kernel
theorem dX8_isKeptByWatching_62 : decode cX8_isKeptByWatching 62 = .ok (.goto (-24), 3) := by decide +kernel
theorem dX8_isKeptByWatching_65 : decode cX8_isKeptByWatching 65 = .ok (.aload_n 3, 1) := by decide +kernel
theorem dX8_isKeptByWatching_66 : decode cX8_isKeptByWatching 66 = .ok (.getfield 153, 3) := by decide +kernel
theorem dX8_isKeptByWatching_69 : decode cX8_isKeptByWatching 69 = .ok (.iload_n 1, 1) := by decide +kernel
theorem dX8_isKeptByWatching_70 : decode cX8_isKeptByWatching 70 = .ok (.iand, 1) := by decide +kernel
theorem dX8_isKeptByWatching_71 : decode cX8_isKeptByWatching 71 = .ok (.ifCond .ne 7, 3) := by decide +kernel
theorem dX8_isKeptByWatching_74 : decode cX8_isKeptByWatching 74 = .ok (.iconst 1, 1) := by decide +kernel
theorem dX8_isKeptByWatching_75 : decode cX8_isKeptByWatching 75 = .ok (.goto 4, 3) := by decide +kernel
theorem dX8_isKeptByWatching_78 : decode cX8_isKeptByWatching 78 = .ok (.iconst 0, 1) := by decide +kernel
theorem dX8_isKeptByWatching_79 : decode cX8_isKeptByWatching 79 = .ok (.ireturn, 1) := by decide +kernel
theorem dX8_countLeftByBitters_0 : decode cX8_countLeftByBitters 0 = .ok (.aload_n 0, 1) := by decide +kernel
theorem dX8_countLeftByBitters_1 : decode cX8_countLeftByBitters 1 = .ok (.invokevirtual 156, 3) := by decide +kernel
theorem dX8_countLeftByBitters_4 : decode cX8_countLeftByBitters 4 = .ok (.astore_n 2, 1) := by decide +kernel
theorem dX8_countLeftByBitters_5 : decode cX8_countLeftByBitters 5 = .ok (.aload_n 2, 1) := by decide +kernel
theorem dX8_countLeftByBitters_6 : decode cX8_countLeftByBitters 6 = .ok (.getfield 138, 3) := by decide +kernel
theorem dX8_countLeftByBitters_9 : decode cX8_countLeftByBitters 9 = .ok (.iconst 0, 1) := by decide +kernel
theorem dX8_countLeftByBitters_10 : decode cX8_countLeftByBitters 10 = .ok (.iload_n 1, 1) := by decide +kernel
theorem dX8_countLeftByBitters_11 : decode cX8_countLeftByBitters 11 = .ok (.bipush 100, 2) := by decide +kernel
theorem dX8_countLeftByBitters_13 : decode cX8_countLeftByBitters 13 = .ok (.idiv, 1) := by decide +kernel
theorem dX8_countLeftByBitters_14 : decode cX8_countLeftByBitters 14 = .ok (.iastore, 1) := by decide +kernel
theorem dX8_countLeftByBitters_15 : decode cX8_countLeftByBitters 15 = .ok (.aload_n 2, 1) := by decide +kernel
theorem dX8_countLeftByBitters_16 : decode cX8_countLeftByBitters 16 = .ok (.getfield 138, 3) := by decide +kernel
theorem dX8_countLeftByBitters_19 : decode cX8_countLeftByBitters 19 = .ok (.iconst 1, 1) := by decide +kernel
theorem dX8_countLeftByBitters_20 : decode cX8_countLeftByBitters 20 = .ok (.iload_n 1, 1) := by decide +kernel
theorem dX8_countLeftByBitters_21 : decode cX8_countLeftByBitters 21 = .ok (.bipush 10, 2) := by decide +kernel
theorem dX8_countLeftByBitters_23 : decode cX8_countLeftByBitters 23 = .ok (.idiv, 1) := by decide +kernel
theorem dX8_countLeftByBitters_24 : decode cX8_countLeftByBitters 24 = .ok (.bipush 10, 2) := by decide +kernel
theorem dX8_countLeftByBitters_26 : decode cX8_countLeftByBitters 26 = .ok (.irem, 1) := by decide +kernel
theorem dX8_countLeftByBitters_27 : decode cX8_countLeftByBitters 27 = .ok (.iastore, 1) := by decide +kernel
theorem dX8_countLeftByBitters_28 : decode cX8_countLeftByBitters 28 = .ok (.aload_n 2, 1) := by decide +kernel
theorem dX8_countLeftByBitters_29 : decode cX8_countLeftByBitters 29 = .ok (.getfield 138, 3) := by decide +kernel
theorem dX8_countLeftByBitters_32 : decode cX8_countLeftByBitters 32 = .ok (.iconst 2, 1) := by decide +kernel
theorem dX8_countLeftByBitters_33 : decode cX8_countLeftByBitters 33 = .ok (.iload_n 1, 1) := by decide +kernel
theorem dX8_countLeftByBitters_34 : decode cX8_countLeftByBitters 34 = .ok (.bipush 10, 2) := by decide +kernel
theorem dX8_countLeftByBitters_36 : decode cX8_countLeftByBitters 36 = .ok (.irem, 1) := by decide +kernel
theorem dX8_countLeftByBitters_37 : decode cX8_countLeftByBitters 37 = .ok (.iastore, 1) := by decide +kernel
theorem dX8_countLeftByBitters_38 : decode cX8_countLeftByBitters 38 = .ok (.aload_n 2, 1) := by decide +kernel
theorem dX8_countLeftByBitters_39 : decode cX8_countLeftByBitters 39 = .ok (.invokevirtual 166, 3) := by decide +kernel
theorem dX8_countLeftByBitters_42 : decode cX8_countLeftByBitters 42 = .ok (.ireturn, 1) := by decide +kernel
theorem dX8_sumOfDigits_0 : decode cX8_sumOfDigits 0 = .ok (.iload_n 0, 1) := by decide +kernel
theorem dX8_sumOfDigits_1 : decode cX8_sumOfDigits 1 = .ok (.bipush 100, 2) := by decide +kernel
theorem dX8_sumOfDigits_3 : decode cX8_sumOfDigits 3 = .ok (.idiv, 1) := by decide +kernel
theorem dX8_sumOfDigits_4 : decode cX8_sumOfDigits 4 = .ok (.iload_n 0, 1) := by decide +kernel
theorem dX8_sumOfDigits_5 : decode cX8_sumOfDigits 5 = .ok (.bipush 10, 2) := by decide +kernel
theorem dX8_sumOfDigits_7 : decode cX8_sumOfDigits 7 = .ok (.idiv, 1) := by decide +kernel
theorem dX8_sumOfDigits_8 : decode cX8_sumOfDigits 8 = .ok (.bipush 10, 2) := by decide +kernel
theorem dX8_sumOfDigits_10 : decode cX8_sumOfDigits 10 = .ok (.irem, 1) := by decide +kernel
theorem dX8_sumOfDigits_11 : decode cX8_sumOfDigits 11 = .ok (.iadd, 1) := by decide +kernel
theorem dX8_sumOfDigits_12 : decode cX8_sumOfDigits 12 = .ok (.iload_n 0, 1) := by decide +kernel
theorem dX8_sumOfDigits_13 : decode cX8_sumOfDigits 13 = .ok (.bipush 10, 2) := by decide +kernel
theorem dX8_sumOfDigits_15 : decode cX8_sumOfDigits 15 = .ok (.irem, 1) := by decide +kernel
theorem dX8_sumOfDigits_16 : decode cX8_sumOfDigits 16 = .ok (.iadd, 1) := by decide +kernel
theorem dX8_sumOfDigits_17 : decode cX8_sumOfDigits 17 = .ok (.ireturn, 1) := by decide +kernel
theorem dX8_isInk_0 : decode cX8_isInk 0 = .ok (.iload_n 0, 1) := by decide +kernel
theorem dX8_isInk_1 : decode cX8_isInk 1 = .ok (.ifCond .lt 12, 3) := by decide +kernel
theorem dX8_isInk_4 : decode cX8_isInk 4 = .ok (.iload_n 0, 1) := by decide +kernel
theorem dX8_isInk_5 : decode cX8_isInk 5 = .ok (.iconst 3, 1) := by decide +kernel
theorem dX8_isInk_6 : decode cX8_isInk 6 = .ok (.if_icmp .ge 7, 3) := by decide +kernel
theorem dX8_isInk_9 : decode cX8_isInk 9 = .ok (.iconst 1, 1) := by decide +kernel
theorem dX8_isInk_10 : decode cX8_isInk 10 = .ok (.goto 4, 3) := by decide +kernel
theorem dX8_isInk_13 : decode cX8_isInk 13 = .ok (.iconst 0, 1) := by decide +kernel
theorem dX8_isInk_14 : decode cX8_isInk 14 = .ok (.ireturn, 1) := by decide +kernel
theorem dX9_init_0 : decode cX9_init 0 = .ok (.aload_n 0, 1) := by decide +kernel
theorem dX9_init_1 : decode cX9_init 1 = .ok (.invokespecial 1, 3) := by decide +kernel
theorem dX9_init_4 : decode cX9_init 4 = .ok (.aload_n 0, 1) := by decide +kernel
theorem dX9_init_5 : decode cX9_init 5 = .ok (.bipush 7, 2) := by decide +kernel
theorem dX9_init_7 : decode cX9_init 7 = .ok (.newarray .int, 2) := by decide +kernel
theorem dX9_init_9 : decode cX9_init 9 = .ok (.putfield 7, 3) := by decide +kernel
theorem dX9_init_12 : decode cX9_init 12 = .ok (.aload_n 0, 1) := by decide +kernel
theorem dX9_init_13 : decode cX9_init 13 = .ok (.bipush 10, 2) := by decide +kernel
theorem dX9_init_15 : decode cX9_init 15 = .ok (.newarray .int, 2) := by decide +kernel
theorem dX9_init_17 : decode cX9_init 17 = .ok (.putfield 13, 3) := by decide +kernel
theorem dX9_init_20 : decode cX9_init 20 = .ok (.aload_n 0, 1) := by decide +kernel
theorem dX9_init_21 : decode cX9_init 21 = .ok (.bipush 10, 2) := by decide +kernel
theorem dX9_init_23 : decode cX9_init 23 = .ok (.newarray .int, 2) := by decide +kernel
theorem dX9_init_25 : decode cX9_init 25 = .ok (.putfield 16, 3) := by decide +kernel
theorem dX9_init_28 : decode cX9_init 28 = .ok (.aload_n 0, 1) := by decide +kernel
theorem dX9_init_29 : decode cX9_init 29 = .ok (.bipush 10, 2) := by decide +kernel
theorem dX9_init_31 : decode cX9_init 31 = .ok (.newarray .int, 2) := by decide +kernel
theorem dX9_init_33 : decode cX9_init 33 = .ok (.putfield 19, 3) := by decide +kernel
theorem dX9_init_36 : decode cX9_init 36 = .ok (.aload_n 0, 1) := by decide +kernel
theorem dX9_init_37 : decode cX9_init 37 = .ok (.iconst 4, 1) := by decide +kernel
theorem dX9_init_38 : decode cX9_init 38 = .ok (.newarray .int, 2) := by decide +kernel
theorem dX9_init_40 : decode cX9_init 40 = .ok (.putfield 22, 3) := by decide +kernel
theorem dX9_init_43 : decode cX9_init 43 = .ok (.aload_n 0, 1) := by decide +kernel
theorem dX9_init_44 : decode cX9_init 44 = .ok (.iconst 4, 1) := by decide +kernel
theorem dX9_init_45 : decode cX9_init 45 = .ok (.newarray .int, 2) := by decide +kernel
theorem dX9_init_47 : decode cX9_init 47 = .ok (.putfield 25, 3) := by decide +kernel
theorem dX9_init_50 : decode cX9_init 50 = .ok (.aload_n 0, 1) := by decide +kernel
theorem dX9_init_51 : decode cX9_init 51 = .ok (.iconst 4, 1) := by decide +kernel
theorem dX9_init_52 : decode cX9_init 52 = .ok (.newarray .int, 2) := by decide +kernel
theorem dX9_init_54 : decode cX9_init 54 = .ok (.putfield 28, 3) := by decide +kernel
theorem dX9_init_57 : decode cX9_init 57 = .ok (.aload_n 0, 1) := by decide +kernel
theorem dX9_init_58 : decode cX9_init 58 = .ok (.iconst 4, 1) := by decide +kernel
theorem dX9_init_59 : decode cX9_init 59 = .ok (.newarray .int, 2) := by decide +kernel
theorem dX9_init_61 : decode cX9_init 61 = .ok (.putfield 31, 3) := by decide +kernel
theorem dX9_init_64 : decode cX9_init 64 = .ok (.aload_n 0, 1) := by decide +kernel
theorem dX9_init_65 : decode cX9_init 65 = .ok (.iconst 3, 1) := by decide +kernel
theorem dX9_init_66 : decode cX9_init 66 = .ok (.newarray .int, 2) := by decide +kernel
theorem dX9_init_68 : decode cX9_init 68 = .ok (.putfield 34, 3) := by decide +kernel
theorem dX9_init_71 : decode cX9_init 71 = .ok (.aload_n 0, 1) := by decide +kernel
theorem dX9_init_72 : decode cX9_init 72 = .ok (.bipush 8, 2) := by decide +kernel
theorem dX9_init_74 : decode cX9_init 74 = .ok (.newarray .int, 2) := by decide +kernel
theorem dX9_init_76 : decode cX9_init 76 = .ok (.putfield 37, 3) := by decide +kernel
theorem dX9_init_79 : decode cX9_init 79 = .ok (.aload_n 0, 1) := by decide +kernel
theorem dX9_init_80 : decode cX9_init 80 = .ok (.bipush 80, 2) := by decide +kernel
theorem dX9_init_82 : decode cX9_init 82 = .ok (.newarray .int, 2) := by decide +kernel
theorem dX9_init_84 : decode cX9_init 84 = .ok (.putfield 40, 3) := by decide +kernel
theorem dX9_init_87 : decode cX9_init 87 = .ok (.aload_n 0, 1) := by decide +kernel
theorem dX9_init_88 : decode cX9_init 88 = .ok (.bipush 40, 2) := by decide +kernel
theorem dX9_init_90 : decode cX9_init 90 = .ok (.newarray .int, 2) := by decide +kernel
theorem dX9_init_92 : decode cX9_init 92 = .ok (.putfield 43, 3) := by decide +kernel
theorem dX9_init_95 : decode cX9_init 95 = .ok (.aload_n 0, 1) := by decide +kernel
theorem dX9_init_96 : decode cX9_init 96 = .ok (.bipush 40, 2) := by decide +kernel
theorem dX9_init_98 : decode cX9_init 98 = .ok (.newarray .int, 2) := by decide +kernel
theorem dX9_init_100 : decode cX9_init 100 = .ok (.putfield 46, 3) := by decide +kernel
theorem dX9_init_103 : decode cX9_init 103 = .ok (.aload_n 0, 1) := by decide +kernel
theorem dX9_init_104 : decode cX9_init 104 = .ok (.sipush 160, 3) := by decide +kernel
theorem dX9_init_107 : decode cX9_init 107 = .ok (.newarray .int, 2) := by decide +kernel
theorem dX9_init_109 : decode cX9_init 109 = .ok (.putfield 49, 3) := by decide +kernel
theorem dX9_init_112 : decode cX9_init 112 = .ok (.aload_n 0, 1) := by decide +kernel
theorem dX9_init_113 : decode cX9_init 113 = .ok (.sipush 240, 3) := by decide +kernel
theorem dX9_init_116 : decode cX9_init 116 = .ok (.newarray .int, 2) := by decide +kernel
theorem dX9_init_118 : decode cX9_init 118 = .ok (.putfield 52, 3) := by decide +kernel
theorem dX9_init_121 : decode cX9_init 121 = .ok (.aload_n 0, 1) := by decide +kernel
theorem dX9_init_122 : decode cX9_init 122 = .ok (.bipush 10, 2) := by decide +kernel
theorem dX9_init_124 : decode cX9_init 124 = .ok (.newarray .int, 2) := by decide +kernel
theorem dX9_init_126 : decode cX9_init 126 = .ok (.putfield 55, 3) := by decide +kernel
theorem dX9_init_129 : decode cX9_init 129 = .ok (.return_, 1) := by decide +kernel
theorem dX9_no_0 : decode cX9_no 0 = .ok (.aload_n 0, 1) := by decide +kernel
theorem dX9_no_1 : decode cX9_no 1 = .ok (.getfield 7, 3) := by decide +kernel
theorem dX9_no_4 : decode cX9_no 4 = .ok (.iload_n 1, 1) := by decide +kernel
theorem dX9_no_5 : decode cX9_no 5 = .ok (.ineg, 1) := by decide +kernel
theorem dX9_no_6 : decode cX9_no 6 = .ok (.dup2, 1) := by decide +kernel
theorem dX9_no_7 : decode cX9_no 7 = .ok (.iaload, 1) := by decide +kernel
theorem dX9_no_8 : decode cX9_no 8 = .ok (.iconst 1, 1) := by decide +kernel
theorem dX9_no_9 : decode cX9_no 9 = .ok (.iadd, 1) := by decide +kernel
theorem dX9_no_10 : decode cX9_no 10 = .ok (.iastore, 1) := by decide +kernel
theorem dX9_no_11 : decode cX9_no 11 = .ok (.iload_n 1, 1) := by decide +kernel
theorem dX9_no_12 : decode cX9_no 12 = .ok (.ireturn, 1) := by decide +kernel
theorem dX9_lower_0 : decode cX9_lower 0 = .ok (.aload_n 0, 1) := by decide +kernel
theorem dX9_lower_1 : decode cX9_lower 1 = .ok (.getfield 7, 3) := by decide +kernel
theorem dX9_lower_4 : decode cX9_lower 4 = .ok (.iload_n 1, 1) := by decide +kernel
theorem dX9_lower_5 : decode cX9_lower 5 = .ok (.ineg, 1) := by decide +kernel
theorem dX9_lower_6 : decode cX9_lower 6 = .ok (.dup2, 1) := by decide +kernel
theorem dX9_lower_7 : decode cX9_lower 7 = .ok (.iaload, 1) := by decide +kernel
theorem dX9_lower_8 : decode cX9_lower 8 = .ok (.iconst 1, 1) := by decide +kernel
theorem dX9_lower_9 : decode cX9_lower 9 = .ok (.iadd, 1) := by decide +kernel
theorem dX9_lower_10 : decode cX9_lower 10 = .ok (.iastore, 1) := by decide +kernel
theorem dX9_lower_11 : decode cX9_lower 11 = .ok (.ldc 58, 2) := by decide +kernel
theorem dX9_lower_13 : decode cX9_lower 13 = .ok (.iload_n 1, 1) := by decide +kernel
theorem dX9_lower_14 : decode cX9_lower 14 = .ok (.isub, 1) := by decide +kernel
theorem dX9_lower_15 : decode cX9_lower 15 = .ok (.ireturn, 1) := by decide +kernel
theorem dX9_isIn_0 : decode cX9_isIn 0 = .ok (.iload_n 0, 1) := by decide +kernel
theorem dX9_isIn_1 : decode cX9_isIn 1 = .ok (.iload_n 1, 1) := by decide +kernel
theorem dX9_isIn_2 : decode cX9_isIn 2 = .ok (.if_icmp .lt 12, 3) := by decide +kernel
theorem dX9_isIn_5 : decode cX9_isIn 5 = .ok (.iload_n 0, 1) := by decide +kernel
theorem dX9_isIn_6 : decode cX9_isIn 6 = .ok (.iload_n 2, 1) := by decide +kernel
theorem dX9_isIn_7 : decode cX9_isIn 7 = .ok (.if_icmp .gt 7, 3) := by decide +kernel
theorem dX9_isIn_10 : decode cX9_isIn 10 = .ok (.iconst 1, 1) := by decide +kernel
theorem dX9_isIn_11 : decode cX9_isIn 11 = .ok (.goto 4, 3) := by decide +kernel
theorem dX9_isIn_14 : decode cX9_isIn 14 = .ok (.iconst 0, 1) := by decide +kernel
theorem dX9_isIn_15 : decode cX9_isIn 15 = .ok (.ireturn, 1) := by decide +kernel
theorem dX9_bound_0 : decode cX9_bound 0 = .ok (.iload_n 0, 1) := by decide +kernel
theorem dX9_bound_1 : decode cX9_bound 1 = .ok (.iload_n 1, 1) := by decide +kernel
theorem dX9_bound_2 : decode cX9_bound 2 = .ok (.if_icmp .ge 8, 3) := by decide +kernel
theorem dX9_bound_5 : decode cX9_bound 5 = .ok (.bipush (-4), 2) := by decide +kernel
theorem dX9_bound_7 : decode cX9_bound 7 = .ok (.goto 14, 3) := by decide +kernel
theorem dX9_bound_10 : decode cX9_bound 10 = .ok (.iload_n 0, 1) := by decide +kernel
theorem dX9_bound_11 : decode cX9_bound 11 = .ok (.iload_n 2, 1) := by decide +kernel
theorem dX9_bound_12 : decode cX9_bound 12 = .ok (.if_icmp .le 8, 3) := by decide +kernel
theorem dX9_bound_15 : decode cX9_bound 15 = .ok (.bipush (-6), 2) := by decide +kernel
theorem dX9_bound_17 : decode cX9_bound 17 = .ok (.goto 4, 3) := by decide +kernel
theorem dX9_bound_20 : decode cX9_bound 20 = .ok (.iconst 0, 1) := by decide +kernel
theorem dX9_bound_21 : decode cX9_bound 21 = .ok (.ireturn, 1) := by decide +kernel
theorem dX9_isWord_0 : decode cX9_isWord 0 = .ok (.iload_n 1, 1) := by decide +kernel
theorem dX9_isWord_1 : decode cX9_isWord 1 = .ok (.ifCond .lt 15, 3) := by decide +kernel
theorem dX9_isWord_4 : decode cX9_isWord 4 = .ok (.iload_n 1, 1) := by decide +kernel
theorem dX9_isWord_5 : decode cX9_isWord 5 = .ok (.aload_n 0, 1) := by decide +kernel
theorem dX9_isWord_6 : decode cX9_isWord 6 = .ok (.getfield 59, 3) := by decide +kernel
theorem dX9_isWord_9 : decode cX9_isWord 9 = .ok (.if_icmp .ge 7, 3) := by decide +kernel
theorem dX9_isWord_12 : decode cX9_isWord 12 = .ok (.iconst 1, 1) := by decide +kernel
theorem dX9_isWord_13 : decode cX9_isWord 13 = .ok (.goto 4, 3) := by decide +kernel
theorem dX9_isWord_16 : decode cX9_isWord 16 = .ok (.iconst 0, 1) := by decide +kernel
theorem dX9_isWord_17 : decode cX9_isWord 17 = .ok (.ireturn, 1) := by decide +kernel
theorem dX9_isBird_0 : decode cX9_isBird 0 = .ok (.iload_n 1, 1) := by decide +kernel
theorem dX9_isBird_1 : decode cX9_isBird 1 = .ok (.ifCond .lt 15, 3) := by decide +kernel
theorem dX9_isBird_4 : decode cX9_isBird 4 = .ok (.iload_n 1, 1) := by decide +kernel
theorem dX9_isBird_5 : decode cX9_isBird 5 = .ok (.aload_n 0, 1) := by decide +kernel
theorem dX9_isBird_6 : decode cX9_isBird 6 = .ok (.getfield 63, 3) := by decide +kernel
theorem dX9_isBird_9 : decode cX9_isBird 9 = .ok (.if_icmp .ge 7, 3) := by decide +kernel
theorem dX9_isBird_12 : decode cX9_isBird 12 = .ok (.iconst 1, 1) := by decide +kernel
theorem dX9_isBird_13 : decode cX9_isBird 13 = .ok (.goto 4, 3) := by decide +kernel
theorem dX9_isBird_16 : decode cX9_isBird 16 = .ok (.iconst 0, 1) := by decide +kernel
theorem dX9_isBird_17 : decode cX9_isBird 17 = .ok (.ireturn, 1) := by decide +kernel
theorem dX9_areWords_0 : decode cX9_areWords 0 = .ok (.iload_n 1, 1) := by decide +kernel
theorem dX9_areWords_1 : decode cX9_areWords 1 = .ok (.ifCond .lt 16, 3) := by decide +kernel
theorem dX9_areWords_4 : decode cX9_areWords 4 = .ok (.iload_n 1, 1) := by decide +kernel
theorem dX9_areWords_5 : decode cX9_areWords 5 = .ok (.aload_n 0, 1) := by decide +kernel
theorem dX9_areWords_6 : decode cX9_areWords 6 = .ok (.getfield 59, 3) := by decide +kernel
theorem dX9_areWords_9 : decode cX9_areWords 9 = .ok (.ishr, 1) := by decide +kernel
theorem dX9_areWords_10 : decode cX9_areWords 10 = .ok (.ifCond .ne 7, 3) := by decide +kernel
theorem dX9_areWords_13 : decode cX9_areWords 13 = .ok (.iconst 1, 1) := by decide +kernel
theorem dX9_areWords_14 : decode cX9_areWords 14 = .ok (.goto 4, 3) := by decide +kernel
theorem dX9_areWords_17 : decode cX9_areWords 17 = .ok (.iconst 0, 1) := by decide +kernel
theorem dX9_areWords_18 : decode cX9_areWords 18 = .ok (.ireturn, 1) := by decide +kernel
theorem dX9_letter_0 : decode cX9_letter 0 = .ok (.iload_n 1, 1) := by decide +kernel
theorem dX9_letter_1 : decode cX9_letter 1 = .ok (.iconst 0, 1) := by decide +kernel
theorem dX9_letter_2 : decode cX9_letter 2 = .ok (.sipush 255, 3) := by decide +kernel
theorem dX9_letter_5 : decode cX9_letter 5 = .ok (.invokestatic 66, 3) := by decide +kernel
theorem dX9_letter_8 : decode cX9_letter 8 = .ok (.istore_n 2, 1) := by decide +kernel
theorem dX9_letter_9 : decode cX9_letter 9 = .ok (.iload_n 2, 1) := by decide +kernel
theorem dX9_letter_10 : decode cX9_letter 10 = .ok (.ifCond .ne 15, 3) := by decide +kernel
theorem dX9_letter_13 : decode cX9_letter 13 = .ok (.aload_n 0, 1) := by decide +kernel
theorem dX9_letter_14 : decode cX9_letter 14 = .ok (.getfield 70, 3) := by decide +kernel
theorem dX9_letter_17 : decode cX9_letter 17 = .ok (.bipush 80, 2) := by decide +kernel
theorem dX9_letter_19 : decode cX9_letter 19 = .ok (.if_icmp .ne 6, 3) := by decide +kernel
theorem dX9_letter_22 : decode cX9_letter 22 = .ok (.bipush (-6), 2) := by decide +kernel
theorem dX9_letter_24 : decode cX9_letter 24 = .ok (.istore_n 2, 1) := by decide +kernel
theorem dX9_letter_25 : decode cX9_letter 25 = .ok (.iload_n 2, 1) := by decide +kernel
theorem dX9_letter_26 : decode cX9_letter 26 = .ok (.ifCond .eq 9, 3) := by decide +kernel
theorem dX9_letter_29 : decode cX9_letter 29 = .ok (.aload_n 0, 1) := by decide +kernel
theorem dX9_letter_30 : decode cX9_letter 30 = .ok (.iload_n 2, 1) := by decide +kernel
theorem dX9_letter_31 : decode cX9_letter 31 = .ok (.invokevirtual 73, 3) := by decide +kernel
theorem dX9_letter_34 : decode cX9_letter 34 = .ok (.ireturn, 1) := by decide +kernel
theorem dX9_letter_35 : decode cX9_letter 35 = .ok (.aload_n 0, 1) := by decide +kernel
theorem dX9_letter_36 : decode cX9_letter 36 = .ok (.getfield 40, 3) := by decide +kernel
theorem dX9_letter_39 : decode cX9_letter 39 = .ok (.aload_n 0, 1) := by decide +kernel
theorem dX9_letter_40 : decode cX9_letter 40 = .ok (.getfield 70, 3) := by decide +kernel
theorem dX9_letter_43 : decode cX9_letter 43 = .ok (.iload_n 1, 1) := by decide +kernel
theorem dX9_letter_44 : decode cX9_letter 44 = .ok (.iastore, 1) := by decide +kernel
theorem dX9_letter_45 : decode cX9_letter 45 = .ok (.aload_n 0, 1) := by decide +kernel
theorem dX9_letter_46 : decode cX9_letter 46 = .ok (.dup, 1) := by decide +kernel
theorem dX9_letter_47 : decode cX9_letter 47 = .ok (.getfield 70, 3) := by decide +kernel
theorem dX9_letter_50 : decode cX9_letter 50 = .ok (.iconst 1, 1) := by decide +kernel
theorem dX9_letter_51 : decode cX9_letter 51 = .ok (.iadd, 1) := by decide +kernel
theorem dX9_letter_52 : decode cX9_letter 52 = .ok (.putfield 70, 3) := by decide +kernel
theorem dX9_letter_55 : decode cX9_letter 55 = .ok (.aload_n 0, 1) := by decide +kernel
theorem dX9_letter_56 : decode cX9_letter 56 = .ok (.getfield 70, 3) := by decide +kernel
theorem dX9_letter_59 : decode cX9_letter 59 = .ok (.ireturn, 1) := by decide +kernel
theorem dX9_next_0 : decode cX9_next 0 = .ok (.aload_n 0, 1) := by decide +kernel
theorem dX9_next_1 : decode cX9_next 1 = .ok (.getfield 77, 3) := by decide +kernel
theorem dX9_next_4 : decode cX9_next 4 = .ok (.aload_n 0, 1) := by decide +kernel
theorem dX9_next_5 : decode cX9_next 5 = .ok (.getfield 70, 3) := by decide +kernel
theorem dX9_next_8 : decode cX9_next 8 = .ok (.if_icmp .ge 15, 3) := by decide +kernel
theorem dX9_next_11 : decode cX9_next 11 = .ok (.aload_n 0, 1) := by decide +kernel
theorem dX9_next_12 : decode cX9_next 12 = .ok (.getfield 40, 3) := by decide +kernel
theorem dX9_next_15 : decode cX9_next 15 = .ok (.aload_n 0, 1) := by decide +kernel
theorem dX9_next_16 : decode cX9_next 16 = .ok (.getfield 77, 3) := by decide +kernel
theorem dX9_next_19 : decode cX9_next 19 = .ok (.iaload, 1) := by decide +kernel
theorem dX9_next_20 : decode cX9_next 20 = .ok (.goto 4, 3) := by decide +kernel
theorem dX9_next_23 : decode cX9_next 23 = .ok (.iconst (-1), 1) := by decide +kernel
theorem dX9_next_24 : decode cX9_next 24 = .ok (.ireturn, 1) := by decide +kernel
theorem dX9_kindOf_0 : decode cX9_kindOf 0 = .ok (.iload_n 0, 1) := by decide +kernel
theorem dX9_kindOf_1 : decode cX9_kindOf 1 = .ok (.tableswitch 99 99 116 #[91, 99, 99, 97, 95, 99, 99, 99, 99, 99, 99, 99, 93, 99, 99, 99, 87, 89], 87) := by decide +kernel
theorem dX9_kindOf_88 : decode cX9_kindOf 88 = .ok (.iconst 0, 1) := by decide +kernel
theorem dX9_kindOf_89 : decode cX9_kindOf 89 = .ok (.ireturn, 1) := by decide +kernel
theorem dX9_kindOf_90 : decode cX9_kindOf 90 = .ok (.iconst 1, 1) := by decide +kernel
theorem dX9_kindOf_91 : decode cX9_kindOf 91 = .ok (.ireturn, 1) := by decide +kernel
theorem dX9_kindOf_92 : decode cX9_kindOf 92 = .ok (.iconst 2, 1) := by decide +kernel
theorem dX9_kindOf_93 : decode cX9_kindOf 93 = .ok (.ireturn, 1) := by decide +kernel
theorem dX9_kindOf_94 : decode cX9_kindOf 94 = .ok (.iconst 3, 1) := by decide +kernel
theorem dX9_kindOf_95 : decode cX9_kindOf 95 = .ok (.ireturn, 1) := by decide +kernel
theorem dX9_kindOf_96 : decode cX9_kindOf 96 = .ok (.iconst 4, 1) := by decide +kernel
theorem dX9_kindOf_97 : decode cX9_kindOf 97 = .ok (.ireturn, 1) := by decide +kernel
theorem dX9_kindOf_98 : decode cX9_kindOf 98 = .ok (.iconst 5, 1) := by decide +kernel
theorem dX9_kindOf_99 : decode cX9_kindOf 99 = .ok (.ireturn, 1) := by decide +kernel
theorem dX9_kindOf_100 : decode cX9_kindOf 100 = .ok (.iconst (-1), 1) := by decide +kernel
theorem dX9_kindOf_101 : decode cX9_kindOf 101 = .ok (.ireturn, 1) := by decide +kernel
theorem dX9_readsKind_0 : decode cX9_readsKind 0 = .ok (.aload_n 0, 1) := by decide +kernel
theorem dX9_readsKind_1 : decode cX9_readsKind 1 = .ok (.getfield 49, 3) := by decide +kernel
theorem dX9_readsKind_4 : decode cX9_readsKind 4 = .ok (.iload_n 1, 1) := by decide +kernel
theorem dX9_readsKind_5 : decode cX9_readsKind 5 = .ok (.aload_n 0, 1) := by decide +kernel
theorem dX9_readsKind_6 : decode cX9_readsKind 6 = .ok (.invokevirtual 80, 3) := by decide +kernel
theorem dX9_readsKind_9 : decode cX9_readsKind 9 = .ok (.invokestatic 84, 3) := by decide +kernel
theorem dX9_readsKind_12 : decode cX9_readsKind 12 = .ok (.iastore, 1) := by decide +kernel
theorem dX9_readsKind_13 : decode cX9_readsKind 13 = .ok (.aload_n 0, 1) := by decide +kernel
theorem dX9_readsKind_14 : decode cX9_readsKind 14 = .ok (.dup, 1) := by decide +kernel
theorem dX9_readsKind_15 : decode cX9_readsKind 15 = .ok (.getfield 77, 3) := by decide +kernel
theorem dX9_readsKind_18 : decode cX9_readsKind 18 = .ok (.aload_n 0, 1) := by decide +kernel
theorem dX9_readsKind_19 : decode cX9_readsKind 19 = .ok (.getfield 49, 3) := by decide +kernel
theorem dX9_readsKind_22 : decode cX9_readsKind 22 = .ok (.iload_n 1, 1) := by decide +kernel
theorem dX9_readsKind_23 : decode cX9_readsKind 23 = .ok (.iaload, 1) := by decide +kernel
theorem dX9_readsKind_24 : decode cX9_readsKind 24 = .ok (.ifCond .ge 7, 3) := by decide +kernel
theorem dX9_readsKind_27 : decode cX9_readsKind 27 = .ok (.iconst 0, 1) := by decide +kernel
theorem dX9_readsKind_28 : decode cX9_readsKind 28 = .ok (.goto 4, 3) := by decide +kernel
theorem dX9_readsKind_31 : decode cX9_readsKind 31 = .ok (.iconst 1, 1) := by decide +kernel
theorem dX9_readsKind_32 : decode cX9_readsKind 32 = .ok (.iadd, 1) := by decide +kernel
theorem dX9_readsKind_33 : decode cX9_readsKind 33 = .ok (.putfield 77, 3) := by decide +kernel
theorem dX9_readsKind_36 : decode cX9_readsKind 36 = .ok (.aload_n 0, 1) := by decide +kernel
theorem dX9_readsKind_37 : decode cX9_readsKind 37 = .ok (.getfield 49, 3) := by decide +kernel
theorem dX9_readsKind_40 : decode cX9_readsKind 40 = .ok (.iload_n 1, 1) := by decide +kernel
theorem dX9_readsKind_41 : decode cX9_readsKind 41 = .ok (.iaload, 1) := by decide +kernel
theorem dX9_readsKind_42 : decode cX9_readsKind 42 = .ok (.ifCond .lt 7, 3) := by decide +kernel
theorem dX9_readsKind_45 : decode cX9_readsKind 45 = .ok (.iconst 1, 1) := by decide +kernel
theorem dX9_readsKind_46 : decode cX9_readsKind 46 = .ok (.goto 4, 3) := by decide +kernel
theorem dX9_readsKind_49 : decode cX9_readsKind 49 = .ok (.iconst 0, 1) := by decide +kernel
theorem dX9_readsKind_50 : decode cX9_readsKind 50 = .ok (.ireturn, 1) := by decide +kernel
theorem dX9_readsOnes_0 : decode cX9_readsOnes 0 = .ok (.iconst 0, 1) := by decide +kernel
theorem dX9_readsOnes_1 : decode cX9_readsOnes 1 = .ok (.istore_n 3, 1) := by decide +kernel
theorem dX9_readsOnes_2 : decode cX9_readsOnes 2 = .ok (.iload_n 3, 1) := by decide +kernel
theorem dX9_readsOnes_3 : decode cX9_readsOnes 3 = .ok (.iload_n 2, 1) := by decide +kernel
theorem dX9_readsOnes_4 : decode cX9_readsOnes 4 = .ok (.if_icmp .ge 50, 3) := by decide +kernel
theorem dX9_readsOnes_7 : decode cX9_readsOnes 7 = .ok (.aload_n 0, 1) := by decide +kernel
theorem dX9_readsOnes_8 : decode cX9_readsOnes 8 = .ok (.invokevirtual 80, 3) := by decide +kernel
theorem dX9_readsOnes_11 : decode cX9_readsOnes 11 = .ok (.bipush 48, 2) := by decide +kernel
theorem dX9_readsOnes_13 : decode cX9_readsOnes 13 = .ok (.bipush 57, 2) := by decide +kernel
theorem dX9_readsOnes_15 : decode cX9_readsOnes 15 = .ok (.invokestatic 87, 3) := by decide +kernel
theorem dX9_readsOnes_18 : decode cX9_readsOnes 18 = .ok (.ifCond .ne 5, 3) := by decide +kernel
theorem dX9_readsOnes_21 : decode cX9_readsOnes 21 = .ok (.iconst 0, 1) := by decide +kernel
theorem dX9_readsOnes_22 : decode cX9_readsOnes 22 = .ok (.ireturn, 1) := by decide +kernel
theorem dX9_readsOnes_23 : decode cX9_readsOnes 23 = .ok (.aload_n 0, 1) := by decide +kernel
theorem dX9_readsOnes_24 : decode cX9_readsOnes 24 = .ok (.getfield 49, 3) := by decide +kernel
theorem dX9_readsOnes_27 : decode cX9_readsOnes 27 = .ok (.iload_n 1, 1) := by decide +kernel
theorem dX9_readsOnes_28 : decode cX9_readsOnes 28 = .ok (.iload_n 3, 1) := by decide +kernel
theorem dX9_readsOnes_29 : decode cX9_readsOnes 29 = .ok (.iadd, 1) := by decide +kernel
theorem dX9_readsOnes_30 : decode cX9_readsOnes 30 = .ok (.aload_n 0, 1) := by decide +kernel
theorem dX9_readsOnes_31 : decode cX9_readsOnes 31 = .ok (.invokevirtual 80, 3) := by decide +kernel
theorem dX9_readsOnes_34 : decode cX9_readsOnes 34 = .ok (.bipush 48, 2) := by decide +kernel
theorem dX9_readsOnes_36 : decode cX9_readsOnes 36 = .ok (.isub, 1) := by decide +kernel
theorem dX9_readsOnes_37 : decode cX9_readsOnes 37 = .ok (.iastore, 1) := by decide +kernel
theorem dX9_readsOnes_38 : decode cX9_readsOnes 38 = .ok (.aload_n 0, 1) := by decide +kernel
theorem dX9_readsOnes_39 : decode cX9_readsOnes 39 = .ok (.dup, 1) := by decide +kernel
theorem dX9_readsOnes_40 : decode cX9_readsOnes 40 = .ok (.getfield 77, 3) := by decide +kernel
theorem dX9_readsOnes_43 : decode cX9_readsOnes 43 = .ok (.iconst 1, 1) := by decide +kernel
theorem dX9_readsOnes_44 : decode cX9_readsOnes 44 = .ok (.iadd, 1) := by decide +kernel
theorem dX9_readsOnes_45 : decode cX9_readsOnes 45 = .ok (.putfield 77, 3) := by decide +kernel
theorem dX9_readsOnes_48 : decode cX9_readsOnes 48 = .ok (.iinc 3 1, 3) := by decide +kernel
theorem dX9_readsOnes_51 : decode cX9_readsOnes 51 = .ok (.goto (-49), 3) := by decide +kernel
theorem dX9_readsOnes_54 : decode cX9_readsOnes 54 = .ok (.iconst 1, 1) := by decide +kernel
theorem dX9_readsOnes_55 : decode cX9_readsOnes 55 = .ok (.ireturn, 1) := by decide +kernel
theorem dX9_statement_0 : decode cX9_statement 0 = .ok (.aload_n 0, 1) := by decide +kernel
theorem dX9_statement_1 : decode cX9_statement 1 = .ok (.invokevirtual 80, 3) := by decide +kernel
theorem dX9_statement_4 : decode cX9_statement 4 = .ok (.istore_n 1, 1) := by decide +kernel
theorem dX9_statement_5 : decode cX9_statement 5 = .ok (.iload_n 1, 1) := by decide +kernel
theorem dX9_statement_6 : decode cX9_statement 6 = .ok (.bipush 119, 2) := by decide +kernel
theorem dX9_statement_8 : decode cX9_statement 8 = .ok (.if_icmp .eq 23, 3) := by decide +kernel
theorem dX9_statement_11 : decode cX9_statement 11 = .ok (.iload_n 1, 1) := by decide +kernel
theorem dX9_statement_12 : decode cX9_statement 12 = .ok (.bipush 98, 2) := by decide +kernel
theorem dX9_statement_14 : decode cX9_statement 14 = .ok (.if_icmp .eq 17, 3) := by decide +kernel
theorem dX9_statement_17 : decode cX9_statement 17 = .ok (.iload_n 1, 1) := by decide +kernel
theorem dX9_statement_18 : decode cX9_statement 18 = .ok (.bipush 105, 2) := by decide +kernel
theorem dX9_statement_20 : decode cX9_statement 20 = .ok (.if_icmp .eq 11, 3) := by decide +kernel
theorem dX9_statement_23 : decode cX9_statement 23 = .ok (.iload_n 1, 1) := by decide +kernel
theorem dX9_statement_24 : decode cX9_statement 24 = .ok (.bipush 114, 2) := by decide +kernel
theorem dX9_statement_26 : decode cX9_statement 26 = .ok (.if_icmp .eq 5, 3) := by decide +kernel
theorem dX9_statement_29 : decode cX9_statement 29 = .ok (.iconst 0, 1) := by decide +kernel
theorem dX9_statement_30 : decode cX9_statement 30 = .ok (.ireturn, 1) := by decide +kernel
theorem dX9_statement_31 : decode cX9_statement 31 = .ok (.aload_n 0, 1) := by decide +kernel
theorem dX9_statement_32 : decode cX9_statement 32 = .ok (.getfield 43, 3) := by decide +kernel
theorem dX9_statement_35 : decode cX9_statement 35 = .ok (.aload_n 0, 1) := by decide +kernel
theorem dX9_statement_36 : decode cX9_statement 36 = .ok (.getfield 91, 3) := by decide +kernel
theorem dX9_statement_39 : decode cX9_statement 39 = .ok (.iload_n 1, 1) := by decide +kernel
theorem dX9_statement_40 : decode cX9_statement 40 = .ok (.iastore, 1) := by decide +kernel
theorem dX9_statement_41 : decode cX9_statement 41 = .ok (.aload_n 0, 1) := by decide +kernel
theorem dX9_statement_42 : decode cX9_statement 42 = .ok (.getfield 46, 3) := by decide +kernel
theorem dX9_statement_45 : decode cX9_statement 45 = .ok (.aload_n 0, 1) := by decide +kernel
theorem dX9_statement_46 : decode cX9_statement 46 = .ok (.getfield 91, 3) := by decide +kernel
theorem dX9_statement_49 : decode cX9_statement 49 = .ok (.aload_n 0, 1) := by decide +kernel
theorem dX9_statement_50 : decode cX9_statement 50 = .ok (.getfield 77, 3) := by decide +kernel
theorem dX9_statement_53 : decode cX9_statement 53 = .ok (.iastore, 1) := by decide +kernel
theorem dX9_statement_54 : decode cX9_statement 54 = .ok (.aload_n 0, 1) := by decide +kernel
theorem dX9_statement_55 : decode cX9_statement 55 = .ok (.dup, 1) := by decide +kernel
theorem dX9_statement_56 : decode cX9_statement 56 = .ok (.getfield 77, 3) := by decide +kernel
theorem dX9_statement_59 : decode cX9_statement 59 = .ok (.iconst 1, 1) := by decide +kernel
theorem dX9_statement_60 : decode cX9_statement 60 = .ok (.iadd, 1) := by decide +kernel
theorem dX9_statement_61 : decode cX9_statement 61 = .ok (.putfield 77, 3) := by decide +kernel
theorem dX9_statement_64 : decode cX9_statement 64 = .ok (.iconst 4, 1) := by decide +kernel
theorem dX9_statement_65 : decode cX9_statement 65 = .ok (.aload_n 0, 1) := by decide +kernel
theorem dX9_statement_66 : decode cX9_statement 66 = .ok (.getfield 91, 3) := by decide +kernel
theorem dX9_statement_69 : decode cX9_statement 69 = .ok (.imul, 1) := by decide +kernel
theorem dX9_statement_70 : decode cX9_statement 70 = .ok (.istore_n 2, 1) := by decide +kernel
theorem dX9_statement_71 : decode cX9_statement 71 = .ok (.iload_n 1, 1) := by decide +kernel
theorem dX9_statement_72 : decode cX9_statement 72 = .ok (.bipush 98, 2) := by decide +kernel
theorem dX9_statement_74 : decode cX9_statement 74 = .ok (.if_icmp .ne 30, 3) := by decide +kernel
theorem dX9_statement_77 : decode cX9_statement 77 = .ok (.aload_n 0, 1) := by decide +kernel
theorem dX9_statement_78 : decode cX9_statement 78 = .ok (.iload_n 2, 1) := by decide +kernel
theorem dX9_statement_79 : decode cX9_statement 79 = .ok (.invokevirtual 94, 3) := by decide +kernel
theorem dX9_statement_82 : decode cX9_statement 82 = .ok (.ifCond .eq 18, 3) := by decide +kernel
theorem dX9_statement_85 : decode cX9_statement 85 = .ok (.aload_n 0, 1) := by decide +kernel
theorem dX9_statement_86 : decode cX9_statement 86 = .ok (.iload_n 2, 1) := by decide +kernel
theorem dX9_statement_87 : decode cX9_statement 87 = .ok (.iconst 1, 1) := by decide +kernel
theorem dX9_statement_88 : decode cX9_statement 88 = .ok (.iadd, 1) := by decide +kernel
theorem dX9_statement_89 : decode cX9_statement 89 = .ok (.iconst 3, 1) := by decide +kernel
theorem dX9_statement_90 : decode cX9_statement 90 = .ok (.invokevirtual 98, 3) := by decide +kernel
theorem dX9_statement_93 : decode cX9_statement 93 = .ok (.ifCond .eq 7, 3) := by decide +kernel
theorem dX9_statement_96 : decode cX9_statement 96 = .ok (.iconst 1, 1) := by decide +kernel
theorem dX9_statement_97 : decode cX9_statement 97 = .ok (.goto 23, 3) := by decide +kernel
theorem dX9_statement_100 : decode cX9_statement 100 = .ok (.iconst 0, 1) := by decide +kernel
theorem dX9_statement_101 : decode cX9_statement 101 = .ok (.goto 19, 3) := by decide +kernel
theorem dX9_statement_104 : decode cX9_statement 104 = .ok (.aload_n 0, 1) := by decide +kernel
theorem dX9_statement_105 : decode cX9_statement 105 = .ok (.iload_n 2, 1) := by decide +kernel
theorem dX9_statement_106 : decode cX9_statement 106 = .ok (.iload_n 1, 1) := by decide +kernel
theorem dX9_statement_107 : decode cX9_statement 107 = .ok (.bipush 105, 2) := by decide +kernel
theorem dX9_statement_109 : decode cX9_statement 109 = .ok (.if_icmp .ne 7, 3) := by decide +kernel
theorem dX9_statement_112 : decode cX9_statement 112 = .ok (.iconst 2, 1) := by decide +kernel
theorem dX9_statement_113 : decode cX9_statement 113 = .ok (.goto 4, 3) := by decide +kernel
theorem dX9_statement_116 : decode cX9_statement 116 = .ok (.iconst 3, 1) := by decide +kernel
theorem dX9_statement_117 : decode cX9_statement 117 = .ok (.invokevirtual 98, 3) := by decide +kernel
theorem dX9_statement_120 : decode cX9_statement 120 = .ok (.istore_n 3, 1) := by decide +kernel
theorem dX9_statement_121 : decode cX9_statement 121 = .ok (.iload_n 3, 1) := by decide +kernel
theorem dX9_statement_122 : decode cX9_statement 122 = .ok (.ifCond .eq 12, 3) := by decide +kernel
theorem dX9_statement_125 : decode cX9_statement 125 = .ok (.aload_n 0, 1) := by decide +kernel
theorem dX9_statement_126 : decode cX9_statement 126 = .ok (.invokevirtual 80, 3) := by decide +kernel
theorem dX9_statement_129 : decode cX9_statement 129 = .ok (.bipush 59, 2) := by decide +kernel
theorem dX9_statement_131 : decode cX9_statement 131 = .ok (.if_icmp .eq 5, 3) := by decide +kernel
theorem dX9_statement_134 : decode cX9_statement 134 = .ok (.iconst 0, 1) := by decide +kernel
theorem dX9_statement_135 : decode cX9_statement 135 = .ok (.ireturn, 1) := by decide +kernel
theorem dX9_statement_136 : decode cX9_statement 136 = .ok (.aload_n 0, 1) := by decide +kernel
theorem dX9_statement_137 : decode cX9_statement 137 = .ok (.dup, 1) := by decide +kernel
theorem dX9_statement_138 : decode cX9_statement 138 = .ok (.getfield 77, 3) := by decide +kernel
theorem dX9_statement_141 : decode cX9_statement 141 = .ok (.iconst 1, 1) := by decide +kernel
theorem dX9_statement_142 : decode cX9_statement 142 = .ok (.iadd, 1) := by decide +kernel
theorem dX9_statement_143 : decode cX9_statement 143 = .ok (.putfield 77, 3) := by decide +kernel
theorem dX9_statement_146 : decode cX9_statement 146 = .ok (.iconst 1, 1) := by decide +kernel
theorem dX9_statement_147 : decode cX9_statement 147 = .ok (.ireturn, 1) := by decide +kernel
theorem dX9_comesWord_0 : decode cX9_comesWord 0 = .ok (.aload_n 0, 1) := by decide +kernel
theorem dX9_comesWord_1 : decode cX9_comesWord 1 = .ok (.getfield 59, 3) := by decide +kernel
theorem dX9_comesWord_4 : decode cX9_comesWord 4 = .ok (.bipush 10, 2) := by decide +kernel
theorem dX9_comesWord_6 : decode cX9_comesWord 6 = .ok (.if_icmp .eq 15, 3) := by decide +kernel
theorem dX9_comesWord_9 : decode cX9_comesWord 9 = .ok (.aload_n 0, 1) := by decide +kernel
theorem dX9_comesWord_10 : decode cX9_comesWord 10 = .ok (.getfield 49, 3) := by decide +kernel
theorem dX9_comesWord_13 : decode cX9_comesWord 13 = .ok (.iload_n 1, 1) := by decide +kernel
theorem dX9_comesWord_14 : decode cX9_comesWord 14 = .ok (.iconst 1, 1) := by decide +kernel
theorem dX9_comesWord_15 : decode cX9_comesWord 15 = .ok (.iadd, 1) := by decide +kernel
theorem dX9_comesWord_16 : decode cX9_comesWord 16 = .ok (.iaload, 1) := by decide +kernel
theorem dX9_comesWord_17 : decode cX9_comesWord 17 = .ok (.iconst 2, 1) := by decide +kernel
theorem dX9_comesWord_18 : decode cX9_comesWord 18 = .ok (.if_icmp .le 5, 3) := by decide +kernel
theorem dX9_comesWord_21 : decode cX9_comesWord 21 = .ok (.iconst 0, 1) := by decide +kernel
theorem dX9_comesWord_22 : decode cX9_comesWord 22 = .ok (.ireturn, 1) := by decide +kernel
theorem dX9_comesWord_23 : decode cX9_comesWord 23 = .ok (.aload_n 0, 1) := by decide +kernel
theorem dX9_comesWord_24 : decode cX9_comesWord 24 = .ok (.getfield 13, 3) := by decide +kernel
theorem dX9_comesWord_27 : decode cX9_comesWord 27 = .ok (.aload_n 0, 1) := by decide +kernel
theorem dX9_comesWord_28 : decode cX9_comesWord 28 = .ok (.getfield 59, 3) := by decide +kernel
theorem dX9_comesWord_31 : decode cX9_comesWord 31 = .ok (.aload_n 0, 1) := by decide +kernel
theorem dX9_comesWord_32 : decode cX9_comesWord 32 = .ok (.getfield 49, 3) := by decide +kernel
theorem dX9_comesWord_35 : decode cX9_comesWord 35 = .ok (.iload_n 1, 1) := by decide +kernel
theorem dX9_comesWord_36 : decode cX9_comesWord 36 = .ok (.iaload, 1) := by decide +kernel
theorem dX9_comesWord_37 : decode cX9_comesWord 37 = .ok (.iastore, 1) := by decide +kernel
theorem dX9_comesWord_38 : decode cX9_comesWord 38 = .ok (.aload_n 0, 1) := by decide +kernel
theorem dX9_comesWord_39 : decode cX9_comesWord 39 = .ok (.getfield 16, 3) := by decide +kernel
theorem dX9_comesWord_42 : decode cX9_comesWord 42 = .ok (.aload_n 0, 1) := by decide +kernel
theorem dX9_comesWord_43 : decode cX9_comesWord 43 = .ok (.getfield 59, 3) := by decide +kernel
theorem dX9_comesWord_46 : decode cX9_comesWord 46 = .ok (.aload_n 0, 1) := by decide +kernel
theorem dX9_comesWord_47 : decode cX9_comesWord 47 = .ok (.getfield 49, 3) := by decide +kernel
theorem dX9_comesWord_50 : decode cX9_comesWord 50 = .ok (.iload_n 1, 1) := by decide +kernel
theorem dX9_comesWord_51 : decode cX9_comesWord 51 = .ok (.iconst 1, 1) := by decide +kernel
theorem dX9_comesWord_52 : decode cX9_comesWord 52 = .ok (.iadd, 1) := by decide +kernel
theorem dX9_comesWord_53 : decode cX9_comesWord 53 = .ok (.iaload, 1) := by decide +kernel
theorem dX9_comesWord_54 : decode cX9_comesWord 54 = .ok (.iastore, 1) := by decide +kernel
theorem dX9_comesWord_55 : decode cX9_comesWord 55 = .ok (.aload_n 0, 1) := by decide +kernel
theorem dX9_comesWord_56 : decode cX9_comesWord 56 = .ok (.getfield 19, 3) := by decide +kernel
theorem dX9_comesWord_59 : decode cX9_comesWord 59 = .ok (.aload_n 0, 1) := by decide +kernel
theorem dX9_comesWord_60 : decode cX9_comesWord 60 = .ok (.getfield 59, 3) := by decide +kernel
theorem dX9_comesWord_63 : decode cX9_comesWord 63 = .ok (.aload_n 0, 1) := by decide +kernel
theorem dX9_comesWord_64 : decode cX9_comesWord 64 = .ok (.getfield 49, 3) := by decide +kernel
theorem dX9_comesWord_67 : decode cX9_comesWord 67 = .ok (.iload_n 1, 1) := by decide +kernel
theorem dX9_comesWord_68 : decode cX9_comesWord 68 = .ok (.iconst 2, 1) := by decide +kernel
theorem dX9_comesWord_69 : decode cX9_comesWord 69 = .ok (.iadd, 1) := by decide +kernel
theorem dX9_comesWord_70 : decode cX9_comesWord 70 = .ok (.iaload, 1) := by decide +kernel
theorem dX9_comesWord_71 : decode cX9_comesWord 71 = .ok (.iastore, 1) := by decide +kernel
theorem dX9_comesWord_72 : decode cX9_comesWord 72 = .ok (.aload_n 0, 1) := by decide +kernel
theorem dX9_comesWord_73 : decode cX9_comesWord 73 = .ok (.dup, 1) := by decide +kernel
theorem dX9_comesWord_74 : decode cX9_comesWord 74 = .ok (.getfield 59, 3) := by decide +kernel
theorem dX9_comesWord_77 : decode cX9_comesWord 77 = .ok (.iconst 1, 1) := by decide +kernel
theorem dX9_comesWord_78 : decode cX9_comesWord 78 = .ok (.iadd, 1) := by decide +kernel
theorem dX9_comesWord_79 : decode cX9_comesWord 79 = .ok (.putfield 59, 3) := by decide +kernel
theorem dX9_comesWord_82 : decode cX9_comesWord 82 = .ok (.iconst 1, 1) := by decide +kernel
theorem dX9_comesWord_83 : decode cX9_comesWord 83 = .ok (.ireturn, 1) := by decide +kernel
theorem dX9_comesBird_0 : decode cX9_comesBird 0 = .ok (.aload_n 0, 1) := by decide +kernel
theorem dX9_comesBird_1 : decode cX9_comesBird 1 = .ok (.getfield 63, 3) := by decide +kernel
theorem dX9_comesBird_4 : decode cX9_comesBird 4 = .ok (.iconst 4, 1) := by decide +kernel
theorem dX9_comesBird_5 : decode cX9_comesBird 5 = .ok (.if_icmp .eq 35, 3) := by decide +kernel
theorem dX9_comesBird_8 : decode cX9_comesBird 8 = .ok (.aload_n 0, 1) := by decide +kernel
theorem dX9_comesBird_9 : decode cX9_comesBird 9 = .ok (.getfield 49, 3) := by decide +kernel
theorem dX9_comesBird_12 : decode cX9_comesBird 12 = .ok (.iload_n 1, 1) := by decide +kernel
theorem dX9_comesBird_13 : decode cX9_comesBird 13 = .ok (.iconst 3, 1) := by decide +kernel
theorem dX9_comesBird_14 : decode cX9_comesBird 14 = .ok (.iadd, 1) := by decide +kernel
theorem dX9_comesBird_15 : decode cX9_comesBird 15 = .ok (.iaload, 1) := by decide +kernel
theorem dX9_comesBird_16 : decode cX9_comesBird 16 = .ok (.bipush 7, 2) := by decide +kernel
theorem dX9_comesBird_18 : decode cX9_comesBird 18 = .ok (.if_icmp .gt 22, 3) := by decide +kernel
theorem dX9_comesBird_21 : decode cX9_comesBird 21 = .ok (.aload_n 0, 1) := by decide +kernel
theorem dX9_comesBird_22 : decode cX9_comesBird 22 = .ok (.getfield 49, 3) := by decide +kernel
theorem dX9_comesBird_25 : decode cX9_comesBird 25 = .ok (.iload_n 1, 1) := by decide +kernel
theorem dX9_comesBird_26 : decode cX9_comesBird 26 = .ok (.iconst 2, 1) := by decide +kernel
theorem dX9_comesBird_27 : decode cX9_comesBird 27 = .ok (.iadd, 1) := by decide +kernel
theorem dX9_comesBird_28 : decode cX9_comesBird 28 = .ok (.iaload, 1) := by decide +kernel
theorem dX9_comesBird_29 : decode cX9_comesBird 29 = .ok (.aload_n 0, 1) := by decide +kernel
theorem dX9_comesBird_30 : decode cX9_comesBird 30 = .ok (.getfield 49, 3) := by decide +kernel
theorem dX9_comesBird_33 : decode cX9_comesBird 33 = .ok (.iload_n 1, 1) := by decide +kernel
theorem dX9_comesBird_34 : decode cX9_comesBird 34 = .ok (.iconst 3, 1) := by decide +kernel
theorem dX9_comesBird_35 : decode cX9_comesBird 35 = .ok (.iadd, 1) := by decide +kernel
theorem dX9_comesBird_36 : decode cX9_comesBird 36 = .ok (.iaload, 1) := by decide +kernel
theorem dX9_comesBird_37 : decode cX9_comesBird 37 = .ok (.if_icmp .le 5, 3) := by decide +kernel
theorem dX9_comesBird_40 : decode cX9_comesBird 40 = .ok (.iconst 0, 1) := by decide +kernel
theorem dX9_comesBird_41 : decode cX9_comesBird 41 = .ok (.ireturn, 1) := by decide +kernel
theorem dX9_comesBird_42 : decode cX9_comesBird 42 = .ok (.aload_n 0, 1) := by decide +kernel
theorem dX9_comesBird_43 : decode cX9_comesBird 43 = .ok (.getfield 22, 3) := by decide +kernel
theorem dX9_comesBird_46 : decode cX9_comesBird 46 = .ok (.aload_n 0, 1) := by decide +kernel
theorem dX9_comesBird_47 : decode cX9_comesBird 47 = .ok (.getfield 63, 3) := by decide +kernel
theorem dX9_comesBird_50 : decode cX9_comesBird 50 = .ok (.aload_n 0, 1) := by decide +kernel
theorem dX9_comesBird_51 : decode cX9_comesBird 51 = .ok (.getfield 49, 3) := by decide +kernel
theorem dX9_comesBird_54 : decode cX9_comesBird 54 = .ok (.iload_n 1, 1) := by decide +kernel
theorem dX9_comesBird_55 : decode cX9_comesBird 55 = .ok (.iaload, 1) := by decide +kernel
theorem dX9_comesBird_56 : decode cX9_comesBird 56 = .ok (.iastore, 1) := by decide +kernel
theorem dX9_comesBird_57 : decode cX9_comesBird 57 = .ok (.aload_n 0, 1) := by decide +kernel
theorem dX9_comesBird_58 : decode cX9_comesBird 58 = .ok (.getfield 25, 3) := by decide +kernel
theorem dX9_comesBird_61 : decode cX9_comesBird 61 = .ok (.aload_n 0, 1) := by decide +kernel
theorem dX9_comesBird_62 : decode cX9_comesBird 62 = .ok (.getfield 63, 3) := by decide +kernel
theorem dX9_comesBird_65 : decode cX9_comesBird 65 = .ok (.aload_n 0, 1) := by decide +kernel
theorem dX9_comesBird_66 : decode cX9_comesBird 66 = .ok (.getfield 49, 3) := by decide +kernel
theorem dX9_comesBird_69 : decode cX9_comesBird 69 = .ok (.iload_n 1, 1) := by decide +kernel
theorem dX9_comesBird_70 : decode cX9_comesBird 70 = .ok (.iconst 1, 1) := by decide +kernel
theorem dX9_comesBird_71 : decode cX9_comesBird 71 = .ok (.iadd, 1) := by decide +kernel
theorem dX9_comesBird_72 : decode cX9_comesBird 72 = .ok (.iaload, 1) := by decide +kernel
theorem dX9_comesBird_73 : decode cX9_comesBird 73 = .ok (.iastore, 1) := by decide +kernel
theorem dX9_comesBird_74 : decode cX9_comesBird 74 = .ok (.aload_n 0, 1) := by decide +kernel
theorem dX9_comesBird_75 : decode cX9_comesBird 75 = .ok (.getfield 28, 3) := by decide +kernel
theorem dX9_comesBird_78 : decode cX9_comesBird 78 = .ok (.aload_n 0, 1) := by decide +kernel
theorem dX9_comesBird_79 : decode cX9_comesBird 79 = .ok (.getfield 63, 3) := by decide +kernel
theorem dX9_comesBird_82 : decode cX9_comesBird 82 = .ok (.aload_n 0, 1) := by decide +kernel
theorem dX9_comesBird_83 : decode cX9_comesBird 83 = .ok (.getfield 49, 3) := by decide +kernel
theorem dX9_comesBird_86 : decode cX9_comesBird 86 = .ok (.iload_n 1, 1) := by decide +kernel
theorem dX9_comesBird_87 : decode cX9_comesBird 87 = .ok (.iconst 2, 1) := by decide +kernel
theorem dX9_comesBird_88 : decode cX9_comesBird 88 = .ok (.iadd, 1) := by decide +kernel
theorem dX9_comesBird_89 : decode cX9_comesBird 89 = .ok (.iaload, 1) := by decide +kernel
theorem dX9_comesBird_90 : decode cX9_comesBird 90 = .ok (.iastore, 1) := by decide +kernel
theorem dX9_comesBird_91 : decode cX9_comesBird 91 = .ok (.aload_n 0, 1) := by decide +kernel
theorem dX9_comesBird_92 : decode cX9_comesBird 92 = .ok (.getfield 31, 3) := by decide +kernel
theorem dX9_comesBird_95 : decode cX9_comesBird 95 = .ok (.aload_n 0, 1) := by decide +kernel
theorem dX9_comesBird_96 : decode cX9_comesBird 96 = .ok (.getfield 63, 3) := by decide +kernel
theorem dX9_comesBird_99 : decode cX9_comesBird 99 = .ok (.aload_n 0, 1) := by decide +kernel
theorem dX9_comesBird_100 : decode cX9_comesBird 100 = .ok (.getfield 49, 3) := by decide +kernel
theorem dX9_comesBird_103 : decode cX9_comesBird 103 = .ok (.iload_n 1, 1) := by decide +kernel
theorem dX9_comesBird_104 : decode cX9_comesBird 104 = .ok (.iconst 3, 1) := by decide +kernel
theorem dX9_comesBird_105 : decode cX9_comesBird 105 = .ok (.iadd, 1) := by decide +kernel
theorem dX9_comesBird_106 : decode cX9_comesBird 106 = .ok (.iaload, 1) := by decide +kernel
theorem dX9_comesBird_107 : decode cX9_comesBird 107 = .ok (.iastore, 1) := by decide +kernel
theorem dX9_comesBird_108 : decode cX9_comesBird 108 = .ok (.aload_n 0, 1) := by decide +kernel
theorem dX9_comesBird_109 : decode cX9_comesBird 109 = .ok (.dup, 1) := by decide +kernel
theorem dX9_comesBird_110 : decode cX9_comesBird 110 = .ok (.getfield 63, 3) := by decide +kernel
theorem dX9_comesBird_113 : decode cX9_comesBird 113 = .ok (.iconst 1, 1) := by decide +kernel
theorem dX9_comesBird_114 : decode cX9_comesBird 114 = .ok (.iadd, 1) := by decide +kernel
theorem dX9_comesBird_115 : decode cX9_comesBird 115 = .ok (.putfield 63, 3) := by decide +kernel
theorem dX9_comesBird_118 : decode cX9_comesBird 118 = .ok (.iconst 1, 1) := by decide +kernel
theorem dX9_comesBird_119 : decode cX9_comesBird 119 = .ok (.ireturn, 1) := by decide +kernel
theorem dX9_comesWatch_0 : decode cX9_comesWatch 0 = .ok (.aload_n 0, 1) := by decide +kernel
theorem dX9_comesWatch_1 : decode cX9_comesWatch 1 = .ok (.aload_n 0, 1) := by decide +kernel
theorem dX9_comesWatch_2 : decode cX9_comesWatch 2 = .ok (.getfield 49, 3) := by decide +kernel
theorem dX9_comesWatch_5 : decode cX9_comesWatch 5 = .ok (.iload_n 1, 1) := by decide +kernel
theorem dX9_comesWatch_6 : decode cX9_comesWatch 6 = .ok (.iaload, 1) := by decide +kernel
theorem dX9_comesWatch_7 : decode cX9_comesWatch 7 = .ok (.invokevirtual 102, 3) := by decide +kernel
theorem dX9_comesWatch_10 : decode cX9_comesWatch 10 = .ok (.ifCond .eq 35, 3) := by decide +kernel
theorem dX9_comesWatch_13 : decode cX9_comesWatch 13 = .ok (.aload_n 0, 1) := by decide +kernel
theorem dX9_comesWatch_14 : decode cX9_comesWatch 14 = .ok (.getfield 49, 3) := by decide +kernel
theorem dX9_comesWatch_17 : decode cX9_comesWatch 17 = .ok (.iload_n 1, 1) := by decide +kernel
theorem dX9_comesWatch_18 : decode cX9_comesWatch 18 = .ok (.iconst 2, 1) := by decide +kernel
theorem dX9_comesWatch_19 : decode cX9_comesWatch 19 = .ok (.iadd, 1) := by decide +kernel
theorem dX9_comesWatch_20 : decode cX9_comesWatch 20 = .ok (.iaload, 1) := by decide +kernel
theorem dX9_comesWatch_21 : decode cX9_comesWatch 21 = .ok (.bipush 7, 2) := by decide +kernel
theorem dX9_comesWatch_23 : decode cX9_comesWatch 23 = .ok (.if_icmp .gt 22, 3) := by decide +kernel
theorem dX9_comesWatch_26 : decode cX9_comesWatch 26 = .ok (.aload_n 0, 1) := by decide +kernel
theorem dX9_comesWatch_27 : decode cX9_comesWatch 27 = .ok (.getfield 49, 3) := by decide +kernel
theorem dX9_comesWatch_30 : decode cX9_comesWatch 30 = .ok (.iload_n 1, 1) := by decide +kernel
theorem dX9_comesWatch_31 : decode cX9_comesWatch 31 = .ok (.iconst 1, 1) := by decide +kernel
theorem dX9_comesWatch_32 : decode cX9_comesWatch 32 = .ok (.iadd, 1) := by decide +kernel
theorem dX9_comesWatch_33 : decode cX9_comesWatch 33 = .ok (.iaload, 1) := by decide +kernel
theorem dX9_comesWatch_34 : decode cX9_comesWatch 34 = .ok (.aload_n 0, 1) := by decide +kernel
theorem dX9_comesWatch_35 : decode cX9_comesWatch 35 = .ok (.getfield 49, 3) := by decide +kernel
theorem dX9_comesWatch_38 : decode cX9_comesWatch 38 = .ok (.iload_n 1, 1) := by decide +kernel
theorem dX9_comesWatch_39 : decode cX9_comesWatch 39 = .ok (.iconst 2, 1) := by decide +kernel
theorem dX9_comesWatch_40 : decode cX9_comesWatch 40 = .ok (.iadd, 1) := by decide +kernel
theorem dX9_comesWatch_41 : decode cX9_comesWatch 41 = .ok (.iaload, 1) := by decide +kernel
theorem dX9_comesWatch_42 : decode cX9_comesWatch 42 = .ok (.if_icmp .le 5, 3) := by decide +kernel
theorem dX9_comesWatch_45 : decode cX9_comesWatch 45 = .ok (.iconst 0, 1) := by decide +kernel
theorem dX9_comesWatch_46 : decode cX9_comesWatch 46 = .ok (.ireturn, 1) := by decide +kernel
theorem dX9_comesWatch_47 : decode cX9_comesWatch 47 = .ok (.aload_n 0, 1) := by decide +kernel
theorem dX9_comesWatch_48 : decode cX9_comesWatch 48 = .ok (.getfield 49, 3) := by decide +kernel
theorem dX9_comesWatch_51 : decode cX9_comesWatch 51 = .ok (.iload_n 1, 1) := by decide +kernel
theorem dX9_comesWatch_52 : decode cX9_comesWatch 52 = .ok (.iconst 1, 1) := by decide +kernel
theorem dX9_comesWatch_53 : decode cX9_comesWatch 53 = .ok (.iadd, 1) := by decide +kernel
theorem dX9_comesWatch_54 : decode cX9_comesWatch 54 = .ok (.iaload, 1) := by decide +kernel
theorem dX9_comesWatch_55 : decode cX9_comesWatch 55 = .ok (.istore_n 2, 1) := by decide +kernel
theorem dX9_comesWatch_56 : decode cX9_comesWatch 56 = .ok (.iload_n 2, 1) := by decide +kernel
theorem dX9_comesWatch_57 : decode cX9_comesWatch 57 = .ok (.aload_n 0, 1) := by decide +kernel
theorem dX9_comesWatch_58 : decode cX9_comesWatch 58 = .ok (.getfield 49, 3) := by decide +kernel
theorem dX9_comesWatch_61 : decode cX9_comesWatch 61 = .ok (.iload_n 1, 1) := by decide +kernel
theorem dX9_comesWatch_62 : decode cX9_comesWatch 62 = .ok (.iconst 2, 1) := by decide +kernel
theorem dX9_comesWatch_63 : decode cX9_comesWatch 63 = .ok (.iadd, 1) := by decide +kernel
theorem dX9_comesWatch_64 : decode cX9_comesWatch 64 = .ok (.iaload, 1) := by decide +kernel
theorem dX9_comesWatch_65 : decode cX9_comesWatch 65 = .ok (.if_icmp .gt 26, 3) := by decide +kernel
theorem dX9_comesWatch_68 : decode cX9_comesWatch 68 = .ok (.aload_n 0, 1) := by decide +kernel
theorem dX9_comesWatch_69 : decode cX9_comesWatch 69 = .ok (.getfield 37, 3) := by decide +kernel
theorem dX9_comesWatch_72 : decode cX9_comesWatch 72 = .ok (.iload_n 2, 1) := by decide +kernel
theorem dX9_comesWatch_73 : decode cX9_comesWatch 73 = .ok (.dup2, 1) := by decide +kernel
theorem dX9_comesWatch_74 : decode cX9_comesWatch 74 = .ok (.iaload, 1) := by decide +kernel
theorem dX9_comesWatch_75 : decode cX9_comesWatch 75 = .ok (.iconst 1, 1) := by decide +kernel
theorem dX9_comesWatch_76 : decode cX9_comesWatch 76 = .ok (.aload_n 0, 1) := by decide +kernel
theorem dX9_comesWatch_77 : decode cX9_comesWatch 77 = .ok (.getfield 49, 3) := by decide +kernel
theorem dX9_comesWatch_80 : decode cX9_comesWatch 80 = .ok (.iload_n 1, 1) := by decide +kernel
theorem dX9_comesWatch_81 : decode cX9_comesWatch 81 = .ok (.iaload, 1) := by decide +kernel
theorem dX9_comesWatch_82 : decode cX9_comesWatch 82 = .ok (.ishl, 1) := by decide +kernel
theorem dX9_comesWatch_83 : decode cX9_comesWatch 83 = .ok (.ior, 1) := by decide +kernel
theorem dX9_comesWatch_84 : decode cX9_comesWatch 84 = .ok (.iastore, 1) := by decide +kernel
theorem dX9_comesWatch_85 : decode cX9_comesWatch 85 = .ok (.iinc 2 1, 3) := by decide +kernel
theorem dX9_comesWatch_88 : decode cX9_comesWatch 88 = .ok (.goto (-32), 3) := by decide +kernel
theorem dX9_comesWatch_91 : decode cX9_comesWatch 91 = .ok (.iconst 1, 1) := by decide +kernel
theorem dX9_comesWatch_92 : decode cX9_comesWatch 92 = .ok (.ireturn, 1) := by decide +kernel
theorem dX9_comes_0 : decode cX9_comes 0 = .ok (.iconst 4, 1) := by decide +kernel
theorem dX9_comes_1 : decode cX9_comes 1 = .ok (.iload_n 1, 1) := by decide +kernel
theorem dX9_comes_2 : decode cX9_comes 2 = .ok (.imul, 1) := by decide +kernel
theorem dX9_comes_3 : decode cX9_comes 3 = .ok (.istore_n 2, 1) := by decide +kernel
theorem dX9_comes_4 : decode cX9_comes 4 = .ok (.aload_n 0, 1) := by decide +kernel
theorem dX9_comes_5 : decode cX9_comes 5 = .ok (.getfield 43, 3) := by decide +kernel
theorem dX9_comes_8 : decode cX9_comes 8 = .ok (.iload_n 1, 1) := by decide +kernel
theorem dX9_comes_9 : decode cX9_comes 9 = .ok (.iaload, 1) := by decide +kernel
theorem dX9_comes_10 : decode cX9_comes 10 = .ok (.lookupswitch 52 #[(98, 40), (114, 46), (119, 34)], 34) := by decide +kernel
theorem dX9_comes_44 : decode cX9_comes 44 = .ok (.aload_n 0, 1) := by decide +kernel
theorem dX9_comes_45 : decode cX9_comes 45 = .ok (.iload_n 2, 1) := by decide +kernel
theorem dX9_comes_46 : decode cX9_comes 46 = .ok (.invokevirtual 105, 3) := by decide +kernel
theorem dX9_comes_49 : decode cX9_comes 49 = .ok (.ireturn, 1) := by decide +kernel
theorem dX9_comes_50 : decode cX9_comes 50 = .ok (.aload_n 0, 1) := by decide +kernel
theorem dX9_comes_51 : decode cX9_comes 51 = .ok (.iload_n 2, 1) := by decide +kernel
theorem dX9_comes_52 : decode cX9_comes 52 = .ok (.invokevirtual 108, 3) := by decide +kernel
theorem dX9_comes_55 : decode cX9_comes 55 = .ok (.ireturn, 1) := by decide +kernel
theorem dX9_comes_56 : decode cX9_comes 56 = .ok (.aload_n 0, 1) := by decide +kernel
theorem dX9_comes_57 : decode cX9_comes 57 = .ok (.iload_n 2, 1) := by decide +kernel
theorem dX9_comes_58 : decode cX9_comes 58 = .ok (.invokevirtual 111, 3) := by decide +kernel
theorem dX9_comes_61 : decode cX9_comes 61 = .ok (.ireturn, 1) := by decide +kernel
theorem dX9_comes_62 : decode cX9_comes 62 = .ok (.aload_n 0, 1) := by decide +kernel
theorem dX9_comes_63 : decode cX9_comes 63 = .ok (.getfield 49, 3) := by decide +kernel
theorem dX9_comes_66 : decode cX9_comes 66 = .ok (.iload_n 2, 1) := by decide +kernel
theorem dX9_comes_67 : decode cX9_comes 67 = .ok (.iaload, 1) := by decide +kernel
theorem dX9_comes_68 : decode cX9_comes 68 = .ok (.iconst 2, 1) := by decide +kernel
theorem dX9_comes_69 : decode cX9_comes 69 = .ok (.if_icmp .le 5, 3) := by decide +kernel
theorem dX9_comes_72 : decode cX9_comes 72 = .ok (.iconst 0, 1) := by decide +kernel
theorem dX9_comes_73 : decode cX9_comes 73 = .ok (.ireturn, 1) := by decide +kernel
theorem dX9_comes_74 : decode cX9_comes 74 = .ok (.aload_n 0, 1) := by decide +kernel
theorem dX9_comes_75 : decode cX9_comes 75 = .ok (.getfield 34, 3) := by decide +kernel
theorem dX9_comes_78 : decode cX9_comes 78 = .ok (.aload_n 0, 1) := by decide +kernel
theorem dX9_comes_79 : decode cX9_comes 79 = .ok (.getfield 49, 3) := by decide +kernel
theorem dX9_comes_82 : decode cX9_comes 82 = .ok (.iload_n 2, 1) := by decide +kernel
theorem dX9_comes_83 : decode cX9_comes 83 = .ok (.iaload, 1) := by decide +kernel
theorem dX9_comes_84 : decode cX9_comes 84 = .ok (.aload_n 0, 1) := by decide +kernel
theorem dX9_comes_85 : decode cX9_comes 85 = .ok (.getfield 49, 3) := by decide +kernel
theorem dX9_comes_88 : decode cX9_comes 88 = .ok (.iload_n 2, 1) := by decide +kernel
theorem dX9_comes_89 : decode cX9_comes 89 = .ok (.iconst 1, 1) := by decide +kernel
theorem dX9_comes_90 : decode cX9_comes 90 = .ok (.iadd, 1) := by decide +kernel
theorem dX9_comes_91 : decode cX9_comes 91 = .ok (.iaload, 1) := by decide +kernel
theorem dX9_comes_92 : decode cX9_comes 92 = .ok (.iastore, 1) := by decide +kernel
theorem dX9_comes_93 : decode cX9_comes 93 = .ok (.iconst 1, 1) := by decide +kernel
theorem dX9_comes_94 : decode cX9_comes 94 = .ok (.ireturn, 1) := by decide +kernel
theorem dX9_text_0 : decode cX9_text 0 = .ok (.aload_n 0, 1) := by decide +kernel
theorem dX9_text_1 : decode cX9_text 1 = .ok (.iconst 0, 1) := by decide +kernel
theorem dX9_text_2 : decode cX9_text 2 = .ok (.putfield 77, 3) := by decide +kernel
theorem dX9_text_5 : decode cX9_text 5 = .ok (.aload_n 0, 1) := by decide +kernel
theorem dX9_text_6 : decode cX9_text 6 = .ok (.iconst 0, 1) := by decide +kernel
theorem dX9_text_7 : decode cX9_text 7 = .ok (.putfield 91, 3) := by decide +kernel
theorem dX9_text_10 : decode cX9_text 10 = .ok (.iconst 1, 1) := by decide +kernel
theorem dX9_text_11 : decode cX9_text 11 = .ok (.istore_n 1, 1) := by decide +kernel
theorem dX9_text_12 : decode cX9_text 12 = .ok (.iload_n 1, 1) := by decide +kernel
theorem dX9_text_13 : decode cX9_text 13 = .ok (.ifCond .eq 47, 3) := by decide +kernel
theorem dX9_text_16 : decode cX9_text 16 = .ok (.aload_n 0, 1) := by decide +kernel
theorem dX9_text_17 : decode cX9_text 17 = .ok (.getfield 77, 3) := by decide +kernel
theorem dX9_text_20 : decode cX9_text 20 = .ok (.aload_n 0, 1) := by decide +kernel
theorem dX9_text_21 : decode cX9_text 21 = .ok (.getfield 70, 3) := by decide +kernel
theorem dX9_text_24 : decode cX9_text 24 = .ok (.if_icmp .lt 10, 3) := by decide +kernel
theorem dX9_text_27 : decode cX9_text 27 = .ok (.aload_n 0, 1) := by decide +kernel
theorem dX9_text_28 : decode cX9_text 28 = .ok (.getfield 91, 3) := by decide +kernel
theorem dX9_text_31 : decode cX9_text 31 = .ok (.ifCond .ne 29, 3) := by decide +kernel
theorem dX9_text_34 : decode cX9_text 34 = .ok (.aload_n 0, 1) := by decide +kernel
theorem dX9_text_35 : decode cX9_text 35 = .ok (.invokevirtual 114, 3) := by decide +kernel
theorem dX9_text_38 : decode cX9_text 38 = .ok (.istore_n 1, 1) := by decide +kernel
theorem dX9_text_39 : decode cX9_text 39 = .ok (.aload_n 0, 1) := by decide +kernel
theorem dX9_text_40 : decode cX9_text 40 = .ok (.dup, 1) := by decide +kernel
theorem dX9_text_41 : decode cX9_text 41 = .ok (.getfield 91, 3) := by decide +kernel
theorem dX9_text_44 : decode cX9_text 44 = .ok (.iload_n 1, 1) := by decide +kernel
theorem dX9_text_45 : decode cX9_text 45 = .ok (.ifCond .eq 7, 3) := by decide +kernel
theorem dX9_text_48 : decode cX9_text 48 = .ok (.iconst 1, 1) := by decide +kernel
theorem dX9_text_49 : decode cX9_text 49 = .ok (.goto 4, 3) := by decide +kernel
theorem dX9_text_52 : decode cX9_text 52 = .ok (.iconst 0, 1) := by decide +kernel
theorem dX9_text_53 : decode cX9_text 53 = .ok (.iadd, 1) := by decide +kernel
theorem dX9_text_54 : decode cX9_text 54 = .ok (.putfield 91, 3) := by decide +kernel
theorem dX9_text_57 : decode cX9_text 57 = .ok (.goto (-45), 3) := by decide +kernel
theorem dX9_text_60 : decode cX9_text 60 = .ok (.aload_n 0, 1) := by decide +kernel
theorem dX9_text_61 : decode cX9_text 61 = .ok (.iconst 0, 1) := by decide +kernel
theorem dX9_text_62 : decode cX9_text 62 = .ok (.putfield 70, 3) := by decide +kernel
theorem dX9_text_65 : decode cX9_text 65 = .ok (.iload_n 1, 1) := by decide +kernel
theorem dX9_text_66 : decode cX9_text 66 = .ok (.ifCond .ne 12, 3) := by decide +kernel
theorem dX9_text_69 : decode cX9_text 69 = .ok (.sipush (-1000), 3) := by decide +kernel
theorem dX9_text_72 : decode cX9_text 72 = .ok (.aload_n 0, 1) := by decide +kernel
theorem dX9_text_73 : decode cX9_text 73 = .ok (.getfield 77, 3) := by decide +kernel
theorem dX9_text_76 : decode cX9_text 76 = .ok (.isub, 1) := by decide +kernel
theorem dX9_text_77 : decode cX9_text 77 = .ok (.ireturn, 1) := by decide +kernel
theorem dX9_text_78 : decode cX9_text 78 = .ok (.aload_n 0, 1) := by decide +kernel
theorem dX9_text_79 : decode cX9_text 79 = .ok (.iconst 1, 1) := by decide +kernel
theorem dX9_text_80 : decode cX9_text 80 = .ok (.iconst 1, 1) := by decide +kernel
theorem dX9_text_81 : decode cX9_text 81 = .ok (.invokevirtual 118, 3) := by decide +kernel
theorem dX9_text_84 : decode cX9_text 84 = .ok (.iconst 0, 1) := by decide +kernel
theorem dX9_text_85 : decode cX9_text 85 = .ok (.istore_n 2, 1) := by decide +kernel
theorem dX9_text_86 : decode cX9_text 86 = .ok (.iload_n 2, 1) := by decide +kernel
theorem dX9_text_87 : decode cX9_text 87 = .ok (.aload_n 0, 1) := by decide +kernel
theorem dX9_text_88 : decode cX9_text 88 = .ok (.getfield 91, 3) := by decide +kernel
theorem dX9_text_91 : decode cX9_text 91 = .ok (.if_icmp .ge 37, 3) := by decide +kernel
theorem dX9_text_94 : decode cX9_text 94 = .ok (.aload_n 0, 1) := by decide +kernel
theorem dX9_text_95 : decode cX9_text 95 = .ok (.iload_n 2, 1) := by decide +kernel
theorem dX9_text_96 : decode cX9_text 96 = .ok (.invokevirtual 122, 3) := by decide +kernel
theorem dX9_text_99 : decode cX9_text 99 = .ok (.ifCond .eq 6, 3) := by decide +kernel
theorem dX9_text_102 : decode cX9_text 102 = .ok (.goto 20, 3) := by decide +kernel
theorem dX9_text_105 : decode cX9_text 105 = .ok (.aload_n 0, 1) := by decide +kernel
theorem dX9_text_106 : decode cX9_text 106 = .ok (.iconst 1, 1) := by decide +kernel
theorem dX9_text_107 : decode cX9_text 107 = .ok (.iconst 0, 1) := by decide +kernel
theorem dX9_text_108 : decode cX9_text 108 = .ok (.invokevirtual 118, 3) := by decide +kernel
theorem dX9_text_111 : decode cX9_text 111 = .ok (.sipush (-2000), 3) := by decide +kernel
theorem dX9_text_114 : decode cX9_text 114 = .ok (.aload_n 0, 1) := by decide +kernel
theorem dX9_text_115 : decode cX9_text 115 = .ok (.getfield 46, 3) := by decide +kernel
theorem dX9_text_118 : decode cX9_text 118 = .ok (.iload_n 2, 1) := by decide +kernel
theorem dX9_text_119 : decode cX9_text 119 = .ok (.iaload, 1) := by decide +kernel
theorem dX9_text_120 : decode cX9_text 120 = .ok (.isub, 1) := by decide +kernel
theorem dX9_text_121 : decode cX9_text 121 = .ok (.ireturn, 1) := by decide +kernel
theorem dX9_text_122 : decode cX9_text 122 = .ok (.iinc 2 1, 3) := by decide +kernel
theorem dX9_text_125 : decode cX9_text 125 = .ok (.goto (-39), 3) := by decide +kernel
theorem dX9_text_128 : decode cX9_text 128 = .ok (.aload_n 0, 1) := by decide +kernel
theorem dX9_text_129 : decode cX9_text 129 = .ok (.getfield 91, 3) := by decide +kernel
theorem dX9_text_132 : decode cX9_text 132 = .ok (.ireturn, 1) := by decide +kernel
theorem dX9_passes_0 : decode cX9_passes 0 = .ok (.iconst 0, 1) := by decide +kernel
theorem dX9_passes_1 : decode cX9_passes 1 = .ok (.istore_n 2, 1) := by decide +kernel
theorem dX9_passes_2 : decode cX9_passes 2 = .ok (.iload_n 2, 1) := by decide +kernel
theorem dX9_passes_3 : decode cX9_passes 3 = .ok (.aload_n 1, 1) := by decide +kernel
theorem dX9_passes_4 : decode cX9_passes 4 = .ok (.arraylength, 1) := by decide +kernel
theorem dX9_passes_5 : decode cX9_passes 5 = .ok (.if_icmp .ge 53, 3) := by decide +kernel
theorem dX9_passes_8 : decode cX9_passes 8 = .ok (.aload_n 0, 1) := by decide +kernel
theorem dX9_passes_9 : decode cX9_passes 9 = .ok (.getfield 125, 3) := by decide +kernel
theorem dX9_passes_12 : decode cX9_passes 12 = .ok (.ifCond .eq 18, 3) := by decide +kernel
theorem dX9_passes_15 : decode cX9_passes 15 = .ok (.aload_n 0, 1) := by decide +kernel
theorem dX9_passes_16 : decode cX9_passes 16 = .ok (.getfield 52, 3) := by decide +kernel
theorem dX9_passes_19 : decode cX9_passes 19 = .ok (.aload_n 0, 1) := by decide +kernel
theorem dX9_passes_20 : decode cX9_passes 20 = .ok (.getfield 129, 3) := by decide +kernel
theorem dX9_passes_23 : decode cX9_passes 23 = .ok (.aload_n 1, 1) := by decide +kernel
theorem dX9_passes_24 : decode cX9_passes 24 = .ok (.iload_n 2, 1) := by decide +kernel
theorem dX9_passes_25 : decode cX9_passes 25 = .ok (.iaload, 1) := by decide +kernel
theorem dX9_passes_26 : decode cX9_passes 26 = .ok (.iastore, 1) := by decide +kernel
theorem dX9_passes_27 : decode cX9_passes 27 = .ok (.goto 15, 3) := by decide +kernel
theorem dX9_passes_30 : decode cX9_passes 30 = .ok (.aload_n 1, 1) := by decide +kernel
theorem dX9_passes_31 : decode cX9_passes 31 = .ok (.iload_n 2, 1) := by decide +kernel
theorem dX9_passes_32 : decode cX9_passes 32 = .ok (.aload_n 0, 1) := by decide +kernel
theorem dX9_passes_33 : decode cX9_passes 33 = .ok (.getfield 52, 3) := by decide +kernel
theorem dX9_passes_36 : decode cX9_passes 36 = .ok (.aload_n 0, 1) := by decide +kernel
theorem dX9_passes_37 : decode cX9_passes 37 = .ok (.getfield 129, 3) := by decide +kernel
theorem dX9_passes_40 : decode cX9_passes 40 = .ok (.iaload, 1) := by decide +kernel
theorem dX9_passes_41 : decode cX9_passes 41 = .ok (.iastore, 1) := by decide +kernel
theorem dX9_passes_42 : decode cX9_passes 42 = .ok (.aload_n 0, 1) := by decide +kernel
theorem dX9_passes_43 : decode cX9_passes 43 = .ok (.dup, 1) := by decide +kernel
theorem dX9_passes_44 : decode cX9_passes 44 = .ok (.getfield 129, 3) := by decide +kernel
theorem dX9_passes_47 : decode cX9_passes 47 = .ok (.iconst 1, 1) := by decide +kernel
theorem dX9_passes_48 : decode cX9_passes 48 = .ok (.iadd, 1) := by decide +kernel
theorem dX9_passes_49 : decode cX9_passes 49 = .ok (.putfield 129, 3) := by decide +kernel
theorem dX9_passes_52 : decode cX9_passes 52 = .ok (.iinc 2 1, 3) := by decide +kernel
theorem dX9_passes_55 : decode cX9_passes 55 = .ok (.goto (-53), 3) := by decide +kernel
theorem dX9_passes_58 : decode cX9_passes 58 = .ok (.return_, 1) := by decide +kernel
theorem dX9_passOne_0 : decode cX9_passOne 0 = .ok (.aload_n 0, 1) := by decide +kernel
theorem dX9_passOne_1 : decode cX9_passOne 1 = .ok (.getfield 125, 3) := by decide +kernel
theorem dX9_passOne_4 : decode cX9_passOne 4 = .ok (.ifCond .eq 7, 3) := by decide +kernel
theorem dX9_passOne_7 : decode cX9_passOne 7 = .ok (.iload_n 1, 1) := by decide +kernel
theorem dX9_passOne_8 : decode cX9_passOne 8 = .ok (.goto 12, 3) := by decide +kernel
theorem dX9_passOne_11 : decode cX9_passOne 11 = .ok (.aload_n 0, 1) := by decide +kernel
theorem dX9_passOne_12 : decode cX9_passOne 12 = .ok (.getfield 52, 3) := by decide +kernel
theorem dX9_passOne_15 : decode cX9_passOne 15 = .ok (.aload_n 0, 1) := by decide +kernel
theorem dX9_passOne_16 : decode cX9_passOne 16 = .ok (.getfield 129, 3) := by decide +kernel
theorem dX9_passOne_19 : decode cX9_passOne 19 = .ok (.iaload, 1) := by decide +kernel
theorem dX9_passOne_20 : decode cX9_passOne 20 = .ok (.istore_n 2, 1) := by decide +kernel
theorem dX9_passOne_21 : decode cX9_passOne 21 = .ok (.aload_n 0, 1) := by decide +kernel
theorem dX9_passOne_22 : decode cX9_passOne 22 = .ok (.getfield 125, 3) := by decide +kernel
theorem dX9_passOne_25 : decode cX9_passOne 25 = .ok (.ifCond .eq 13, 3) := by decide +kernel
theorem dX9_passOne_28 : decode cX9_passOne 28 = .ok (.aload_n 0, 1) := by decide +kernel
theorem dX9_passOne_29 : decode cX9_passOne 29 = .ok (.getfield 52, 3) := by decide +kernel
theorem dX9_passOne_32 : decode cX9_passOne 32 = .ok (.aload_n 0, 1) := by decide +kernel
theorem dX9_passOne_33 : decode cX9_passOne 33 = .ok (.getfield 129, 3) := by decide +kernel
theorem dX9_passOne_36 : decode cX9_passOne 36 = .ok (.iload_n 1, 1) := by decide +kernel
theorem dX9_passOne_37 : decode cX9_passOne 37 = .ok (.iastore, 1) := by decide +kernel
theorem dX9_passOne_38 : decode cX9_passOne 38 = .ok (.aload_n 0, 1) := by decide +kernel
theorem dX9_passOne_39 : decode cX9_passOne 39 = .ok (.dup, 1) := by decide +kernel
theorem dX9_passOne_40 : decode cX9_passOne 40 = .ok (.getfield 129, 3) := by decide +kernel
theorem dX9_passOne_43 : decode cX9_passOne 43 = .ok (.iconst 1, 1) := by decide +kernel
theorem dX9_passOne_44 : decode cX9_passOne 44 = .ok (.iadd, 1) := by decide +kernel
theorem dX9_passOne_45 : decode cX9_passOne 45 = .ok (.putfield 129, 3) := by decide +kernel
theorem dX9_passOne_48 : decode cX9_passOne 48 = .ok (.iload_n 2, 1) := by decide +kernel
theorem dX9_passOne_49 : decode cX9_passOne 49 = .ok (.ireturn, 1) := by decide +kernel
theorem dX9_passesAll_0 : decode cX9_passesAll 0 = .ok (.aload_n 0, 1) := by decide +kernel
theorem dX9_passesAll_1 : decode cX9_passesAll 1 = .ok (.bipush 80, 2) := by decide +kernel
theorem dX9_passesAll_3 : decode cX9_passesAll 3 = .ok (.iload_n 1, 1) := by decide +kernel
theorem dX9_passesAll_4 : decode cX9_passesAll 4 = .ok (.imul, 1) := by decide +kernel
theorem dX9_passesAll_5 : decode cX9_passesAll 5 = .ok (.putfield 129, 3) := by decide +kernel
theorem dX9_passesAll_8 : decode cX9_passesAll 8 = .ok (.aload_n 0, 1) := by decide +kernel
theorem dX9_passesAll_9 : decode cX9_passesAll 9 = .ok (.iload_n 2, 1) := by decide +kernel
theorem dX9_passesAll_10 : decode cX9_passesAll 10 = .ok (.putfield 125, 3) := by decide +kernel
theorem dX9_passesAll_13 : decode cX9_passesAll 13 = .ok (.aload_n 0, 1) := by decide +kernel
theorem dX9_passesAll_14 : decode cX9_passesAll 14 = .ok (.aload_n 0, 1) := by decide +kernel
theorem dX9_passesAll_15 : decode cX9_passesAll 15 = .ok (.getfield 13, 3) := by decide +kernel
theorem dX9_passesAll_18 : decode cX9_passesAll 18 = .ok (.invokevirtual 132, 3) := by decide +kernel
theorem dX9_passesAll_21 : decode cX9_passesAll 21 = .ok (.aload_n 0, 1) := by decide +kernel
theorem dX9_passesAll_22 : decode cX9_passesAll 22 = .ok (.aload_n 0, 1) := by decide +kernel
theorem dX9_passesAll_23 : decode cX9_passesAll 23 = .ok (.getfield 16, 3) := by decide +kernel
theorem dX9_passesAll_26 : decode cX9_passesAll 26 = .ok (.invokevirtual 132, 3) := by decide +kernel
theorem dX9_passesAll_29 : decode cX9_passesAll 29 = .ok (.aload_n 0, 1) := by decide +kernel
theorem dX9_passesAll_30 : decode cX9_passesAll 30 = .ok (.aload_n 0, 1) := by decide +kernel
theorem dX9_passesAll_31 : decode cX9_passesAll 31 = .ok (.getfield 19, 3) := by decide +kernel
theorem dX9_passesAll_34 : decode cX9_passesAll 34 = .ok (.invokevirtual 132, 3) := by decide +kernel
theorem dX9_passesAll_37 : decode cX9_passesAll 37 = .ok (.aload_n 0, 1) := by decide +kernel
theorem dX9_passesAll_38 : decode cX9_passesAll 38 = .ok (.aload_n 0, 1) := by decide +kernel
theorem dX9_passesAll_39 : decode cX9_passesAll 39 = .ok (.getfield 22, 3) := by decide +kernel
theorem dX9_passesAll_42 : decode cX9_passesAll 42 = .ok (.invokevirtual 132, 3) := by decide +kernel
theorem dX9_passesAll_45 : decode cX9_passesAll 45 = .ok (.aload_n 0, 1) := by decide +kernel
theorem dX9_passesAll_46 : decode cX9_passesAll 46 = .ok (.aload_n 0, 1) := by decide +kernel
theorem dX9_passesAll_47 : decode cX9_passesAll 47 = .ok (.getfield 25, 3) := by decide +kernel
theorem dX9_passesAll_50 : decode cX9_passesAll 50 = .ok (.invokevirtual 132, 3) := by decide +kernel
theorem dX9_passesAll_53 : decode cX9_passesAll 53 = .ok (.aload_n 0, 1) := by decide +kernel
theorem dX9_passesAll_54 : decode cX9_passesAll 54 = .ok (.aload_n 0, 1) := by decide +kernel
theorem dX9_passesAll_55 : decode cX9_passesAll 55 = .ok (.getfield 28, 3) := by decide +kernel
theorem dX9_passesAll_58 : decode cX9_passesAll 58 = .ok (.invokevirtual 132, 3) := by decide +kernel
theorem dX9_passesAll_61 : decode cX9_passesAll 61 = .ok (.aload_n 0, 1) := by decide +kernel
theorem dX9_passesAll_62 : decode cX9_passesAll 62 = .ok (.aload_n 0, 1) := by decide +kernel
theorem dX9_passesAll_63 : decode cX9_passesAll 63 = .ok (.getfield 31, 3) := by decide +kernel
theorem dX9_passesAll_66 : decode cX9_passesAll 66 = .ok (.invokevirtual 132, 3) := by decide +kernel
theorem dX9_passesAll_69 : decode cX9_passesAll 69 = .ok (.aload_n 0, 1) := by decide +kernel
theorem dX9_passesAll_70 : decode cX9_passesAll 70 = .ok (.aload_n 0, 1) := by decide +kernel
theorem dX9_passesAll_71 : decode cX9_passesAll 71 = .ok (.getfield 34, 3) := by decide +kernel
theorem dX9_passesAll_74 : decode cX9_passesAll 74 = .ok (.invokevirtual 132, 3) := by decide +kernel
theorem dX9_passesAll_77 : decode cX9_passesAll 77 = .ok (.aload_n 0, 1) := by decide +kernel
theorem dX9_passesAll_78 : decode cX9_passesAll 78 = .ok (.aload_n 0, 1) := by decide +kernel
theorem dX9_passesAll_79 : decode cX9_passesAll 79 = .ok (.getfield 37, 3) := by decide +kernel
theorem dX9_passesAll_82 : decode cX9_passesAll 82 = .ok (.invokevirtual 132, 3) := by decide +kernel
theorem dX9_passesAll_85 : decode cX9_passesAll 85 = .ok (.aload_n 0, 1) := by decide +kernel
theorem dX9_passesAll_86 : decode cX9_passesAll 86 = .ok (.aload_n 0, 1) := by decide +kernel
theorem dX9_passesAll_87 : decode cX9_passesAll 87 = .ok (.aload_n 0, 1) := by decide +kernel
theorem dX9_passesAll_88 : decode cX9_passesAll 88 = .ok (.getfield 59, 3) := by decide +kernel
theorem dX9_passesAll_91 : decode cX9_passesAll 91 = .ok (.invokevirtual 136, 3) := by decide +kernel
theorem dX9_passesAll_94 : decode cX9_passesAll 94 = .ok (.putfield 59, 3) := by decide +kernel
theorem dX9_passesAll_97 : decode cX9_passesAll 97 = .ok (.aload_n 0, 1) := by decide +kernel
theorem dX9_passesAll_98 : decode cX9_passesAll 98 = .ok (.aload_n 0, 1) := by decide +kernel
theorem dX9_passesAll_99 : decode cX9_passesAll 99 = .ok (.aload_n 0, 1) := by decide +kernel
theorem dX9_passesAll_100 : decode cX9_passesAll 100 = .ok (.getfield 63, 3) := by decide +kernel
theorem dX9_passesAll_103 : decode cX9_passesAll 103 = .ok (.invokevirtual 136, 3) := by decide +kernel
theorem dX9_passesAll_106 : decode cX9_passesAll 106 = .ok (.putfield 63, 3) := by decide +kernel
theorem dX9_passesAll_109 : decode cX9_passesAll 109 = .ok (.aload_n 0, 1) := by decide +kernel
theorem dX9_passesAll_110 : decode cX9_passesAll 110 = .ok (.aload_n 0, 1) := by decide +kernel
theorem dX9_passesAll_111 : decode cX9_passesAll 111 = .ok (.aload_n 0, 1) := by decide +kernel
theorem dX9_passesAll_112 : decode cX9_passesAll 112 = .ok (.getfield 139, 3) := by decide +kernel
theorem dX9_passesAll_115 : decode cX9_passesAll 115 = .ok (.invokevirtual 136, 3) := by decide +kernel
theorem dX9_passesAll_118 : decode cX9_passesAll 118 = .ok (.putfield 139, 3) := by decide +kernel
theorem dX9_passesAll_121 : decode cX9_passesAll 121 = .ok (.aload_n 0, 1) := by decide +kernel
theorem dX9_passesAll_122 : decode cX9_passesAll 122 = .ok (.aload_n 0, 1) := by decide +kernel
theorem dX9_passesAll_123 : decode cX9_passesAll 123 = .ok (.aload_n 0, 1) := by decide +kernel
theorem dX9_passesAll_124 : decode cX9_passesAll 124 = .ok (.getfield 142, 3) := by decide +kernel
theorem dX9_passesAll_127 : decode cX9_passesAll 127 = .ok (.invokevirtual 136, 3) := by decide +kernel
theorem dX9_passesAll_130 : decode cX9_passesAll 130 = .ok (.putfield 142, 3) := by decide +kernel
theorem dX9_passesAll_133 : decode cX9_passesAll 133 = .ok (.return_, 1) := by decide +kernel
theorem dX9_image_0 : decode cX9_image 0 = .ok (.aload_n 0, 1) := by decide +kernel
theorem dX9_image_1 : decode cX9_image 1 = .ok (.iconst 1, 1) := by decide +kernel
theorem dX9_image_2 : decode cX9_image 2 = .ok (.putfield 145, 3) := by decide +kernel
theorem dX9_image_5 : decode cX9_image 5 = .ok (.aload_n 0, 1) := by decide +kernel
theorem dX9_image_6 : decode cX9_image 6 = .ok (.iconst 0, 1) := by decide +kernel
theorem dX9_image_7 : decode cX9_image 7 = .ok (.iconst 1, 1) := by decide +kernel
theorem dX9_image_8 : decode cX9_image 8 = .ok (.invokevirtual 118, 3) := by decide +kernel
theorem dX9_image_11 : decode cX9_image 11 = .ok (.aload_n 0, 1) := by decide +kernel
theorem dX9_image_12 : decode cX9_image 12 = .ok (.getfield 139, 3) := by decide +kernel
theorem dX9_image_15 : decode cX9_image 15 = .ok (.ireturn, 1) := by decide +kernel
theorem dX9_on_0 : decode cX9_on 0 = .ok (.aload_n 0, 1) := by decide +kernel
theorem dX9_on_1 : decode cX9_on 1 = .ok (.getfield 145, 3) := by decide +kernel
theorem dX9_on_4 : decode cX9_on 4 = .ok (.ifCond .ne 10, 3) := by decide +kernel
theorem dX9_on_7 : decode cX9_on 7 = .ok (.aload_n 0, 1) := by decide +kernel
theorem dX9_on_8 : decode cX9_on 8 = .ok (.bipush (-3), 2) := by decide +kernel
theorem dX9_on_10 : decode cX9_on 10 = .ok (.invokevirtual 73, 3) := by decide +kernel
theorem dX9_on_13 : decode cX9_on 13 = .ok (.ireturn, 1) := by decide +kernel
theorem dX9_on_14 : decode cX9_on 14 = .ok (.aload_n 0, 1) := by decide +kernel
theorem dX9_on_15 : decode cX9_on 15 = .ok (.iconst 0, 1) := by decide +kernel
theorem dX9_on_16 : decode cX9_on 16 = .ok (.iconst 0, 1) := by decide +kernel
theorem dX9_on_17 : decode cX9_on 17 = .ok (.invokevirtual 118, 3) := by decide +kernel
theorem dX9_on_20 : decode cX9_on 20 = .ok (.aload_n 0, 1) := by decide +kernel
theorem dX9_on_21 : decode cX9_on 21 = .ok (.getfield 139, 3) := by decide +kernel
theorem dX9_on_24 : decode cX9_on 24 = .ok (.ireturn, 1) := by decide +kernel
theorem dX9_strengthOf_0 : decode cX9_strengthOf 0 = .ok (.aload_n 0, 1) := by decide +kernel
theorem dX9_strengthOf_1 : decode cX9_strengthOf 1 = .ok (.getfield 13, 3) := by decide +kernel
theorem dX9_strengthOf_4 : decode cX9_strengthOf 4 = .ok (.iload_n 1, 1) := by decide +kernel
theorem dX9_strengthOf_5 : decode cX9_strengthOf 5 = .ok (.iaload, 1) := by decide +kernel
theorem dX9_strengthOf_6 : decode cX9_strengthOf 6 = .ok (.aload_n 0, 1) := by decide +kernel
theorem dX9_strengthOf_7 : decode cX9_strengthOf 7 = .ok (.getfield 34, 3) := by decide +kernel
theorem dX9_strengthOf_10 : decode cX9_strengthOf 10 = .ok (.aload_n 0, 1) := by decide +kernel
theorem dX9_strengthOf_11 : decode cX9_strengthOf 11 = .ok (.getfield 16, 3) := by decide +kernel
theorem dX9_strengthOf_14 : decode cX9_strengthOf 14 = .ok (.iload_n 1, 1) := by decide +kernel
theorem dX9_strengthOf_15 : decode cX9_strengthOf 15 = .ok (.iaload, 1) := by decide +kernel
theorem dX9_strengthOf_16 : decode cX9_strengthOf 16 = .ok (.iaload, 1) := by decide +kernel
theorem dX9_strengthOf_17 : decode cX9_strengthOf 17 = .ok (.if_icmp .le 24, 3) := by decide +kernel
theorem dX9_strengthOf_20 : decode cX9_strengthOf 20 = .ok (.aload_n 0, 1) := by decide +kernel
theorem dX9_strengthOf_21 : decode cX9_strengthOf 21 = .ok (.getfield 13, 3) := by decide +kernel
theorem dX9_strengthOf_24 : decode cX9_strengthOf 24 = .ok (.iload_n 1, 1) := by decide +kernel
theorem dX9_strengthOf_25 : decode cX9_strengthOf 25 = .ok (.iaload, 1) := by decide +kernel
theorem dX9_strengthOf_26 : decode cX9_strengthOf 26 = .ok (.aload_n 0, 1) := by decide +kernel
theorem dX9_strengthOf_27 : decode cX9_strengthOf 27 = .ok (.getfield 34, 3) := by decide +kernel
theorem dX9_strengthOf_30 : decode cX9_strengthOf 30 = .ok (.aload_n 0, 1) := by decide +kernel
theorem dX9_strengthOf_31 : decode cX9_strengthOf 31 = .ok (.getfield 16, 3) := by decide +kernel
theorem dX9_strengthOf_34 : decode cX9_strengthOf 34 = .ok (.iload_n 1, 1) := by decide +kernel
theorem dX9_strengthOf_35 : decode cX9_strengthOf 35 = .ok (.iaload, 1) := by decide +kernel
theorem dX9_strengthOf_36 : decode cX9_strengthOf 36 = .ok (.iaload, 1) := by decide +kernel
theorem dX9_strengthOf_37 : decode cX9_strengthOf 37 = .ok (.isub, 1) := by decide +kernel
theorem dX9_strengthOf_38 : decode cX9_strengthOf 38 = .ok (.goto 4, 3) := by decide +kernel
theorem dX9_strengthOf_41 : decode cX9_strengthOf 41 = .ok (.iconst 0, 1) := by decide +kernel
theorem dX9_strengthOf_42 : decode cX9_strengthOf 42 = .ok (.ireturn, 1) := by decide +kernel
theorem dX9_isGone_0 : decode cX9_isGone 0 = .ok (.aload_n 0, 1) := by decide +kernel
theorem dX9_isGone_1 : decode cX9_isGone 1 = .ok (.getfield 142, 3) := by decide +kernel
theorem dX9_isGone_4 : decode cX9_isGone 4 = .ok (.iload_n 1, 1) := by decide +kernel
theorem dX9_isGone_5 : decode cX9_isGone 5 = .ok (.ishr, 1) := by decide +kernel
theorem dX9_isGone_6 : decode cX9_isGone 6 = .ok (.iconst 1, 1) := by decide +kernel
theorem dX9_isGone_7 : decode cX9_isGone 7 = .ok (.iand, 1) := by decide +kernel
theorem dX9_isGone_8 : decode cX9_isGone 8 = .ok (.iconst 1, 1) := by decide +kernel
theorem dX9_isGone_9 : decode cX9_isGone 9 = .ok (.if_icmp .ne 7, 3) := by decide +kernel
theorem dX9_isGone_12 : decode cX9_isGone 12 = .ok (.iconst 1, 1) := by decide +kernel
theorem dX9_isGone_13 : decode cX9_isGone 13 = .ok (.goto 4, 3) := by decide +kernel
theorem dX9_isGone_16 : decode cX9_isGone 16 = .ok (.iconst 0, 1) := by decide +kernel
theorem dX9_isGone_17 : decode cX9_isGone 17 = .ok (.ireturn, 1) := by decide +kernel
theorem dX9_mayEat_0 : decode cX9_mayEat 0 = .ok (.aload_n 0, 1) := by decide +kernel
theorem dX9_mayEat_1 : decode cX9_mayEat 1 = .ok (.iload_n 2, 1) := by decide +kernel
theorem dX9_mayEat_2 : decode cX9_mayEat 2 = .ok (.invokevirtual 148, 3) := by decide +kernel
theorem dX9_mayEat_5 : decode cX9_mayEat 5 = .ok (.ifCond .ne 34, 3) := by decide +kernel
theorem dX9_mayEat_8 : decode cX9_mayEat 8 = .ok (.aload_n 0, 1) := by decide +kernel
theorem dX9_mayEat_9 : decode cX9_mayEat 9 = .ok (.getfield 37, 3) := by decide +kernel
theorem dX9_mayEat_12 : decode cX9_mayEat 12 = .ok (.aload_n 0, 1) := by decide +kernel
theorem dX9_mayEat_13 : decode cX9_mayEat 13 = .ok (.getfield 139, 3) := by decide +kernel
theorem dX9_mayEat_16 : decode cX9_mayEat 16 = .ok (.iaload, 1) := by decide +kernel
theorem dX9_mayEat_17 : decode cX9_mayEat 17 = .ok (.iload_n 2, 1) := by decide +kernel
theorem dX9_mayEat_18 : decode cX9_mayEat 18 = .ok (.ishr, 1) := by decide +kernel
theorem dX9_mayEat_19 : decode cX9_mayEat 19 = .ok (.iconst 1, 1) := by decide +kernel
theorem dX9_mayEat_20 : decode cX9_mayEat 20 = .ok (.iand, 1) := by decide +kernel
theorem dX9_mayEat_21 : decode cX9_mayEat 21 = .ok (.iconst 1, 1) := by decide +kernel
theorem dX9_mayEat_22 : decode cX9_mayEat 22 = .ok (.if_icmp .eq 17, 3) := by decide +kernel
theorem dX9_mayEat_25 : decode cX9_mayEat 25 = .ok (.aload_n 0, 1) := by decide +kernel
theorem dX9_mayEat_26 : decode cX9_mayEat 26 = .ok (.iload_n 2, 1) := by decide +kernel
theorem dX9_mayEat_27 : decode cX9_mayEat 27 = .ok (.invokevirtual 151, 3) := by decide +kernel
theorem dX9_mayEat_30 : decode cX9_mayEat 30 = .ok (.aload_n 0, 1) := by decide +kernel
theorem dX9_mayEat_31 : decode cX9_mayEat 31 = .ok (.getfield 25, 3) := by decide +kernel
theorem dX9_mayEat_34 : decode cX9_mayEat 34 = .ok (.iload_n 1, 1) := by decide +kernel
theorem dX9_mayEat_35 : decode cX9_mayEat 35 = .ok (.iaload, 1) := by decide +kernel
theorem dX9_mayEat_36 : decode cX9_mayEat 36 = .ok (.if_icmp .ge 5, 3) := by decide +kernel
theorem dX9_mayEat_39 : decode cX9_mayEat 39 = .ok (.iconst 0, 1) := by decide +kernel
theorem dX9_mayEat_40 : decode cX9_mayEat 40 = .ok (.ireturn, 1) := by decide +kernel
theorem dX9_mayEat_41 : decode cX9_mayEat 41 = .ok (.aload_n 0, 1) := by decide +kernel
theorem dX9_mayEat_42 : decode cX9_mayEat 42 = .ok (.getfield 22, 3) := by decide +kernel
theorem dX9_mayEat_45 : decode cX9_mayEat 45 = .ok (.iload_n 1, 1) := by decide +kernel
theorem dX9_mayEat_46 : decode cX9_mayEat 46 = .ok (.iaload, 1) := by decide +kernel
theorem dX9_mayEat_47 : decode cX9_mayEat 47 = .ok (.iconst 5, 1) := by decide +kernel
theorem dX9_mayEat_48 : decode cX9_mayEat 48 = .ok (.if_icmp .ne 17, 3) := by decide +kernel
theorem dX9_mayEat_51 : decode cX9_mayEat 51 = .ok (.iload_n 2, 1) := by decide +kernel
theorem dX9_mayEat_52 : decode cX9_mayEat 52 = .ok (.ifCond .eq 13, 3) := by decide +kernel
theorem dX9_mayEat_55 : decode cX9_mayEat 55 = .ok (.aload_n 0, 1) := by decide +kernel
theorem dX9_mayEat_56 : decode cX9_mayEat 56 = .ok (.iload_n 2, 1) := by decide +kernel
theorem dX9_mayEat_57 : decode cX9_mayEat 57 = .ok (.iconst 1, 1) := by decide +kernel
theorem dX9_mayEat_58 : decode cX9_mayEat 58 = .ok (.isub, 1) := by decide +kernel
theorem dX9_mayEat_59 : decode cX9_mayEat 59 = .ok (.invokevirtual 148, 3) := by decide +kernel
theorem dX9_mayEat_62 : decode cX9_mayEat 62 = .ok (.ifCond .eq 7, 3) := by decide +kernel
theorem dX9_mayEat_65 : decode cX9_mayEat 65 = .ok (.iconst 1, 1) := by decide +kernel
theorem dX9_mayEat_66 : decode cX9_mayEat 66 = .ok (.goto 4, 3) := by decide +kernel
theorem dX9_mayEat_69 : decode cX9_mayEat 69 = .ok (.iconst 0, 1) := by decide +kernel
theorem dX9_mayEat_70 : decode cX9_mayEat 70 = .ok (.ireturn, 1) := by decide +kernel
theorem dX9_isRather_0 : decode cX9_isRather 0 = .ok (.aload_n 0, 1) := by decide +kernel
theorem dX9_isRather_1 : decode cX9_isRather 1 = .ok (.getfield 22, 3) := by decide +kernel
theorem dX9_isRather_4 : decode cX9_isRather 4 = .ok (.iload_n 1, 1) := by decide +kernel
theorem dX9_isRather_5 : decode cX9_isRather 5 = .ok (.iaload, 1) := by decide +kernel
theorem dX9_isRather_6 : decode cX9_isRather 6 = .ok (.tableswitch 57 1 5 #[34, 38, 36, 57, 38], 34) := by decide +kernel
theorem dX9_isRather_40 : decode cX9_isRather 40 = .ok (.iconst 0, 1) := by decide +kernel
theorem dX9_isRather_41 : decode cX9_isRather 41 = .ok (.ireturn, 1) := by decide +kernel
theorem dX9_isRather_42 : decode cX9_isRather 42 = .ok (.iconst 1, 1) := by decide +kernel
theorem dX9_isRather_43 : decode cX9_isRather 43 = .ok (.ireturn, 1) := by decide +kernel
theorem dX9_isRather_44 : decode cX9_isRather 44 = .ok (.aload_n 0, 1) := by decide +kernel
theorem dX9_isRather_45 : decode cX9_isRather 45 = .ok (.iload_n 2, 1) := by decide +kernel
theorem dX9_isRather_46 : decode cX9_isRather 46 = .ok (.invokevirtual 151, 3) := by decide +kernel
theorem dX9_isRather_49 : decode cX9_isRather 49 = .ok (.aload_n 0, 1) := by decide +kernel
theorem dX9_isRather_50 : decode cX9_isRather 50 = .ok (.iload_n 3, 1) := by decide +kernel
theorem dX9_isRather_51 : decode cX9_isRather 51 = .ok (.invokevirtual 151, 3) := by decide +kernel
theorem dX9_isRather_54 : decode cX9_isRather 54 = .ok (.if_icmp .ge 7, 3) := by decide +kernel
theorem dX9_isRather_57 : decode cX9_isRather 57 = .ok (.iconst 1, 1) := by decide +kernel
theorem dX9_isRather_58 : decode cX9_isRather 58 = .ok (.goto 4, 3) := by decide +kernel
theorem dX9_isRather_61 : decode cX9_isRather 61 = .ok (.iconst 0, 1) := by decide +kernel
theorem dX9_isRather_62 : decode cX9_isRather 62 = .ok (.ireturn, 1) := by decide +kernel
theorem dX9_isRather_63 : decode cX9_isRather 63 = .ok (.aload_n 0, 1) := by decide +kernel
theorem dX9_isRather_64 : decode cX9_isRather 64 = .ok (.iload_n 2, 1) := by decide +kernel
theorem dX9_isRather_65 : decode cX9_isRather 65 = .ok (.invokevirtual 151, 3) := by decide +kernel
theorem dX9_isRather_68 : decode cX9_isRather 68 = .ok (.aload_n 0, 1) := by decide +kernel
theorem dX9_isRather_69 : decode cX9_isRather 69 = .ok (.iload_n 3, 1) := by decide +kernel
theorem dX9_isRather_70 : decode cX9_isRather 70 = .ok (.invokevirtual 151, 3) := by decide +kernel
theorem dX9_isRather_73 : decode cX9_isRather 73 = .ok (.if_icmp .le 7, 3) := by decide +kernel
theorem dX9_isRather_76 : decode cX9_isRather 76 = .ok (.iconst 1, 1) := by decide +kernel
theorem dX9_isRather_77 : decode cX9_isRather 77 = .ok (.goto 4, 3) := by decide +kernel
theorem dX9_isRather_80 : decode cX9_isRather 80 = .ok (.iconst 0, 1) := by decide +kernel
theorem dX9_isRather_81 : decode cX9_isRather 81 = .ok (.ireturn, 1) := by decide +kernel
theorem dX9_eatsBy_0 : decode cX9_eatsBy 0 = .ok (.bipush (-9), 2) := by decide +kernel
theorem dX9_eatsBy_2 : decode cX9_eatsBy 2 = .ok (.istore_n 2, 1) := by decide +kernel
theorem dX9_eatsBy_3 : decode cX9_eatsBy 3 = .ok (.iconst 0, 1) := by decide +kernel
theorem dX9_eatsBy_4 : decode cX9_eatsBy 4 = .ok (.istore_n 3, 1) := by decide +kernel
theorem dX9_eatsBy_5 : decode cX9_eatsBy 5 = .ok (.iload_n 3, 1) := by decide +kernel
theorem dX9_eatsBy_6 : decode cX9_eatsBy 6 = .ok (.aload_n 0, 1) := by decide +kernel
theorem dX9_eatsBy_7 : decode cX9_eatsBy 7 = .ok (.getfield 59, 3) := by decide +kernel
theorem dX9_eatsBy_10 : decode cX9_eatsBy 10 = .ok (.if_icmp .ge 34, 3) := by decide +kernel
theorem dX9_eatsBy_13 : decode cX9_eatsBy 13 = .ok (.aload_n 0, 1) := by decide +kernel
theorem dX9_eatsBy_14 : decode cX9_eatsBy 14 = .ok (.iload_n 1, 1) := by decide +kernel
theorem dX9_eatsBy_15 : decode cX9_eatsBy 15 = .ok (.iload_n 3, 1) := by decide +kernel
theorem dX9_eatsBy_16 : decode cX9_eatsBy 16 = .ok (.invokevirtual 154, 3) := by decide +kernel
theorem dX9_eatsBy_19 : decode cX9_eatsBy 19 = .ok (.ifCond .eq 19, 3) := by decide +kernel
theorem dX9_eatsBy_22 : decode cX9_eatsBy 22 = .ok (.iload_n 2, 1) := by decide +kernel
theorem dX9_eatsBy_23 : decode cX9_eatsBy 23 = .ok (.ifCond .lt 13, 3) := by decide +kernel
theorem dX9_eatsBy_26 : decode cX9_eatsBy 26 = .ok (.aload_n 0, 1) := by decide +kernel
theorem dX9_eatsBy_27 : decode cX9_eatsBy 27 = .ok (.iload_n 1, 1) := by decide +kernel
theorem dX9_eatsBy_28 : decode cX9_eatsBy 28 = .ok (.iload_n 3, 1) := by decide +kernel
theorem dX9_eatsBy_29 : decode cX9_eatsBy 29 = .ok (.iload_n 2, 1) := by decide +kernel
theorem dX9_eatsBy_30 : decode cX9_eatsBy 30 = .ok (.invokevirtual 157, 3) := by decide +kernel
theorem dX9_eatsBy_33 : decode cX9_eatsBy 33 = .ok (.ifCond .eq 5, 3) := by decide +kernel
theorem dX9_eatsBy_36 : decode cX9_eatsBy 36 = .ok (.iload_n 3, 1) := by decide +kernel
theorem dX9_eatsBy_37 : decode cX9_eatsBy 37 = .ok (.istore_n 2, 1) := by decide +kernel
theorem dX9_eatsBy_38 : decode cX9_eatsBy 38 = .ok (.iinc 3 1, 3) := by decide +kernel
theorem dX9_eatsBy_41 : decode cX9_eatsBy 41 = .ok (.goto (-36), 3) := by decide +kernel
theorem dX9_eatsBy_44 : decode cX9_eatsBy 44 = .ok (.iload_n 2, 1) := by decide +kernel
theorem dX9_eatsBy_45 : decode cX9_eatsBy 45 = .ok (.ireturn, 1) := by decide +kernel
theorem dX9_eats_0 : decode cX9_eats 0 = .ok (.aload_n 0, 1) := by decide +kernel
theorem dX9_eats_1 : decode cX9_eats 1 = .ok (.iload_n 1, 1) := by decide +kernel
theorem dX9_eats_2 : decode cX9_eats 2 = .ok (.invokevirtual 160, 3) := by decide +kernel
theorem dX9_eats_5 : decode cX9_eats 5 = .ok (.istore_n 2, 1) := by decide +kernel
theorem dX9_eats_6 : decode cX9_eats 6 = .ok (.iload_n 2, 1) := by decide +kernel
theorem dX9_eats_7 : decode cX9_eats 7 = .ok (.ifCond .ge 5, 3) := by decide +kernel
theorem dX9_eats_10 : decode cX9_eats 10 = .ok (.iconst 0, 1) := by decide +kernel
theorem dX9_eats_11 : decode cX9_eats 11 = .ok (.ireturn, 1) := by decide +kernel
theorem dX9_eats_12 : decode cX9_eats 12 = .ok (.aload_n 0, 1) := by decide +kernel
theorem dX9_eats_13 : decode cX9_eats 13 = .ok (.dup, 1) := by decide +kernel
theorem dX9_eats_14 : decode cX9_eats 14 = .ok (.getfield 142, 3) := by decide +kernel
theorem dX9_eats_17 : decode cX9_eats 17 = .ok (.iconst 1, 1) := by decide +kernel
theorem dX9_eats_18 : decode cX9_eats 18 = .ok (.iload_n 2, 1) := by decide +kernel
theorem dX9_eats_19 : decode cX9_eats 19 = .ok (.ishl, 1) := by decide +kernel
theorem dX9_eats_20 : decode cX9_eats 20 = .ok (.ior, 1) := by decide +kernel
theorem dX9_eats_21 : decode cX9_eats 21 = .ok (.putfield 142, 3) := by decide +kernel
theorem dX9_eats_24 : decode cX9_eats 24 = .ok (.iconst 1, 1) := by decide +kernel
theorem dX9_eats_25 : decode cX9_eats 25 = .ok (.ireturn, 1) := by decide +kernel
theorem dX9_goesHour_0 : decode cX9_goesHour 0 = .ok (.iconst 0, 1) := by decide +kernel
theorem dX9_goesHour_1 : decode cX9_goesHour 1 = .ok (.istore_n 1, 1) := by decide +kernel
theorem dX9_goesHour_2 : decode cX9_goesHour 2 = .ok (.iconst 0, 1) := by decide +kernel
theorem dX9_goesHour_3 : decode cX9_goesHour 3 = .ok (.istore_n 2, 1) := by decide +kernel
theorem dX9_goesHour_4 : decode cX9_goesHour 4 = .ok (.iload_n 2, 1) := by decide +kernel
theorem dX9_goesHour_5 : decode cX9_goesHour 5 = .ok (.aload_n 0, 1) := by decide +kernel
theorem dX9_goesHour_6 : decode cX9_goesHour 6 = .ok (.getfield 63, 3) := by decide +kernel
theorem dX9_goesHour_9 : decode cX9_goesHour 9 = .ok (.if_icmp .ge 60, 3) := by decide +kernel
theorem dX9_goesHour_12 : decode cX9_goesHour 12 = .ok (.aload_n 0, 1) := by decide +kernel
theorem dX9_goesHour_13 : decode cX9_goesHour 13 = .ok (.getfield 139, 3) := by decide +kernel
theorem dX9_goesHour_16 : decode cX9_goesHour 16 = .ok (.aload_n 0, 1) := by decide +kernel
theorem dX9_goesHour_17 : decode cX9_goesHour 17 = .ok (.getfield 28, 3) := by decide +kernel
theorem dX9_goesHour_20 : decode cX9_goesHour 20 = .ok (.iload_n 2, 1) := by decide +kernel
theorem dX9_goesHour_21 : decode cX9_goesHour 21 = .ok (.iaload, 1) := by decide +kernel
theorem dX9_goesHour_22 : decode cX9_goesHour 22 = .ok (.aload_n 0, 1) := by decide +kernel
theorem dX9_goesHour_23 : decode cX9_goesHour 23 = .ok (.getfield 31, 3) := by decide +kernel
theorem dX9_goesHour_26 : decode cX9_goesHour 26 = .ok (.iload_n 2, 1) := by decide +kernel
theorem dX9_goesHour_27 : decode cX9_goesHour 27 = .ok (.iaload, 1) := by decide +kernel
theorem dX9_goesHour_28 : decode cX9_goesHour 28 = .ok (.invokestatic 87, 3) := by decide +kernel
theorem dX9_goesHour_31 : decode cX9_goesHour 31 = .ok (.ifCond .ne 6, 3) := by decide +kernel
theorem dX9_goesHour_34 : decode cX9_goesHour 34 = .ok (.goto 29, 3) := by decide +kernel
theorem dX9_goesHour_37 : decode cX9_goesHour 37 = .ok (.iload_n 1, 1) := by decide +kernel
theorem dX9_goesHour_38 : decode cX9_goesHour 38 = .ok (.aload_n 0, 1) := by decide +kernel
theorem dX9_goesHour_39 : decode cX9_goesHour 39 = .ok (.iload_n 2, 1) := by decide +kernel
theorem dX9_goesHour_40 : decode cX9_goesHour 40 = .ok (.invokevirtual 163, 3) := by decide +kernel
theorem dX9_goesHour_43 : decode cX9_goesHour 43 = .ok (.iadd, 1) := by decide +kernel
theorem dX9_goesHour_44 : decode cX9_goesHour 44 = .ok (.istore_n 1, 1) := by decide +kernel
theorem dX9_goesHour_45 : decode cX9_goesHour 45 = .ok (.aload_n 0, 1) := by decide +kernel
theorem dX9_goesHour_46 : decode cX9_goesHour 46 = .ok (.getfield 22, 3) := by decide +kernel
theorem dX9_goesHour_49 : decode cX9_goesHour 49 = .ok (.iload_n 2, 1) := by decide +kernel
theorem dX9_goesHour_50 : decode cX9_goesHour 50 = .ok (.iaload, 1) := by decide +kernel
theorem dX9_goesHour_51 : decode cX9_goesHour 51 = .ok (.iconst 4, 1) := by decide +kernel
theorem dX9_goesHour_52 : decode cX9_goesHour 52 = .ok (.if_icmp .ne 11, 3) := by decide +kernel
theorem dX9_goesHour_55 : decode cX9_goesHour 55 = .ok (.iload_n 1, 1) := by decide +kernel
theorem dX9_goesHour_56 : decode cX9_goesHour 56 = .ok (.aload_n 0, 1) := by decide +kernel
theorem dX9_goesHour_57 : decode cX9_goesHour 57 = .ok (.iload_n 2, 1) := by decide +kernel
theorem dX9_goesHour_58 : decode cX9_goesHour 58 = .ok (.invokevirtual 163, 3) := by decide +kernel
theorem dX9_goesHour_61 : decode cX9_goesHour 61 = .ok (.iadd, 1) := by decide +kernel
theorem dX9_goesHour_62 : decode cX9_goesHour 62 = .ok (.istore_n 1, 1) := by decide +kernel
theorem dX9_goesHour_63 : decode cX9_goesHour 63 = .ok (.iinc 2 1, 3) := by decide +kernel
theorem dX9_goesHour_66 : decode cX9_goesHour 66 = .ok (.goto (-62), 3) := by decide +kernel
theorem dX9_goesHour_69 : decode cX9_goesHour 69 = .ok (.aload_n 0, 1) := by decide +kernel
theorem dX9_goesHour_70 : decode cX9_goesHour 70 = .ok (.dup, 1) := by decide +kernel
theorem dX9_goesHour_71 : decode cX9_goesHour 71 = .ok (.getfield 139, 3) := by decide +kernel
theorem dX9_goesHour_74 : decode cX9_goesHour 74 = .ok (.iconst 1, 1) := by decide +kernel
theorem dX9_goesHour_75 : decode cX9_goesHour 75 = .ok (.iadd, 1) := by decide +kernel
theorem dX9_goesHour_76 : decode cX9_goesHour 76 = .ok (.putfield 139, 3) := by decide +kernel
theorem dX9_goesHour_79 : decode cX9_goesHour 79 = .ok (.iload_n 1, 1) := by decide +kernel
theorem dX9_goesHour_80 : decode cX9_goesHour 80 = .ok (.ireturn, 1) := by decide +kernel
theorem dX9_leftNow_0 : decode cX9_leftNow 0 = .ok (.iconst 1, 1) := by decide +kernel
theorem dX9_leftNow_1 : decode cX9_leftNow 1 = .ok (.aload_n 0, 1) := by decide +kernel
theorem dX9_leftNow_2 : decode cX9_leftNow 2 = .ok (.getfield 59, 3) := by decide +kernel
theorem dX9_leftNow_5 : decode cX9_leftNow 5 = .ok (.ishl, 1) := by decide +kernel
theorem dX9_leftNow_6 : decode cX9_leftNow 6 = .ok (.iconst 1, 1) := by decide +kernel
theorem dX9_leftNow_7 : decode cX9_leftNow 7 = .ok (.isub, 1) := by decide +kernel
theorem dX9_leftNow_8 : decode cX9_leftNow 8 = .ok (.aload_n 0, 1) := by decide +kernel
theorem dX9_leftNow_9 : decode cX9_leftNow 9 = .ok (.getfield 142, 3) := by decide +kernel
theorem dX9_leftNow_12 : decode cX9_leftNow 12 = .ok (.iconst (-1), 1) := by decide +kernel
theorem dX9_leftNow_13 : decode cX9_leftNow 13 = .ok (.ixor, 1) := by decide +kernel
theorem dX9_leftNow_14 : decode cX9_leftNow 14 = .ok (.iand, 1) := by decide +kernel
theorem dX9_leftNow_15 : decode cX9_leftNow 15 = .ok (.ireturn, 1) := by decide +kernel
theorem dX9_bits_0 : decode cX9_bits 0 = .ok (.iconst 0, 1) := by decide +kernel
theorem dX9_bits_1 : decode cX9_bits 1 = .ok (.istore_n 1, 1) := by decide +kernel
theorem dX9_bits_2 : decode cX9_bits 2 = .ok (.iconst 0, 1) := by decide +kernel
theorem dX9_bits_3 : decode cX9_bits 3 = .ok (.istore_n 2, 1) := by decide +kernel
theorem dX9_bits_4 : decode cX9_bits 4 = .ok (.iload_n 2, 1) := by decide +kernel
theorem dX9_bits_5 : decode cX9_bits 5 = .ok (.bipush 31, 2) := by decide +kernel
theorem dX9_bits_7 : decode cX9_bits 7 = .ok (.if_icmp .ge 17, 3) := by decide +kernel
theorem dX9_bits_10 : decode cX9_bits 10 = .ok (.iload_n 1, 1) := by decide +kernel
theorem dX9_bits_11 : decode cX9_bits 11 = .ok (.iload_n 0, 1) := by decide +kernel
theorem dX9_bits_12 : decode cX9_bits 12 = .ok (.iload_n 2, 1) := by decide +kernel
theorem dX9_bits_13 : decode cX9_bits 13 = .ok (.ishr, 1) := by decide +kernel
theorem dX9_bits_14 : decode cX9_bits 14 = .ok (.iconst 1, 1) := by decide +kernel
theorem dX9_bits_15 : decode cX9_bits 15 = .ok (.iand, 1) := by decide +kernel
theorem dX9_bits_16 : decode cX9_bits 16 = .ok (.iadd, 1) := by decide +kernel
theorem dX9_bits_17 : decode cX9_bits 17 = .ok (.istore_n 1, 1) := by decide +kernel
theorem dX9_bits_18 : decode cX9_bits 18 = .ok (.iinc 2 1, 3) := by decide +kernel
theorem dX9_bits_21 : decode cX9_bits 21 = .ok (.goto (-17), 3) := by decide +kernel
theorem dX9_bits_24 : decode cX9_bits 24 = .ok (.iload_n 1, 1) := by decide +kernel
theorem dX9_bits_25 : decode cX9_bits 25 = .ok (.ireturn, 1) := by decide +kernel
theorem dX9_leftAtDusk_0 : decode cX9_leftAtDusk 0 = .ok (.aload_n 0, 1) := by decide +kernel
theorem dX9_leftAtDusk_1 : decode cX9_leftAtDusk 1 = .ok (.getfield 139, 3) := by decide +kernel
theorem dX9_leftAtDusk_4 : decode cX9_leftAtDusk 4 = .ok (.istore_n 1, 1) := by decide +kernel
theorem dX9_leftAtDusk_5 : decode cX9_leftAtDusk 5 = .ok (.aload_n 0, 1) := by decide +kernel
theorem dX9_leftAtDusk_6 : decode cX9_leftAtDusk 6 = .ok (.getfield 142, 3) := by decide +kernel
theorem dX9_leftAtDusk_9 : decode cX9_leftAtDusk 9 = .ok (.istore_n 2, 1) := by decide +kernel
theorem dX9_leftAtDusk_10 : decode cX9_leftAtDusk 10 = .ok (.aload_n 0, 1) := by decide +kernel
theorem dX9_leftAtDusk_11 : decode cX9_leftAtDusk 11 = .ok (.getfield 139, 3) := by decide +kernel
theorem dX9_leftAtDusk_14 : decode cX9_leftAtDusk 14 = .ok (.bipush 8, 2) := by decide +kernel
theorem dX9_leftAtDusk_16 : decode cX9_leftAtDusk 16 = .ok (.if_icmp .ge 11, 3) := by decide +kernel
theorem dX9_leftAtDusk_19 : decode cX9_leftAtDusk 19 = .ok (.aload_n 0, 1) := by decide +kernel
theorem dX9_leftAtDusk_20 : decode cX9_leftAtDusk 20 = .ok (.invokevirtual 166, 3) := by decide +kernel
theorem dX9_leftAtDusk_23 : decode cX9_leftAtDusk 23 = .ok (.pop, 1) := by decide +kernel
theorem dX9_leftAtDusk_24 : decode cX9_leftAtDusk 24 = .ok (.goto (-14), 3) := by decide +kernel
theorem dX9_leftAtDusk_27 : decode cX9_leftAtDusk 27 = .ok (.aload_n 0, 1) := by decide +kernel
theorem dX9_leftAtDusk_28 : decode cX9_leftAtDusk 28 = .ok (.invokevirtual 169, 3) := by decide +kernel
theorem dX9_leftAtDusk_31 : decode cX9_leftAtDusk 31 = .ok (.istore_n 3, 1) := by decide +kernel
theorem dX9_leftAtDusk_32 : decode cX9_leftAtDusk 32 = .ok (.aload_n 0, 1) := by decide +kernel
theorem dX9_leftAtDusk_33 : decode cX9_leftAtDusk 33 = .ok (.iload_n 1, 1) := by decide +kernel
theorem dX9_leftAtDusk_34 : decode cX9_leftAtDusk 34 = .ok (.putfield 139, 3) := by decide +kernel
theorem dX9_leftAtDusk_37 : decode cX9_leftAtDusk 37 = .ok (.aload_n 0, 1) := by decide +kernel
theorem dX9_leftAtDusk_38 : decode cX9_leftAtDusk 38 = .ok (.iload_n 2, 1) := by decide +kernel
theorem dX9_leftAtDusk_39 : decode cX9_leftAtDusk 39 = .ok (.putfield 142, 3) := by decide +kernel
theorem dX9_leftAtDusk_42 : decode cX9_leftAtDusk 42 = .ok (.iload_n 3, 1) := by decide +kernel
theorem dX9_leftAtDusk_43 : decode cX9_leftAtDusk 43 = .ok (.ireturn, 1) := by decide +kernel
theorem dX9_word_0 : decode cX9_word 0 = .ok (.aload_n 0, 1) := by decide +kernel
theorem dX9_word_1 : decode cX9_word 1 = .ok (.iload_n 1, 1) := by decide +kernel
theorem dX9_word_2 : decode cX9_word 2 = .ok (.invokevirtual 102, 3) := by decide +kernel
theorem dX9_word_5 : decode cX9_word 5 = .ok (.ifCond .ne 9, 3) := by decide +kernel
theorem dX9_word_8 : decode cX9_word 8 = .ok (.aload_n 0, 1) := by decide +kernel
theorem dX9_word_9 : decode cX9_word 9 = .ok (.iconst (-1), 1) := by decide +kernel
theorem dX9_word_10 : decode cX9_word 10 = .ok (.invokevirtual 73, 3) := by decide +kernel
theorem dX9_word_13 : decode cX9_word 13 = .ok (.ireturn, 1) := by decide +kernel
theorem dX9_word_14 : decode cX9_word 14 = .ok (.iload_n 2, 1) := by decide +kernel
theorem dX9_word_15 : decode cX9_word 15 = .ok (.tableswitch 100 0 5 #[37, 44, 51, 58, 64, 73], 37) := by decide +kernel
theorem dX9_word_52 : decode cX9_word 52 = .ok (.aload_n 0, 1) := by decide +kernel
theorem dX9_word_53 : decode cX9_word 53 = .ok (.getfield 13, 3) := by decide +kernel
theorem dX9_word_56 : decode cX9_word 56 = .ok (.iload_n 1, 1) := by decide +kernel
theorem dX9_word_57 : decode cX9_word 57 = .ok (.iaload, 1) := by decide +kernel
theorem dX9_word_58 : decode cX9_word 58 = .ok (.ireturn, 1) := by decide +kernel
theorem dX9_word_59 : decode cX9_word 59 = .ok (.aload_n 0, 1) := by decide +kernel
theorem dX9_word_60 : decode cX9_word 60 = .ok (.getfield 16, 3) := by decide +kernel
theorem dX9_word_63 : decode cX9_word 63 = .ok (.iload_n 1, 1) := by decide +kernel
theorem dX9_word_64 : decode cX9_word 64 = .ok (.iaload, 1) := by decide +kernel
theorem dX9_word_65 : decode cX9_word 65 = .ok (.ireturn, 1) := by decide +kernel
theorem dX9_word_66 : decode cX9_word 66 = .ok (.aload_n 0, 1) := by decide +kernel
theorem dX9_word_67 : decode cX9_word 67 = .ok (.getfield 19, 3) := by decide +kernel
theorem dX9_word_70 : decode cX9_word 70 = .ok (.iload_n 1, 1) := by decide +kernel
theorem dX9_word_71 : decode cX9_word 71 = .ok (.iaload, 1) := by decide +kernel
theorem dX9_word_72 : decode cX9_word 72 = .ok (.ireturn, 1) := by decide +kernel
theorem dX9_word_73 : decode cX9_word 73 = .ok (.aload_n 0, 1) := by decide +kernel
theorem dX9_word_74 : decode cX9_word 74 = .ok (.iload_n 1, 1) := by decide +kernel
theorem dX9_word_75 : decode cX9_word 75 = .ok (.invokevirtual 151, 3) := by decide +kernel
theorem dX9_word_78 : decode cX9_word 78 = .ok (.ireturn, 1) := by decide +kernel
theorem dX9_word_79 : decode cX9_word 79 = .ok (.aload_n 0, 1) := by decide +kernel
theorem dX9_word_80 : decode cX9_word 80 = .ok (.getfield 142, 3) := by decide +kernel
theorem dX9_word_83 : decode cX9_word 83 = .ok (.iload_n 1, 1) := by decide +kernel
theorem dX9_word_84 : decode cX9_word 84 = .ok (.ishr, 1) := by decide +kernel
theorem dX9_word_85 : decode cX9_word 85 = .ok (.iconst 1, 1) := by decide +kernel
theorem dX9_word_86 : decode cX9_word 86 = .ok (.iand, 1) := by decide +kernel
theorem dX9_word_87 : decode cX9_word 87 = .ok (.ireturn, 1) := by decide +kernel
theorem dX9_word_88 : decode cX9_word 88 = .ok (.aload_n 0, 1) := by decide +kernel
theorem dX9_word_89 : decode cX9_word 89 = .ok (.getfield 139, 3) := by decide +kernel
theorem dX9_word_92 : decode cX9_word 92 = .ok (.bipush 8, 2) := by decide +kernel
theorem dX9_word_94 : decode cX9_word 94 = .ok (.if_icmp .ne 7, 3) := by decide +kernel
theorem dX9_word_97 : decode cX9_word 97 = .ok (.iconst 0, 1) := by decide +kernel
theorem dX9_word_98 : decode cX9_word 98 = .ok (.goto 16, 3) := by decide +kernel
theorem dX9_word_101 : decode cX9_word 101 = .ok (.aload_n 0, 1) := by decide +kernel
theorem dX9_word_102 : decode cX9_word 102 = .ok (.getfield 37, 3) := by decide +kernel
theorem dX9_word_105 : decode cX9_word 105 = .ok (.aload_n 0, 1) := by decide +kernel
theorem dX9_word_106 : decode cX9_word 106 = .ok (.getfield 139, 3) := by decide +kernel
theorem dX9_word_109 : decode cX9_word 109 = .ok (.iaload, 1) := by decide +kernel
theorem dX9_word_110 : decode cX9_word 110 = .ok (.iload_n 1, 1) := by decide +kernel
theorem dX9_word_111 : decode cX9_word 111 = .ok (.ishr, 1) := by decide +kernel
theorem dX9_word_112 : decode cX9_word 112 = .ok (.iconst 1, 1) := by decide +kernel
theorem dX9_word_113 : decode cX9_word 113 = .ok (.iand, 1) := by decide +kernel
theorem dX9_word_114 : decode cX9_word 114 = .ok (.ireturn, 1) := by decide +kernel
theorem dX9_word_115 : decode cX9_word 115 = .ok (.aload_n 0, 1) := by decide +kernel
theorem dX9_word_116 : decode cX9_word 116 = .ok (.bipush (-2), 2) := by decide +kernel
theorem dX9_word_118 : decode cX9_word 118 = .ok (.invokevirtual 73, 3) := by decide +kernel
theorem dX9_word_121 : decode cX9_word 121 = .ok (.ireturn, 1) := by decide +kernel
theorem dX9_bird_0 : decode cX9_bird 0 = .ok (.aload_n 0, 1) := by decide +kernel
theorem dX9_bird_1 : decode cX9_bird 1 = .ok (.iload_n 1, 1) := by decide +kernel
theorem dX9_bird_2 : decode cX9_bird 2 = .ok (.invokevirtual 172, 3) := by decide +kernel
theorem dX9_bird_5 : decode cX9_bird 5 = .ok (.ifCond .ne 9, 3) := by decide +kernel
theorem dX9_bird_8 : decode cX9_bird 8 = .ok (.aload_n 0, 1) := by decide +kernel
theorem dX9_bird_9 : decode cX9_bird 9 = .ok (.iconst (-1), 1) := by decide +kernel
theorem dX9_bird_10 : decode cX9_bird 10 = .ok (.invokevirtual 73, 3) := by decide +kernel
theorem dX9_bird_13 : decode cX9_bird 13 = .ok (.ireturn, 1) := by decide +kernel
theorem dX9_bird_14 : decode cX9_bird 14 = .ok (.iload_n 2, 1) := by decide +kernel
theorem dX9_bird_15 : decode cX9_bird 15 = .ok (.tableswitch 81 0 4 #[33, 40, 47, 54, 61], 33) := by decide +kernel
theorem dX9_bird_48 : decode cX9_bird 48 = .ok (.aload_n 0, 1) := by decide +kernel
theorem dX9_bird_49 : decode cX9_bird 49 = .ok (.getfield 22, 3) := by decide +kernel
theorem dX9_bird_52 : decode cX9_bird 52 = .ok (.iload_n 1, 1) := by decide +kernel
theorem dX9_bird_53 : decode cX9_bird 53 = .ok (.iaload, 1) := by decide +kernel
theorem dX9_bird_54 : decode cX9_bird 54 = .ok (.ireturn, 1) := by decide +kernel
theorem dX9_bird_55 : decode cX9_bird 55 = .ok (.aload_n 0, 1) := by decide +kernel
theorem dX9_bird_56 : decode cX9_bird 56 = .ok (.getfield 25, 3) := by decide +kernel
theorem dX9_bird_59 : decode cX9_bird 59 = .ok (.iload_n 1, 1) := by decide +kernel
theorem dX9_bird_60 : decode cX9_bird 60 = .ok (.iaload, 1) := by decide +kernel
theorem dX9_bird_61 : decode cX9_bird 61 = .ok (.ireturn, 1) := by decide +kernel
theorem dX9_bird_62 : decode cX9_bird 62 = .ok (.aload_n 0, 1) := by decide +kernel
theorem dX9_bird_63 : decode cX9_bird 63 = .ok (.getfield 28, 3) := by decide +kernel
theorem dX9_bird_66 : decode cX9_bird 66 = .ok (.iload_n 1, 1) := by decide +kernel
theorem dX9_bird_67 : decode cX9_bird 67 = .ok (.iaload, 1) := by decide +kernel
theorem dX9_bird_68 : decode cX9_bird 68 = .ok (.ireturn, 1) := by decide +kernel
theorem dX9_bird_69 : decode cX9_bird 69 = .ok (.aload_n 0, 1) := by decide +kernel
theorem dX9_bird_70 : decode cX9_bird 70 = .ok (.getfield 31, 3) := by decide +kernel
theorem dX9_bird_73 : decode cX9_bird 73 = .ok (.iload_n 1, 1) := by decide +kernel
theorem dX9_bird_74 : decode cX9_bird 74 = .ok (.iaload, 1) := by decide +kernel
theorem dX9_bird_75 : decode cX9_bird 75 = .ok (.ireturn, 1) := by decide +kernel
theorem dX9_bird_76 : decode cX9_bird 76 = .ok (.aload_n 0, 1) := by decide +kernel
theorem dX9_bird_77 : decode cX9_bird 77 = .ok (.getfield 139, 3) := by decide +kernel
theorem dX9_bird_80 : decode cX9_bird 80 = .ok (.bipush 8, 2) := by decide +kernel
theorem dX9_bird_82 : decode cX9_bird 82 = .ok (.if_icmp .ne 8, 3) := by decide +kernel
theorem dX9_bird_85 : decode cX9_bird 85 = .ok (.bipush (-9), 2) := by decide +kernel
theorem dX9_bird_87 : decode cX9_bird 87 = .ok (.goto 8, 3) := by decide +kernel
theorem dX9_bird_90 : decode cX9_bird 90 = .ok (.aload_n 0, 1) := by decide +kernel
theorem dX9_bird_91 : decode cX9_bird 91 = .ok (.iload_n 1, 1) := by decide +kernel
theorem dX9_bird_92 : decode cX9_bird 92 = .ok (.invokevirtual 160, 3) := by decide +kernel
theorem dX9_bird_95 : decode cX9_bird 95 = .ok (.ireturn, 1) := by decide +kernel
theorem dX9_bird_96 : decode cX9_bird 96 = .ok (.aload_n 0, 1) := by decide +kernel
theorem dX9_bird_97 : decode cX9_bird 97 = .ok (.bipush (-2), 2) := by decide +kernel
theorem dX9_bird_99 : decode cX9_bird 99 = .ok (.invokevirtual 73, 3) := by decide +kernel
theorem dX9_bird_102 : decode cX9_bird 102 = .ok (.ireturn, 1) := by decide +kernel
theorem dX9_isInk_0 : decode cX9_isInk 0 = .ok (.iload_n 0, 1) := by decide +kernel
theorem dX9_isInk_1 : decode cX9_isInk 1 = .ok (.iconst 0, 1) := by decide +kernel
theorem dX9_isInk_2 : decode cX9_isInk 2 = .ok (.iconst 2, 1) := by decide +kernel
theorem dX9_isInk_3 : decode cX9_isInk 3 = .ok (.invokestatic 87, 3) := by decide +kernel
theorem dX9_isInk_6 : decode cX9_isInk 6 = .ok (.ireturn, 1) := by decide +kernel
theorem dX9_bitter_0 : decode cX9_bitter 0 = .ok (.iload_n 1, 1) := by decide +kernel
theorem dX9_bitter_1 : decode cX9_bitter 1 = .ok (.invokestatic 175, 3) := by decide +kernel
theorem dX9_bitter_4 : decode cX9_bitter 4 = .ok (.ifCond .ne 7, 3) := by decide +kernel
theorem dX9_bitter_7 : decode cX9_bitter 7 = .ok (.iconst (-1), 1) := by decide +kernel
theorem dX9_bitter_8 : decode cX9_bitter 8 = .ok (.goto 10, 3) := by decide +kernel
theorem dX9_bitter_11 : decode cX9_bitter 11 = .ok (.iload_n 2, 1) := by decide +kernel
theorem dX9_bitter_12 : decode cX9_bitter 12 = .ok (.iconst 0, 1) := by decide +kernel
theorem dX9_bitter_13 : decode cX9_bitter 13 = .ok (.bipush 9, 2) := by decide +kernel
theorem dX9_bitter_15 : decode cX9_bitter 15 = .ok (.invokestatic 66, 3) := by decide +kernel
theorem dX9_bitter_18 : decode cX9_bitter 18 = .ok (.istore_n 3, 1) := by decide +kernel
theorem dX9_bitter_19 : decode cX9_bitter 19 = .ok (.iload_n 3, 1) := by decide +kernel
theorem dX9_bitter_20 : decode cX9_bitter 20 = .ok (.ifCond .eq 9, 3) := by decide +kernel
theorem dX9_bitter_23 : decode cX9_bitter 23 = .ok (.aload_n 0, 1) := by decide +kernel
theorem dX9_bitter_24 : decode cX9_bitter 24 = .ok (.iload_n 3, 1) := by decide +kernel
theorem dX9_bitter_25 : decode cX9_bitter 25 = .ok (.invokevirtual 73, 3) := by decide +kernel
theorem dX9_bitter_28 : decode cX9_bitter 28 = .ok (.ireturn, 1) := by decide +kernel
theorem dX9_bitter_29 : decode cX9_bitter 29 = .ok (.aload_n 0, 1) := by decide +kernel
theorem dX9_bitter_30 : decode cX9_bitter 30 = .ok (.getfield 34, 3) := by decide +kernel
theorem dX9_bitter_33 : decode cX9_bitter 33 = .ok (.iload_n 1, 1) := by decide +kernel
theorem dX9_bitter_34 : decode cX9_bitter 34 = .ok (.iaload, 1) := by decide +kernel
theorem dX9_bitter_35 : decode cX9_bitter 35 = .ok (.istore 4, 2) := by decide +kernel
theorem dX9_bitter_37 : decode cX9_bitter 37 = .ok (.aload_n 0, 1) := by decide +kernel
theorem dX9_bitter_38 : decode cX9_bitter 38 = .ok (.getfield 34, 3) := by decide +kernel
theorem dX9_bitter_41 : decode cX9_bitter 41 = .ok (.iload_n 1, 1) := by decide +kernel
theorem dX9_bitter_42 : decode cX9_bitter 42 = .ok (.iload_n 2, 1) := by decide +kernel
theorem dX9_bitter_43 : decode cX9_bitter 43 = .ok (.iastore, 1) := by decide +kernel
theorem dX9_bitter_44 : decode cX9_bitter 44 = .ok (.iload 4, 2) := by decide +kernel
theorem dX9_bitter_46 : decode cX9_bitter 46 = .ok (.ireturn, 1) := by decide +kernel
theorem dX9_ink_0 : decode cX9_ink 0 = .ok (.aload_n 0, 1) := by decide +kernel
theorem dX9_ink_1 : decode cX9_ink 1 = .ok (.iload_n 1, 1) := by decide +kernel
theorem dX9_ink_2 : decode cX9_ink 2 = .ok (.invokevirtual 102, 3) := by decide +kernel
theorem dX9_ink_5 : decode cX9_ink 5 = .ok (.ifCond .eq 10, 3) := by decide +kernel
theorem dX9_ink_8 : decode cX9_ink 8 = .ok (.iload_n 2, 1) := by decide +kernel
theorem dX9_ink_9 : decode cX9_ink 9 = .ok (.invokestatic 175, 3) := by decide +kernel
theorem dX9_ink_12 : decode cX9_ink 12 = .ok (.ifCond .ne 9, 3) := by decide +kernel
theorem dX9_ink_15 : decode cX9_ink 15 = .ok (.aload_n 0, 1) := by decide +kernel
theorem dX9_ink_16 : decode cX9_ink 16 = .ok (.iconst (-1), 1) := by decide +kernel
theorem dX9_ink_17 : decode cX9_ink 17 = .ok (.invokevirtual 73, 3) := by decide +kernel
theorem dX9_ink_20 : decode cX9_ink 20 = .ok (.ireturn, 1) := by decide +kernel
theorem dX9_ink_21 : decode cX9_ink 21 = .ok (.aload_n 0, 1) := by decide +kernel
theorem dX9_ink_22 : decode cX9_ink 22 = .ok (.getfield 16, 3) := by decide +kernel
theorem dX9_ink_25 : decode cX9_ink 25 = .ok (.iload_n 1, 1) := by decide +kernel
theorem dX9_ink_26 : decode cX9_ink 26 = .ok (.iaload, 1) := by decide +kernel
theorem dX9_ink_27 : decode cX9_ink 27 = .ok (.istore_n 3, 1) := by decide +kernel
theorem dX9_ink_28 : decode cX9_ink 28 = .ok (.aload_n 0, 1) := by decide +kernel
theorem dX9_ink_29 : decode cX9_ink 29 = .ok (.getfield 16, 3) := by decide +kernel
theorem dX9_ink_32 : decode cX9_ink 32 = .ok (.iload_n 1, 1) := by decide +kernel
theorem dX9_ink_33 : decode cX9_ink 33 = .ok (.iload_n 2, 1) := by decide +kernel
theorem dX9_ink_34 : decode cX9_ink 34 = .ok (.iastore, 1) := by decide +kernel
theorem dX9_ink_35 : decode cX9_ink 35 = .ok (.iload_n 3, 1) := by decide +kernel
theorem dX9_ink_36 : decode cX9_ink 36 = .ok (.ireturn, 1) := by decide +kernel
theorem dX9_watch_0 : decode cX9_watch 0 = .ok (.aload_n 0, 1) := by decide +kernel
theorem dX9_watch_1 : decode cX9_watch 1 = .ok (.iload_n 1, 1) := by decide +kernel
theorem dX9_watch_2 : decode cX9_watch 2 = .ok (.invokevirtual 102, 3) := by decide +kernel
theorem dX9_watch_5 : decode cX9_watch 5 = .ok (.ifCond .ne 7, 3) := by decide +kernel
theorem dX9_watch_8 : decode cX9_watch 8 = .ok (.iconst (-1), 1) := by decide +kernel
theorem dX9_watch_9 : decode cX9_watch 9 = .ok (.goto 10, 3) := by decide +kernel
theorem dX9_watch_12 : decode cX9_watch 12 = .ok (.iload_n 2, 1) := by decide +kernel
theorem dX9_watch_13 : decode cX9_watch 13 = .ok (.iconst 0, 1) := by decide +kernel
theorem dX9_watch_14 : decode cX9_watch 14 = .ok (.bipush 7, 2) := by decide +kernel
theorem dX9_watch_16 : decode cX9_watch 16 = .ok (.invokestatic 66, 3) := by decide +kernel
theorem dX9_watch_19 : decode cX9_watch 19 = .ok (.istore 4, 2) := by decide +kernel
theorem dX9_watch_21 : decode cX9_watch 21 = .ok (.iload 4, 2) := by decide +kernel
theorem dX9_watch_23 : decode cX9_watch 23 = .ok (.ifCond .ne 16, 3) := by decide +kernel
theorem dX9_watch_26 : decode cX9_watch 26 = .ok (.iload_n 3, 1) := by decide +kernel
theorem dX9_watch_27 : decode cX9_watch 27 = .ok (.iconst 0, 1) := by decide +kernel
theorem dX9_watch_28 : decode cX9_watch 28 = .ok (.iconst 1, 1) := by decide +kernel
theorem dX9_watch_29 : decode cX9_watch 29 = .ok (.invokestatic 87, 3) := by decide +kernel
theorem dX9_watch_32 : decode cX9_watch 32 = .ok (.ifCond .ne 7, 3) := by decide +kernel
theorem dX9_watch_35 : decode cX9_watch 35 = .ok (.bipush (-2), 2) := by decide +kernel
theorem dX9_watch_37 : decode cX9_watch 37 = .ok (.istore 4, 2) := by decide +kernel
theorem dX9_watch_39 : decode cX9_watch 39 = .ok (.iload 4, 2) := by decide +kernel
theorem dX9_watch_41 : decode cX9_watch 41 = .ok (.ifCond .eq 10, 3) := by decide +kernel
theorem dX9_watch_44 : decode cX9_watch 44 = .ok (.aload_n 0, 1) := by decide +kernel
theorem dX9_watch_45 : decode cX9_watch 45 = .ok (.iload 4, 2) := by decide +kernel
theorem dX9_watch_47 : decode cX9_watch 47 = .ok (.invokevirtual 73, 3) := by decide +kernel
theorem dX9_watch_50 : decode cX9_watch 50 = .ok (.ireturn, 1) := by decide +kernel
theorem dX9_watch_51 : decode cX9_watch 51 = .ok (.aload_n 0, 1) := by decide +kernel
theorem dX9_watch_52 : decode cX9_watch 52 = .ok (.getfield 37, 3) := by decide +kernel
theorem dX9_watch_55 : decode cX9_watch 55 = .ok (.iload_n 2, 1) := by decide +kernel
theorem dX9_watch_56 : decode cX9_watch 56 = .ok (.iaload, 1) := by decide +kernel
theorem dX9_watch_57 : decode cX9_watch 57 = .ok (.iload_n 1, 1) := by decide +kernel
theorem dX9_watch_58 : decode cX9_watch 58 = .ok (.ishr, 1) := by decide +kernel
theorem dX9_watch_59 : decode cX9_watch 59 = .ok (.iconst 1, 1) := by decide +kernel
theorem dX9_watch_60 : decode cX9_watch 60 = .ok (.iand, 1) := by decide +kernel
theorem dX9_watch_61 : decode cX9_watch 61 = .ok (.istore 5, 2) := by decide +kernel
theorem dX9_watch_63 : decode cX9_watch 63 = .ok (.aload_n 0, 1) := by decide +kernel
theorem dX9_watch_64 : decode cX9_watch 64 = .ok (.getfield 37, 3) := by decide +kernel
theorem dX9_watch_67 : decode cX9_watch 67 = .ok (.iload_n 2, 1) := by decide +kernel
theorem dX9_watch_68 : decode cX9_watch 68 = .ok (.aload_n 0, 1) := by decide +kernel
theorem dX9_watch_69 : decode cX9_watch 69 = .ok (.getfield 37, 3) := by decide +kernel
theorem dX9_watch_72 : decode cX9_watch 72 = .ok (.iload_n 2, 1) := by decide +kernel
theorem dX9_watch_73 : decode cX9_watch 73 = .ok (.iaload, 1) := by decide +kernel
theorem dX9_watch_74 : decode cX9_watch 74 = .ok (.iconst 1, 1) := by decide +kernel
theorem dX9_watch_75 : decode cX9_watch 75 = .ok (.iload_n 1, 1) := by decide +kernel
theorem dX9_watch_76 : decode cX9_watch 76 = .ok (.ishl, 1) := by decide +kernel
theorem dX9_watch_77 : decode cX9_watch 77 = .ok (.iconst (-1), 1) := by decide +kernel
theorem dX9_watch_78 : decode cX9_watch 78 = .ok (.ixor, 1) := by decide +kernel
theorem dX9_watch_79 : decode cX9_watch 79 = .ok (.iand, 1) := by decide +kernel
theorem dX9_watch_80 : decode cX9_watch 80 = .ok (.iload_n 3, 1) := by decide +kernel
theorem dX9_watch_81 : decode cX9_watch 81 = .ok (.iload_n 1, 1) := by decide +kernel
theorem dX9_watch_82 : decode cX9_watch 82 = .ok (.ishl, 1) := by decide +kernel
theorem dX9_watch_83 : decode cX9_watch 83 = .ok (.ior, 1) := by decide +kernel
theorem dX9_watch_84 : decode cX9_watch 84 = .ok (.iastore, 1) := by decide +kernel
theorem dX9_watch_85 : decode cX9_watch 85 = .ok (.iload 5, 2) := by decide +kernel
theorem dX9_watch_87 : decode cX9_watch 87 = .ok (.ireturn, 1) := by decide +kernel
theorem dX9_hour_0 : decode cX9_hour 0 = .ok (.aload_n 0, 1) := by decide +kernel
theorem dX9_hour_1 : decode cX9_hour 1 = .ok (.getfield 139, 3) := by decide +kernel
theorem dX9_hour_4 : decode cX9_hour 4 = .ok (.bipush 8, 2) := by decide +kernel
theorem dX9_hour_6 : decode cX9_hour 6 = .ok (.if_icmp .ne 12, 3) := by decide +kernel
theorem dX9_hour_9 : decode cX9_hour 9 = .ok (.aload_n 0, 1) := by decide +kernel
theorem dX9_hour_10 : decode cX9_hour 10 = .ok (.bipush (-3), 2) := by decide +kernel
theorem dX9_hour_12 : decode cX9_hour 12 = .ok (.invokevirtual 73, 3) := by decide +kernel
theorem dX9_hour_15 : decode cX9_hour 15 = .ok (.goto 7, 3) := by decide +kernel
theorem dX9_hour_18 : decode cX9_hour 18 = .ok (.aload_n 0, 1) := by decide +kernel
theorem dX9_hour_19 : decode cX9_hour 19 = .ok (.invokevirtual 166, 3) := by decide +kernel
theorem dX9_hour_22 : decode cX9_hour 22 = .ok (.ireturn, 1) := by decide +kernel
theorem dX9_anew_0 : decode cX9_anew 0 = .ok (.aload_n 0, 1) := by decide +kernel
theorem dX9_anew_1 : decode cX9_anew 1 = .ok (.iconst 0, 1) := by decide +kernel
theorem dX9_anew_2 : decode cX9_anew 2 = .ok (.putfield 139, 3) := by decide +kernel
theorem dX9_anew_5 : decode cX9_anew 5 = .ok (.aload_n 0, 1) := by decide +kernel
theorem dX9_anew_6 : decode cX9_anew 6 = .ok (.iconst 0, 1) := by decide +kernel
theorem dX9_anew_7 : decode cX9_anew 7 = .ok (.putfield 142, 3) := by decide +kernel
theorem dX9_anew_10 : decode cX9_anew 10 = .ok (.aload_n 0, 1) := by decide +kernel
theorem dX9_anew_11 : decode cX9_anew 11 = .ok (.getfield 59, 3) := by decide +kernel
theorem dX9_anew_14 : decode cX9_anew 14 = .ok (.ireturn, 1) := by decide +kernel
theorem dX9_left_0 : decode cX9_left 0 = .ok (.iload_n 1, 1) := by decide +kernel
theorem dX9_left_1 : decode cX9_left 1 = .ok (.iconst 0, 1) := by decide +kernel
theorem dX9_left_2 : decode cX9_left 2 = .ok (.bipush 8, 2) := by decide +kernel
theorem dX9_left_4 : decode cX9_left 4 = .ok (.invokestatic 66, 3) := by decide +kernel
theorem dX9_left_7 : decode cX9_left 7 = .ok (.istore_n 2, 1) := by decide +kernel
theorem dX9_left_8 : decode cX9_left 8 = .ok (.iload_n 2, 1) := by decide +kernel
theorem dX9_left_9 : decode cX9_left 9 = .ok (.ifCond .eq 9, 3) := by decide +kernel
theorem dX9_left_12 : decode cX9_left 12 = .ok (.aload_n 0, 1) := by decide +kernel
theorem dX9_left_13 : decode cX9_left 13 = .ok (.iload_n 2, 1) := by decide +kernel
theorem dX9_left_14 : decode cX9_left 14 = .ok (.invokevirtual 73, 3) := by decide +kernel
theorem dX9_left_17 : decode cX9_left 17 = .ok (.ireturn, 1) := by decide +kernel
theorem dX9_left_18 : decode cX9_left 18 = .ok (.aload_n 0, 1) := by decide +kernel
theorem dX9_left_19 : decode cX9_left 19 = .ok (.iconst 2, 1) := by decide +kernel
theorem dX9_left_20 : decode cX9_left 20 = .ok (.iconst 1, 1) := by decide +kernel
theorem dX9_left_21 : decode cX9_left 21 = .ok (.invokevirtual 118, 3) := by decide +kernel
theorem dX9_left_24 : decode cX9_left 24 = .ok (.iconst 0, 1) := by decide +kernel
theorem dX9_left_25 : decode cX9_left 25 = .ok (.istore_n 3, 1) := by decide +kernel
theorem dX9_left_26 : decode cX9_left 26 = .ok (.iload_n 3, 1) := by decide +kernel
theorem dX9_left_27 : decode cX9_left 27 = .ok (.iload_n 1, 1) := by decide +kernel
theorem dX9_left_28 : decode cX9_left 28 = .ok (.if_icmp .ge 23, 3) := by decide +kernel
theorem dX9_left_31 : decode cX9_left 31 = .ok (.aload_n 0, 1) := by decide +kernel
theorem dX9_left_32 : decode cX9_left 32 = .ok (.getfield 139, 3) := by decide +kernel
theorem dX9_left_35 : decode cX9_left 35 = .ok (.bipush 8, 2) := by decide +kernel
theorem dX9_left_37 : decode cX9_left 37 = .ok (.if_icmp .ge 14, 3) := by decide +kernel
theorem dX9_left_40 : decode cX9_left 40 = .ok (.aload_n 0, 1) := by decide +kernel
theorem dX9_left_41 : decode cX9_left 41 = .ok (.invokevirtual 166, 3) := by decide +kernel
theorem dX9_left_44 : decode cX9_left 44 = .ok (.pop, 1) := by decide +kernel
theorem dX9_left_45 : decode cX9_left 45 = .ok (.iinc 3 1, 3) := by decide +kernel
theorem dX9_left_48 : decode cX9_left 48 = .ok (.goto (-22), 3) := by decide +kernel
theorem dX9_left_51 : decode cX9_left 51 = .ok (.aload_n 0, 1) := by decide +kernel
theorem dX9_left_52 : decode cX9_left 52 = .ok (.invokevirtual 169, 3) := by decide +kernel
theorem dX9_left_55 : decode cX9_left 55 = .ok (.istore_n 3, 1) := by decide +kernel
theorem dX9_left_56 : decode cX9_left 56 = .ok (.aload_n 0, 1) := by decide +kernel
theorem dX9_left_57 : decode cX9_left 57 = .ok (.iconst 2, 1) := by decide +kernel
theorem dX9_left_58 : decode cX9_left 58 = .ok (.iconst 0, 1) := by decide +kernel
theorem dX9_left_59 : decode cX9_left 59 = .ok (.invokevirtual 118, 3) := by decide +kernel
theorem dX9_left_62 : decode cX9_left 62 = .ok (.iload_n 3, 1) := by decide +kernel
theorem dX9_left_63 : decode cX9_left 63 = .ok (.ireturn, 1) := by decide +kernel
theorem dX9_goesIn_0 : decode cX9_goesIn 0 = .ok (.aload_n 0, 1) := by decide +kernel
theorem dX9_goesIn_1 : decode cX9_goesIn 1 = .ok (.iload_n 1, 1) := by decide +kernel
theorem dX9_goesIn_2 : decode cX9_goesIn 2 = .ok (.invokevirtual 148, 3) := by decide +kernel
theorem dX9_goesIn_5 : decode cX9_goesIn 5 = .ok (.ifCond .eq 6, 3) := by decide +kernel
theorem dX9_goesIn_8 : decode cX9_goesIn 8 = .ok (.bipush 9, 2) := by decide +kernel
theorem dX9_goesIn_10 : decode cX9_goesIn 10 = .ok (.ireturn, 1) := by decide +kernel
theorem dX9_goesIn_11 : decode cX9_goesIn 11 = .ok (.aload_n 0, 1) := by decide +kernel
theorem dX9_goesIn_12 : decode cX9_goesIn 12 = .ok (.getfield 139, 3) := by decide +kernel
theorem dX9_goesIn_15 : decode cX9_goesIn 15 = .ok (.istore_n 2, 1) := by decide +kernel
theorem dX9_goesIn_16 : decode cX9_goesIn 16 = .ok (.aload_n 0, 1) := by decide +kernel
theorem dX9_goesIn_17 : decode cX9_goesIn 17 = .ok (.getfield 142, 3) := by decide +kernel
theorem dX9_goesIn_20 : decode cX9_goesIn 20 = .ok (.istore_n 3, 1) := by decide +kernel
theorem dX9_goesIn_21 : decode cX9_goesIn 21 = .ok (.aload_n 0, 1) := by decide +kernel
theorem dX9_goesIn_22 : decode cX9_goesIn 22 = .ok (.getfield 139, 3) := by decide +kernel
theorem dX9_goesIn_25 : decode cX9_goesIn 25 = .ok (.bipush 8, 2) := by decide +kernel
theorem dX9_goesIn_27 : decode cX9_goesIn 27 = .ok (.if_icmp .ge 19, 3) := by decide +kernel
theorem dX9_goesIn_30 : decode cX9_goesIn 30 = .ok (.aload_n 0, 1) := by decide +kernel
theorem dX9_goesIn_31 : decode cX9_goesIn 31 = .ok (.iload_n 1, 1) := by decide +kernel
theorem dX9_goesIn_32 : decode cX9_goesIn 32 = .ok (.invokevirtual 148, 3) := by decide +kernel
theorem dX9_goesIn_35 : decode cX9_goesIn 35 = .ok (.ifCond .ne 11, 3) := by decide +kernel
theorem dX9_goesIn_38 : decode cX9_goesIn 38 = .ok (.aload_n 0, 1) := by decide +kernel
theorem dX9_goesIn_39 : decode cX9_goesIn 39 = .ok (.invokevirtual 166, 3) := by decide +kernel
theorem dX9_goesIn_42 : decode cX9_goesIn 42 = .ok (.pop, 1) := by decide +kernel
theorem dX9_goesIn_43 : decode cX9_goesIn 43 = .ok (.goto (-22), 3) := by decide +kernel
theorem dX9_goesIn_46 : decode cX9_goesIn 46 = .ok (.aload_n 0, 1) := by decide +kernel
theorem dX9_goesIn_47 : decode cX9_goesIn 47 = .ok (.iload_n 1, 1) := by decide +kernel
theorem dX9_goesIn_48 : decode cX9_goesIn 48 = .ok (.invokevirtual 148, 3) := by decide +kernel
theorem dX9_goesIn_51 : decode cX9_goesIn 51 = .ok (.ifCond .eq 12, 3) := by decide +kernel
theorem dX9_goesIn_54 : decode cX9_goesIn 54 = .ok (.aload_n 0, 1) := by decide +kernel
theorem dX9_goesIn_55 : decode cX9_goesIn 55 = .ok (.getfield 139, 3) := by decide +kernel
theorem dX9_goesIn_58 : decode cX9_goesIn 58 = .ok (.iconst 1, 1) := by decide +kernel
theorem dX9_goesIn_59 : decode cX9_goesIn 59 = .ok (.isub, 1) := by decide +kernel
theorem dX9_goesIn_60 : decode cX9_goesIn 60 = .ok (.goto 5, 3) := by decide +kernel
theorem dX9_goesIn_63 : decode cX9_goesIn 63 = .ok (.bipush 8, 2) := by decide +kernel
theorem dX9_goesIn_65 : decode cX9_goesIn 65 = .ok (.istore 4, 2) := by decide +kernel
theorem dX9_goesIn_67 : decode cX9_goesIn 67 = .ok (.aload_n 0, 1) := by decide +kernel
theorem dX9_goesIn_68 : decode cX9_goesIn 68 = .ok (.iload_n 2, 1) := by decide +kernel
theorem dX9_goesIn_69 : decode cX9_goesIn 69 = .ok (.putfield 139, 3) := by decide +kernel
theorem dX9_goesIn_72 : decode cX9_goesIn 72 = .ok (.aload_n 0, 1) := by decide +kernel
theorem dX9_goesIn_73 : decode cX9_goesIn 73 = .ok (.iload_n 3, 1) := by decide +kernel
theorem dX9_goesIn_74 : decode cX9_goesIn 74 = .ok (.putfield 142, 3) := by decide +kernel
theorem dX9_goesIn_77 : decode cX9_goesIn 77 = .ok (.iload 4, 2) := by decide +kernel
theorem dX9_goesIn_79 : decode cX9_goesIn 79 = .ok (.ireturn, 1) := by decide +kernel
theorem dX9_eaten_0 : decode cX9_eaten 0 = .ok (.aload_n 0, 1) := by decide +kernel
theorem dX9_eaten_1 : decode cX9_eaten 1 = .ok (.iload_n 1, 1) := by decide +kernel
theorem dX9_eaten_2 : decode cX9_eaten 2 = .ok (.invokevirtual 102, 3) := by decide +kernel
theorem dX9_eaten_5 : decode cX9_eaten 5 = .ok (.ifCond .ne 9, 3) := by decide +kernel
theorem dX9_eaten_8 : decode cX9_eaten 8 = .ok (.aload_n 0, 1) := by decide +kernel
theorem dX9_eaten_9 : decode cX9_eaten 9 = .ok (.iconst (-1), 1) := by decide +kernel
theorem dX9_eaten_10 : decode cX9_eaten 10 = .ok (.invokevirtual 73, 3) := by decide +kernel
theorem dX9_eaten_13 : decode cX9_eaten 13 = .ok (.ireturn, 1) := by decide +kernel
theorem dX9_eaten_14 : decode cX9_eaten 14 = .ok (.aload_n 0, 1) := by decide +kernel
theorem dX9_eaten_15 : decode cX9_eaten 15 = .ok (.iload_n 1, 1) := by decide +kernel
theorem dX9_eaten_16 : decode cX9_eaten 16 = .ok (.invokevirtual 178, 3) := by decide +kernel
theorem dX9_eaten_19 : decode cX9_eaten 19 = .ok (.istore_n 2, 1) := by decide +kernel
theorem dX9_eaten_20 : decode cX9_eaten 20 = .ok (.iload_n 2, 1) := by decide +kernel
theorem dX9_eaten_21 : decode cX9_eaten 21 = .ok (.bipush 8, 2) := by decide +kernel
theorem dX9_eaten_23 : decode cX9_eaten 23 = .ok (.if_icmp .ne 8, 3) := by decide +kernel
theorem dX9_eaten_26 : decode cX9_eaten 26 = .ok (.bipush (-9), 2) := by decide +kernel
theorem dX9_eaten_28 : decode cX9_eaten 28 = .ok (.goto 4, 3) := by decide +kernel
theorem dX9_eaten_31 : decode cX9_eaten 31 = .ok (.iload_n 2, 1) := by decide +kernel
theorem dX9_eaten_32 : decode cX9_eaten 32 = .ok (.ireturn, 1) := by decide +kernel
theorem dX9_meaningsOf_0 : decode cX9_meaningsOf 0 = .ok (.iconst 0, 1) := by decide +kernel
theorem dX9_meaningsOf_1 : decode cX9_meaningsOf 1 = .ok (.istore_n 2, 1) := by decide +kernel
theorem dX9_meaningsOf_2 : decode cX9_meaningsOf 2 = .ok (.iconst 0, 1) := by decide +kernel
theorem dX9_meaningsOf_3 : decode cX9_meaningsOf 3 = .ok (.istore_n 3, 1) := by decide +kernel
theorem dX9_meaningsOf_4 : decode cX9_meaningsOf 4 = .ok (.iload_n 3, 1) := by decide +kernel
theorem dX9_meaningsOf_5 : decode cX9_meaningsOf 5 = .ok (.aload_n 0, 1) := by decide +kernel
theorem dX9_meaningsOf_6 : decode cX9_meaningsOf 6 = .ok (.getfield 59, 3) := by decide +kernel
theorem dX9_meaningsOf_9 : decode cX9_meaningsOf 9 = .ok (.if_icmp .ge 24, 3) := by decide +kernel
theorem dX9_meaningsOf_12 : decode cX9_meaningsOf 12 = .ok (.iload_n 2, 1) := by decide +kernel
theorem dX9_meaningsOf_13 : decode cX9_meaningsOf 13 = .ok (.iload_n 1, 1) := by decide +kernel
theorem dX9_meaningsOf_14 : decode cX9_meaningsOf 14 = .ok (.iload_n 3, 1) := by decide +kernel
theorem dX9_meaningsOf_15 : decode cX9_meaningsOf 15 = .ok (.ishr, 1) := by decide +kernel
theorem dX9_meaningsOf_16 : decode cX9_meaningsOf 16 = .ok (.iconst 1, 1) := by decide +kernel
theorem dX9_meaningsOf_17 : decode cX9_meaningsOf 17 = .ok (.iand, 1) := by decide +kernel
theorem dX9_meaningsOf_18 : decode cX9_meaningsOf 18 = .ok (.aload_n 0, 1) := by decide +kernel
theorem dX9_meaningsOf_19 : decode cX9_meaningsOf 19 = .ok (.getfield 19, 3) := by decide +kernel
theorem dX9_meaningsOf_22 : decode cX9_meaningsOf 22 = .ok (.iload_n 3, 1) := by decide +kernel
theorem dX9_meaningsOf_23 : decode cX9_meaningsOf 23 = .ok (.iaload, 1) := by decide +kernel
theorem dX9_meaningsOf_24 : decode cX9_meaningsOf 24 = .ok (.ishl, 1) := by decide +kernel
theorem dX9_meaningsOf_25 : decode cX9_meaningsOf 25 = .ok (.ior, 1) := by decide +kernel
theorem dX9_meaningsOf_26 : decode cX9_meaningsOf 26 = .ok (.istore_n 2, 1) := by decide +kernel
theorem dX9_meaningsOf_27 : decode cX9_meaningsOf 27 = .ok (.iinc 3 1, 3) := by decide +kernel
theorem dX9_meaningsOf_30 : decode cX9_meaningsOf 30 = .ok (.goto (-26), 3) := by decide +kernel
theorem dX9_meaningsOf_33 : decode cX9_meaningsOf 33 = .ok (.iload_n 2, 1) := by decide +kernel
theorem dX9_meaningsOf_34 : decode cX9_meaningsOf 34 = .ok (.ireturn, 1) := by decide +kernel
theorem dX9_meanings_0 : decode cX9_meanings 0 = .ok (.aload_n 0, 1) := by decide +kernel
theorem dX9_meanings_1 : decode cX9_meanings 1 = .ok (.aload_n 0, 1) := by decide +kernel
theorem dX9_meanings_2 : decode cX9_meanings 2 = .ok (.invokevirtual 181, 3) := by decide +kernel
theorem dX9_meanings_5 : decode cX9_meanings 5 = .ok (.invokevirtual 184, 3) := by decide +kernel
theorem dX9_meanings_8 : decode cX9_meanings 8 = .ok (.ireturn, 1) := by decide +kernel
theorem dX9_remain_0 : decode cX9_remain 0 = .ok (.aload_n 0, 1) := by decide +kernel
theorem dX9_remain_1 : decode cX9_remain 1 = .ok (.invokevirtual 181, 3) := by decide +kernel
theorem dX9_remain_4 : decode cX9_remain 4 = .ok (.invokestatic 187, 3) := by decide +kernel
theorem dX9_remain_7 : decode cX9_remain 7 = .ok (.ireturn, 1) := by decide +kernel
theorem dX9_holds_0 : decode cX9_holds 0 = .ok (.iload_n 1, 1) := by decide +kernel
theorem dX9_holds_1 : decode cX9_holds 1 = .ok (.iconst 1, 1) := by decide +kernel
theorem dX9_holds_2 : decode cX9_holds 2 = .ok (.sipush 1023, 3) := by decide +kernel
theorem dX9_holds_5 : decode cX9_holds 5 = .ok (.invokestatic 87, 3) := by decide +kernel
theorem dX9_holds_8 : decode cX9_holds 8 = .ok (.ifCond .ne 9, 3) := by decide +kernel
theorem dX9_holds_11 : decode cX9_holds 11 = .ok (.aload_n 0, 1) := by decide +kernel
theorem dX9_holds_12 : decode cX9_holds 12 = .ok (.iconst (-1), 1) := by decide +kernel
theorem dX9_holds_13 : decode cX9_holds 13 = .ok (.invokevirtual 73, 3) := by decide +kernel
theorem dX9_holds_16 : decode cX9_holds 16 = .ok (.ireturn, 1) := by decide +kernel
theorem dX9_holds_17 : decode cX9_holds 17 = .ok (.bipush 10, 2) := by decide +kernel
theorem dX9_holds_19 : decode cX9_holds 19 = .ok (.istore_n 2, 1) := by decide +kernel
theorem dX9_holds_20 : decode cX9_holds 20 = .ok (.iconst 0, 1) := by decide +kernel
theorem dX9_holds_21 : decode cX9_holds 21 = .ok (.istore_n 3, 1) := by decide +kernel
theorem dX9_holds_22 : decode cX9_holds 22 = .ok (.iload_n 3, 1) := by decide +kernel
theorem dX9_holds_23 : decode cX9_holds 23 = .ok (.bipush 10, 2) := by decide +kernel
theorem dX9_holds_25 : decode cX9_holds 25 = .ok (.if_icmp .ge 84, 3) := by decide +kernel
theorem dX9_holds_28 : decode cX9_holds 28 = .ok (.iload_n 1, 1) := by decide +kernel
theorem dX9_holds_29 : decode cX9_holds 29 = .ok (.iload_n 3, 1) := by decide +kernel
theorem dX9_holds_30 : decode cX9_holds 30 = .ok (.ishr, 1) := by decide +kernel
theorem dX9_holds_31 : decode cX9_holds 31 = .ok (.iconst 1, 1) := by decide +kernel
theorem dX9_holds_32 : decode cX9_holds 32 = .ok (.iand, 1) := by decide +kernel
theorem dX9_holds_33 : decode cX9_holds 33 = .ok (.ifCond .ne 6, 3) := by decide +kernel
theorem dX9_holds_36 : decode cX9_holds 36 = .ok (.goto 67, 3) := by decide +kernel
theorem dX9_holds_39 : decode cX9_holds 39 = .ok (.iconst 0, 1) := by decide +kernel
theorem dX9_holds_40 : decode cX9_holds 40 = .ok (.istore 4, 2) := by decide +kernel
theorem dX9_holds_42 : decode cX9_holds 42 = .ok (.iconst 0, 1) := by decide +kernel
theorem dX9_holds_43 : decode cX9_holds 43 = .ok (.istore 5, 2) := by decide +kernel
theorem dX9_holds_45 : decode cX9_holds 45 = .ok (.iload 5, 2) := by decide +kernel
theorem dX9_holds_47 : decode cX9_holds 47 = .ok (.aload_n 0, 1) := by decide +kernel
theorem dX9_holds_48 : decode cX9_holds 48 = .ok (.getfield 59, 3) := by decide +kernel
theorem dX9_holds_51 : decode cX9_holds 51 = .ok (.if_icmp .ge 39, 3) := by decide +kernel
theorem dX9_holds_54 : decode cX9_holds 54 = .ok (.iload 4, 2) := by decide +kernel
theorem dX9_holds_56 : decode cX9_holds 56 = .ok (.aload_n 0, 1) := by decide +kernel
theorem dX9_holds_57 : decode cX9_holds 57 = .ok (.getfield 19, 3) := by decide +kernel
theorem dX9_holds_60 : decode cX9_holds 60 = .ok (.iload 5, 2) := by decide +kernel
theorem dX9_holds_62 : decode cX9_holds 62 = .ok (.iaload, 1) := by decide +kernel
theorem dX9_holds_63 : decode cX9_holds 63 = .ok (.iload_n 3, 1) := by decide +kernel
theorem dX9_holds_64 : decode cX9_holds 64 = .ok (.if_icmp .ne 16, 3) := by decide +kernel
theorem dX9_holds_67 : decode cX9_holds 67 = .ok (.aload_n 0, 1) := by decide +kernel
theorem dX9_holds_68 : decode cX9_holds 68 = .ok (.iload 5, 2) := by decide +kernel
theorem dX9_holds_70 : decode cX9_holds 70 = .ok (.invokevirtual 148, 3) := by decide +kernel
theorem dX9_holds_73 : decode cX9_holds 73 = .ok (.ifCond .ne 7, 3) := by decide +kernel
theorem dX9_holds_76 : decode cX9_holds 76 = .ok (.iconst 1, 1) := by decide +kernel
theorem dX9_holds_77 : decode cX9_holds 77 = .ok (.goto 4, 3) := by decide +kernel
theorem dX9_holds_80 : decode cX9_holds 80 = .ok (.iconst 0, 1) := by decide +kernel
theorem dX9_holds_81 : decode cX9_holds 81 = .ok (.iadd, 1) := by decide +kernel
theorem dX9_holds_82 : decode cX9_holds 82 = .ok (.istore 4, 2) := by decide +kernel
theorem dX9_holds_84 : decode cX9_holds 84 = .ok (.iinc 5 1, 3) := by decide +kernel
theorem dX9_holds_87 : decode cX9_holds 87 = .ok (.goto (-42), 3) := by decide +kernel
theorem dX9_holds_90 : decode cX9_holds 90 = .ok (.iload 4, 2) := by decide +kernel
theorem dX9_holds_92 : decode cX9_holds 92 = .ok (.iload_n 2, 1) := by decide +kernel
theorem dX9_holds_93 : decode cX9_holds 93 = .ok (.if_icmp .ge 8, 3) := by decide +kernel
theorem dX9_holds_96 : decode cX9_holds 96 = .ok (.iload 4, 2) := by decide +kernel
theorem dX9_holds_98 : decode cX9_holds 98 = .ok (.goto 4, 3) := by decide +kernel
theorem dX9_holds_101 : decode cX9_holds 101 = .ok (.iload_n 2, 1) := by decide +kernel
theorem dX9_holds_102 : decode cX9_holds 102 = .ok (.istore_n 2, 1) := by decide +kernel
theorem dX9_holds_103 : decode cX9_holds 103 = .ok (.iinc 3 1, 3) := by decide +kernel
theorem dX9_holds_106 : decode cX9_holds 106 = .ok (.goto (-84), 3) := by decide +kernel
theorem dX9_holds_109 : decode cX9_holds 109 = .ok (.iload_n 2, 1) := by decide +kernel
theorem dX9_holds_110 : decode cX9_holds 110 = .ok (.ifCond .ne 8, 3) := by decide +kernel
theorem dX9_holds_113 : decode cX9_holds 113 = .ok (.bipush (-9), 2) := by decide +kernel
theorem dX9_holds_115 : decode cX9_holds 115 = .ok (.goto 6, 3) := by decide +kernel
theorem dX9_holds_118 : decode cX9_holds 118 = .ok (.iload_n 2, 1) := by decide +kernel
theorem dX9_holds_119 : decode cX9_holds 119 = .ok (.iconst 1, 1) := by decide +kernel
theorem dX9_holds_120 : decode cX9_holds 120 = .ok (.isub, 1) := by decide +kernel
theorem dX9_holds_121 : decode cX9_holds 121 = .ok (.ireturn, 1) := by decide +kernel
theorem dX9_watchedLeft_0 : decode cX9_watchedLeft 0 = .ok (.aload_n 0, 1) := by decide +kernel
theorem dX9_watchedLeft_1 : decode cX9_watchedLeft 1 = .ok (.iconst 2, 1) := by decide +kernel
theorem dX9_watchedLeft_2 : decode cX9_watchedLeft 2 = .ok (.iconst 1, 1) := by decide +kernel
theorem dX9_watchedLeft_3 : decode cX9_watchedLeft 3 = .ok (.invokevirtual 118, 3) := by decide +kernel
theorem dX9_watchedLeft_6 : decode cX9_watchedLeft 6 = .ok (.iconst 0, 1) := by decide +kernel
theorem dX9_watchedLeft_7 : decode cX9_watchedLeft 7 = .ok (.istore_n 3, 1) := by decide +kernel
theorem dX9_watchedLeft_8 : decode cX9_watchedLeft 8 = .ok (.iload_n 3, 1) := by decide +kernel
theorem dX9_watchedLeft_9 : decode cX9_watchedLeft 9 = .ok (.bipush 8, 2) := by decide +kernel
theorem dX9_watchedLeft_11 : decode cX9_watchedLeft 11 = .ok (.if_icmp .ge 32, 3) := by decide +kernel
theorem dX9_watchedLeft_14 : decode cX9_watchedLeft 14 = .ok (.aload_n 0, 1) := by decide +kernel
theorem dX9_watchedLeft_15 : decode cX9_watchedLeft 15 = .ok (.getfield 37, 3) := by decide +kernel
theorem dX9_watchedLeft_18 : decode cX9_watchedLeft 18 = .ok (.iload_n 3, 1) := by decide +kernel
theorem dX9_watchedLeft_19 : decode cX9_watchedLeft 19 = .ok (.dup2, 1) := by decide +kernel
theorem dX9_watchedLeft_20 : decode cX9_watchedLeft 20 = .ok (.iaload, 1) := by decide +kernel
theorem dX9_watchedLeft_21 : decode cX9_watchedLeft 21 = .ok (.iload_n 2, 1) := by decide +kernel
theorem dX9_watchedLeft_22 : decode cX9_watchedLeft 22 = .ok (.ifCond .lt 8, 3) := by decide +kernel
theorem dX9_watchedLeft_25 : decode cX9_watchedLeft 25 = .ok (.iload_n 2, 1) := by decide +kernel
theorem dX9_watchedLeft_26 : decode cX9_watchedLeft 26 = .ok (.iload_n 3, 1) := by decide +kernel
theorem dX9_watchedLeft_27 : decode cX9_watchedLeft 27 = .ok (.if_icmp .ne 7, 3) := by decide +kernel
theorem dX9_watchedLeft_30 : decode cX9_watchedLeft 30 = .ok (.iload_n 1, 1) := by decide +kernel
theorem dX9_watchedLeft_31 : decode cX9_watchedLeft 31 = .ok (.goto 4, 3) := by decide +kernel
theorem dX9_watchedLeft_34 : decode cX9_watchedLeft 34 = .ok (.iconst 0, 1) := by decide +kernel
theorem dX9_watchedLeft_35 : decode cX9_watchedLeft 35 = .ok (.ior, 1) := by decide +kernel
theorem dX9_watchedLeft_36 : decode cX9_watchedLeft 36 = .ok (.iastore, 1) := by decide +kernel
theorem dX9_watchedLeft_37 : decode cX9_watchedLeft 37 = .ok (.iinc 3 1, 3) := by decide +kernel
theorem dX9_watchedLeft_40 : decode cX9_watchedLeft 40 = .ok (.goto (-32), 3) := by decide +kernel
theorem dX9_watchedLeft_43 : decode cX9_watchedLeft 43 = .ok (.aload_n 0, 1) := by decide +kernel
theorem dX9_watchedLeft_44 : decode cX9_watchedLeft 44 = .ok (.invokevirtual 181, 3) := by decide +kernel
theorem dX9_watchedLeft_47 : decode cX9_watchedLeft 47 = .ok (.istore_n 3, 1) := by decide +kernel
theorem dX9_watchedLeft_48 : decode cX9_watchedLeft 48 = .ok (.aload_n 0, 1) := by decide +kernel
theorem dX9_watchedLeft_49 : decode cX9_watchedLeft 49 = .ok (.iconst 2, 1) := by decide +kernel
theorem dX9_watchedLeft_50 : decode cX9_watchedLeft 50 = .ok (.iconst 0, 1) := by decide +kernel
theorem dX9_watchedLeft_51 : decode cX9_watchedLeft 51 = .ok (.invokevirtual 118, 3) := by decide +kernel
theorem dX9_watchedLeft_54 : decode cX9_watchedLeft 54 = .ok (.iload_n 3, 1) := by decide +kernel
theorem dX9_watchedLeft_55 : decode cX9_watchedLeft 55 = .ok (.ireturn, 1) := by decide +kernel
theorem dX9_boys_0 : decode cX9_boys 0 = .ok (.aload_n 0, 1) := by decide +kernel
theorem dX9_boys_1 : decode cX9_boys 1 = .ok (.iload_n 1, 1) := by decide +kernel
theorem dX9_boys_2 : decode cX9_boys 2 = .ok (.invokevirtual 190, 3) := by decide +kernel
theorem dX9_boys_5 : decode cX9_boys 5 = .ok (.ifCond .ne 9, 3) := by decide +kernel
theorem dX9_boys_8 : decode cX9_boys 8 = .ok (.aload_n 0, 1) := by decide +kernel
theorem dX9_boys_9 : decode cX9_boys 9 = .ok (.iconst (-1), 1) := by decide +kernel
theorem dX9_boys_10 : decode cX9_boys 10 = .ok (.invokevirtual 73, 3) := by decide +kernel
theorem dX9_boys_13 : decode cX9_boys 13 = .ok (.ireturn, 1) := by decide +kernel
theorem dX9_boys_14 : decode cX9_boys 14 = .ok (.iload_n 1, 1) := by decide +kernel
theorem dX9_boys_15 : decode cX9_boys 15 = .ok (.aload_n 0, 1) := by decide +kernel
theorem dX9_boys_16 : decode cX9_boys 16 = .ok (.getfield 142, 3) := by decide +kernel
theorem dX9_boys_19 : decode cX9_boys 19 = .ok (.iand, 1) := by decide +kernel
theorem dX9_boys_20 : decode cX9_boys 20 = .ok (.ifCond .eq 10, 3) := by decide +kernel
theorem dX9_boys_23 : decode cX9_boys 23 = .ok (.aload_n 0, 1) := by decide +kernel
theorem dX9_boys_24 : decode cX9_boys 24 = .ok (.bipush (-3), 2) := by decide +kernel
theorem dX9_boys_26 : decode cX9_boys 26 = .ok (.invokevirtual 73, 3) := by decide +kernel
theorem dX9_boys_29 : decode cX9_boys 29 = .ok (.ireturn, 1) := by decide +kernel
theorem dX9_boys_30 : decode cX9_boys 30 = .ok (.iload_n 1, 1) := by decide +kernel
theorem dX9_boys_31 : decode cX9_boys 31 = .ok (.istore_n 2, 1) := by decide +kernel
theorem dX9_boys_32 : decode cX9_boys 32 = .ok (.iconst 1, 1) := by decide +kernel
theorem dX9_boys_33 : decode cX9_boys 33 = .ok (.aload_n 0, 1) := by decide +kernel
theorem dX9_boys_34 : decode cX9_boys 34 = .ok (.getfield 59, 3) := by decide +kernel
theorem dX9_boys_37 : decode cX9_boys 37 = .ok (.ishl, 1) := by decide +kernel
theorem dX9_boys_38 : decode cX9_boys 38 = .ok (.iconst 1, 1) := by decide +kernel
theorem dX9_boys_39 : decode cX9_boys 39 = .ok (.isub, 1) := by decide +kernel
theorem dX9_boys_40 : decode cX9_boys 40 = .ok (.istore_n 3, 1) := by decide +kernel
theorem dX9_boys_41 : decode cX9_boys 41 = .ok (.iload_n 3, 1) := by decide +kernel
theorem dX9_boys_42 : decode cX9_boys 42 = .ok (.ifCond .lt 36, 3) := by decide +kernel
theorem dX9_boys_45 : decode cX9_boys 45 = .ok (.iload_n 3, 1) := by decide +kernel
theorem dX9_boys_46 : decode cX9_boys 46 = .ok (.invokestatic 187, 3) := by decide +kernel
theorem dX9_boys_49 : decode cX9_boys 49 = .ok (.iload_n 2, 1) := by decide +kernel
theorem dX9_boys_50 : decode cX9_boys 50 = .ok (.invokestatic 187, 3) := by decide +kernel
theorem dX9_boys_53 : decode cX9_boys 53 = .ok (.if_icmp .gt 19, 3) := by decide +kernel
theorem dX9_boys_56 : decode cX9_boys 56 = .ok (.iload_n 1, 1) := by decide +kernel
theorem dX9_boys_57 : decode cX9_boys 57 = .ok (.aload_n 0, 1) := by decide +kernel
theorem dX9_boys_58 : decode cX9_boys 58 = .ok (.iload_n 3, 1) := by decide +kernel
theorem dX9_boys_59 : decode cX9_boys 59 = .ok (.bipush (-9), 2) := by decide +kernel
theorem dX9_boys_61 : decode cX9_boys 61 = .ok (.invokevirtual 193, 3) := by decide +kernel
theorem dX9_boys_64 : decode cX9_boys 64 = .ok (.iconst (-1), 1) := by decide +kernel
theorem dX9_boys_65 : decode cX9_boys 65 = .ok (.ixor, 1) := by decide +kernel
theorem dX9_boys_66 : decode cX9_boys 66 = .ok (.iand, 1) := by decide +kernel
theorem dX9_boys_67 : decode cX9_boys 67 = .ok (.ifCond .ne 5, 3) := by decide +kernel
theorem dX9_boys_70 : decode cX9_boys 70 = .ok (.iload_n 3, 1) := by decide +kernel
theorem dX9_boys_71 : decode cX9_boys 71 = .ok (.istore_n 2, 1) := by decide +kernel
theorem dX9_boys_72 : decode cX9_boys 72 = .ok (.iinc 3 (-1), 3) := by decide +kernel
theorem dX9_boys_75 : decode cX9_boys 75 = .ok (.goto (-34), 3) := by decide +kernel
theorem dX9_boys_78 : decode cX9_boys 78 = .ok (.iload_n 2, 1) := by decide +kernel
theorem dX9_boys_79 : decode cX9_boys 79 = .ok (.ireturn, 1) := by decide +kernel
theorem dX9_guard_0 : decode cX9_guard 0 = .ok (.bipush (-9), 2) := by decide +kernel
theorem dX9_guard_2 : decode cX9_guard 2 = .ok (.istore_n 1, 1) := by decide +kernel
theorem dX9_guard_3 : decode cX9_guard 3 = .ok (.iconst 0, 1) := by decide +kernel
theorem dX9_guard_4 : decode cX9_guard 4 = .ok (.istore_n 2, 1) := by decide +kernel
theorem dX9_guard_5 : decode cX9_guard 5 = .ok (.aload_n 0, 1) := by decide +kernel
theorem dX9_guard_6 : decode cX9_guard 6 = .ok (.getfield 139, 3) := by decide +kernel
theorem dX9_guard_9 : decode cX9_guard 9 = .ok (.istore_n 3, 1) := by decide +kernel
theorem dX9_guard_10 : decode cX9_guard 10 = .ok (.iload_n 3, 1) := by decide +kernel
theorem dX9_guard_11 : decode cX9_guard 11 = .ok (.bipush 8, 2) := by decide +kernel
theorem dX9_guard_13 : decode cX9_guard 13 = .ok (.if_icmp .ge 45, 3) := by decide +kernel
theorem dX9_guard_16 : decode cX9_guard 16 = .ok (.aload_n 0, 1) := by decide +kernel
theorem dX9_guard_17 : decode cX9_guard 17 = .ok (.iconst 1, 1) := by decide +kernel
theorem dX9_guard_18 : decode cX9_guard 18 = .ok (.aload_n 0, 1) := by decide +kernel
theorem dX9_guard_19 : decode cX9_guard 19 = .ok (.getfield 59, 3) := by decide +kernel
theorem dX9_guard_22 : decode cX9_guard 22 = .ok (.ishl, 1) := by decide +kernel
theorem dX9_guard_23 : decode cX9_guard 23 = .ok (.iconst 1, 1) := by decide +kernel
theorem dX9_guard_24 : decode cX9_guard 24 = .ok (.isub, 1) := by decide +kernel
theorem dX9_guard_25 : decode cX9_guard 25 = .ok (.iload_n 3, 1) := by decide +kernel
theorem dX9_guard_26 : decode cX9_guard 26 = .ok (.invokevirtual 193, 3) := by decide +kernel
theorem dX9_guard_29 : decode cX9_guard 29 = .ok (.invokestatic 187, 3) := by decide +kernel
theorem dX9_guard_32 : decode cX9_guard 32 = .ok (.istore 4, 2) := by decide +kernel
theorem dX9_guard_34 : decode cX9_guard 34 = .ok (.iload_n 1, 1) := by decide +kernel
theorem dX9_guard_35 : decode cX9_guard 35 = .ok (.ifCond .lt 12, 3) := by decide +kernel
theorem dX9_guard_38 : decode cX9_guard 38 = .ok (.iload 4, 2) := by decide +kernel
theorem dX9_guard_40 : decode cX9_guard 40 = .ok (.iload_n 2, 1) := by decide +kernel
theorem dX9_guard_41 : decode cX9_guard 41 = .ok (.if_icmp .gt 6, 3) := by decide +kernel
theorem dX9_guard_44 : decode cX9_guard 44 = .ok (.goto 8, 3) := by decide +kernel
theorem dX9_guard_47 : decode cX9_guard 47 = .ok (.iload_n 3, 1) := by decide +kernel
theorem dX9_guard_48 : decode cX9_guard 48 = .ok (.istore_n 1, 1) := by decide +kernel
theorem dX9_guard_49 : decode cX9_guard 49 = .ok (.iload 4, 2) := by decide +kernel
theorem dX9_guard_51 : decode cX9_guard 51 = .ok (.istore_n 2, 1) := by decide +kernel
theorem dX9_guard_52 : decode cX9_guard 52 = .ok (.iinc 3 1, 3) := by decide +kernel
theorem dX9_guard_55 : decode cX9_guard 55 = .ok (.goto (-45), 3) := by decide +kernel
theorem dX9_guard_58 : decode cX9_guard 58 = .ok (.iload_n 1, 1) := by decide +kernel
theorem dX9_guard_59 : decode cX9_guard 59 = .ok (.ireturn, 1) := by decide +kernel
theorem dX9_winter_0 : decode cX9_winter 0 = .ok (.aload_n 0, 1) := by decide +kernel
theorem dX9_winter_1 : decode cX9_winter 1 = .ok (.iload_n 1, 1) := by decide +kernel
theorem dX9_winter_2 : decode cX9_winter 2 = .ok (.invokevirtual 172, 3) := by decide +kernel
theorem dX9_winter_5 : decode cX9_winter 5 = .ok (.ifCond .ne 9, 3) := by decide +kernel
theorem dX9_winter_8 : decode cX9_winter 8 = .ok (.aload_n 0, 1) := by decide +kernel
theorem dX9_winter_9 : decode cX9_winter 9 = .ok (.iconst (-1), 1) := by decide +kernel
theorem dX9_winter_10 : decode cX9_winter 10 = .ok (.invokevirtual 197, 3) := by decide +kernel
theorem dX9_winter_13 : decode cX9_winter 13 = .ok (.ireturn, 1) := by decide +kernel
theorem dX9_winter_14 : decode cX9_winter 14 = .ok (.aload_n 0, 1) := by decide +kernel
theorem dX9_winter_15 : decode cX9_winter 15 = .ok (.invokevirtual 181, 3) := by decide +kernel
theorem dX9_winter_18 : decode cX9_winter 18 = .ok (.invokestatic 187, 3) := by decide +kernel
theorem dX9_winter_21 : decode cX9_winter 21 = .ok (.istore_n 2, 1) := by decide +kernel
theorem dX9_winter_22 : decode cX9_winter 22 = .ok (.aload_n 0, 1) := by decide +kernel
theorem dX9_winter_23 : decode cX9_winter 23 = .ok (.getfield 25, 3) := by decide +kernel
theorem dX9_winter_26 : decode cX9_winter 26 = .ok (.iload_n 1, 1) := by decide +kernel
theorem dX9_winter_27 : decode cX9_winter 27 = .ok (.iaload, 1) := by decide +kernel
theorem dX9_winter_28 : decode cX9_winter 28 = .ok (.istore_n 3, 1) := by decide +kernel
theorem dX9_winter_29 : decode cX9_winter 29 = .ok (.aload_n 0, 1) := by decide +kernel
theorem dX9_winter_30 : decode cX9_winter 30 = .ok (.getfield 25, 3) := by decide +kernel
theorem dX9_winter_33 : decode cX9_winter 33 = .ok (.iload_n 1, 1) := by decide +kernel
theorem dX9_winter_34 : decode cX9_winter 34 = .ok (.bipush 99, 2) := by decide +kernel
theorem dX9_winter_36 : decode cX9_winter 36 = .ok (.iastore, 1) := by decide +kernel
theorem dX9_winter_37 : decode cX9_winter 37 = .ok (.aload_n 0, 1) := by decide +kernel
theorem dX9_winter_38 : decode cX9_winter 38 = .ok (.invokevirtual 181, 3) := by decide +kernel
theorem dX9_winter_41 : decode cX9_winter 41 = .ok (.invokestatic 187, 3) := by decide +kernel
theorem dX9_winter_44 : decode cX9_winter 44 = .ok (.istore 4, 2) := by decide +kernel
theorem dX9_winter_46 : decode cX9_winter 46 = .ok (.aload_n 0, 1) := by decide +kernel
theorem dX9_winter_47 : decode cX9_winter 47 = .ok (.getfield 25, 3) := by decide +kernel
theorem dX9_winter_50 : decode cX9_winter 50 = .ok (.iload_n 1, 1) := by decide +kernel
theorem dX9_winter_51 : decode cX9_winter 51 = .ok (.iload_n 3, 1) := by decide +kernel
theorem dX9_winter_52 : decode cX9_winter 52 = .ok (.iastore, 1) := by decide +kernel
theorem dX9_winter_53 : decode cX9_winter 53 = .ok (.iload 4, 2) := by decide +kernel
theorem dX9_winter_55 : decode cX9_winter 55 = .ok (.iload_n 2, 1) := by decide +kernel
theorem dX9_winter_56 : decode cX9_winter 56 = .ok (.isub, 1) := by decide +kernel
theorem dX9_winter_57 : decode cX9_winter 57 = .ok (.ireturn, 1) := by decide +kernel
theorem dX9_otherAt_0 : decode cX9_otherAt 0 = .ok (.iconst 0, 1) := by decide +kernel
theorem dX9_otherAt_1 : decode cX9_otherAt 1 = .ok (.istore_n 1, 1) := by decide +kernel
theorem dX9_otherAt_2 : decode cX9_otherAt 2 = .ok (.iconst 0, 1) := by decide +kernel
theorem dX9_otherAt_3 : decode cX9_otherAt 3 = .ok (.istore_n 2, 1) := by decide +kernel
theorem dX9_otherAt_4 : decode cX9_otherAt 4 = .ok (.iload_n 2, 1) := by decide +kernel
theorem dX9_otherAt_5 : decode cX9_otherAt 5 = .ok (.aload_n 0, 1) := by decide +kernel
theorem dX9_otherAt_6 : decode cX9_otherAt 6 = .ok (.getfield 59, 3) := by decide +kernel
theorem dX9_otherAt_9 : decode cX9_otherAt 9 = .ok (.if_icmp .ge 48, 3) := by decide +kernel
theorem dX9_otherAt_12 : decode cX9_otherAt 12 = .ok (.aload_n 0, 1) := by decide +kernel
theorem dX9_otherAt_13 : decode cX9_otherAt 13 = .ok (.iload_n 2, 1) := by decide +kernel
theorem dX9_otherAt_14 : decode cX9_otherAt 14 = .ok (.invokevirtual 148, 3) := by decide +kernel
theorem dX9_otherAt_17 : decode cX9_otherAt 17 = .ok (.ifCond .eq 6, 3) := by decide +kernel
theorem dX9_otherAt_20 : decode cX9_otherAt 20 = .ok (.goto 31, 3) := by decide +kernel
theorem dX9_otherAt_23 : decode cX9_otherAt 23 = .ok (.iload_n 1, 1) := by decide +kernel
theorem dX9_otherAt_24 : decode cX9_otherAt 24 = .ok (.aload_n 0, 1) := by decide +kernel
theorem dX9_otherAt_25 : decode cX9_otherAt 25 = .ok (.getfield 200, 3) := by decide +kernel
theorem dX9_otherAt_28 : decode cX9_otherAt 28 = .ok (.if_icmp .eq 18, 3) := by decide +kernel
theorem dX9_otherAt_31 : decode cX9_otherAt 31 = .ok (.aload_n 0, 1) := by decide +kernel
theorem dX9_otherAt_32 : decode cX9_otherAt 32 = .ok (.getfield 55, 3) := by decide +kernel
theorem dX9_otherAt_35 : decode cX9_otherAt 35 = .ok (.iload_n 1, 1) := by decide +kernel
theorem dX9_otherAt_36 : decode cX9_otherAt 36 = .ok (.iaload, 1) := by decide +kernel
theorem dX9_otherAt_37 : decode cX9_otherAt 37 = .ok (.aload_n 0, 1) := by decide +kernel
theorem dX9_otherAt_38 : decode cX9_otherAt 38 = .ok (.getfield 19, 3) := by decide +kernel
theorem dX9_otherAt_41 : decode cX9_otherAt 41 = .ok (.iload_n 2, 1) := by decide +kernel
theorem dX9_otherAt_42 : decode cX9_otherAt 42 = .ok (.iaload, 1) := by decide +kernel
theorem dX9_otherAt_43 : decode cX9_otherAt 43 = .ok (.if_icmp .eq 5, 3) := by decide +kernel
theorem dX9_otherAt_46 : decode cX9_otherAt 46 = .ok (.iload_n 1, 1) := by decide +kernel
theorem dX9_otherAt_47 : decode cX9_otherAt 47 = .ok (.ireturn, 1) := by decide +kernel
theorem dX9_otherAt_48 : decode cX9_otherAt 48 = .ok (.iinc 1 1, 3) := by decide +kernel
theorem dX9_otherAt_51 : decode cX9_otherAt 51 = .ok (.iinc 2 1, 3) := by decide +kernel
theorem dX9_otherAt_54 : decode cX9_otherAt 54 = .ok (.goto (-50), 3) := by decide +kernel
theorem dX9_otherAt_57 : decode cX9_otherAt 57 = .ok (.iload_n 1, 1) := by decide +kernel
theorem dX9_otherAt_58 : decode cX9_otherAt 58 = .ok (.aload_n 0, 1) := by decide +kernel
theorem dX9_otherAt_59 : decode cX9_otherAt 59 = .ok (.getfield 200, 3) := by decide +kernel
theorem dX9_otherAt_62 : decode cX9_otherAt 62 = .ok (.if_icmp .ge 7, 3) := by decide +kernel
theorem dX9_otherAt_65 : decode cX9_otherAt 65 = .ok (.iload_n 1, 1) := by decide +kernel
theorem dX9_otherAt_66 : decode cX9_otherAt 66 = .ok (.goto 5, 3) := by decide +kernel
theorem dX9_otherAt_69 : decode cX9_otherAt 69 = .ok (.bipush (-9), 2) := by decide +kernel
theorem dX9_otherAt_71 : decode cX9_otherAt 71 = .ok (.ireturn, 1) := by decide +kernel
theorem dX9_becomes_0 : decode cX9_becomes 0 = .ok (.aload_n 0, 1) := by decide +kernel
theorem dX9_becomes_1 : decode cX9_becomes 1 = .ok (.iconst 2, 1) := by decide +kernel
theorem dX9_becomes_2 : decode cX9_becomes 2 = .ok (.iconst 1, 1) := by decide +kernel
theorem dX9_becomes_3 : decode cX9_becomes 3 = .ok (.invokevirtual 118, 3) := by decide +kernel
theorem dX9_becomes_6 : decode cX9_becomes 6 = .ok (.bipush (-9), 2) := by decide +kernel
theorem dX9_becomes_8 : decode cX9_becomes 8 = .ok (.istore_n 1, 1) := by decide +kernel
theorem dX9_becomes_9 : decode cX9_becomes 9 = .ok (.iconst 0, 1) := by decide +kernel
theorem dX9_becomes_10 : decode cX9_becomes 10 = .ok (.istore_n 2, 1) := by decide +kernel
theorem dX9_becomes_11 : decode cX9_becomes 11 = .ok (.iconst 1, 1) := by decide +kernel
theorem dX9_becomes_12 : decode cX9_becomes 12 = .ok (.istore_n 3, 1) := by decide +kernel
theorem dX9_becomes_13 : decode cX9_becomes 13 = .ok (.iload_n 3, 1) := by decide +kernel
theorem dX9_becomes_14 : decode cX9_becomes 14 = .ok (.ifCond .eq 46, 3) := by decide +kernel
theorem dX9_becomes_17 : decode cX9_becomes 17 = .ok (.iload_n 1, 1) := by decide +kernel
theorem dX9_becomes_18 : decode cX9_becomes 18 = .ok (.ifCond .ge 42, 3) := by decide +kernel
theorem dX9_becomes_21 : decode cX9_becomes 21 = .ok (.aload_n 0, 1) := by decide +kernel
theorem dX9_becomes_22 : decode cX9_becomes 22 = .ok (.invokevirtual 203, 3) := by decide +kernel
theorem dX9_becomes_25 : decode cX9_becomes 25 = .ok (.ifCond .ge 5, 3) := by decide +kernel
theorem dX9_becomes_28 : decode cX9_becomes 28 = .ok (.iload_n 2, 1) := by decide +kernel
theorem dX9_becomes_29 : decode cX9_becomes 29 = .ok (.istore_n 1, 1) := by decide +kernel
theorem dX9_becomes_30 : decode cX9_becomes 30 = .ok (.aload_n 0, 1) := by decide +kernel
theorem dX9_becomes_31 : decode cX9_becomes 31 = .ok (.getfield 139, 3) := by decide +kernel
theorem dX9_becomes_34 : decode cX9_becomes 34 = .ok (.bipush 8, 2) := by decide +kernel
theorem dX9_becomes_36 : decode cX9_becomes 36 = .ok (.if_icmp .ge 7, 3) := by decide +kernel
theorem dX9_becomes_39 : decode cX9_becomes 39 = .ok (.iconst 1, 1) := by decide +kernel
theorem dX9_becomes_40 : decode cX9_becomes 40 = .ok (.goto 4, 3) := by decide +kernel
theorem dX9_becomes_43 : decode cX9_becomes 43 = .ok (.iconst 0, 1) := by decide +kernel
theorem dX9_becomes_44 : decode cX9_becomes 44 = .ok (.istore_n 3, 1) := by decide +kernel
theorem dX9_becomes_45 : decode cX9_becomes 45 = .ok (.iload_n 3, 1) := by decide +kernel
theorem dX9_becomes_46 : decode cX9_becomes 46 = .ok (.ifCond .eq 8, 3) := by decide +kernel
theorem dX9_becomes_49 : decode cX9_becomes 49 = .ok (.aload_n 0, 1) := by decide +kernel
theorem dX9_becomes_50 : decode cX9_becomes 50 = .ok (.invokevirtual 166, 3) := by decide +kernel
theorem dX9_becomes_53 : decode cX9_becomes 53 = .ok (.pop, 1) := by decide +kernel
theorem dX9_becomes_54 : decode cX9_becomes 54 = .ok (.iinc 2 1, 3) := by decide +kernel
theorem dX9_becomes_57 : decode cX9_becomes 57 = .ok (.goto (-44), 3) := by decide +kernel
theorem dX9_becomes_60 : decode cX9_becomes 60 = .ok (.aload_n 0, 1) := by decide +kernel
theorem dX9_becomes_61 : decode cX9_becomes 61 = .ok (.iconst 2, 1) := by decide +kernel
theorem dX9_becomes_62 : decode cX9_becomes 62 = .ok (.iconst 0, 1) := by decide +kernel
theorem dX9_becomes_63 : decode cX9_becomes 63 = .ok (.invokevirtual 118, 3) := by decide +kernel
theorem dX9_becomes_66 : decode cX9_becomes 66 = .ok (.iload_n 1, 1) := by decide +kernel
theorem dX9_becomes_67 : decode cX9_becomes 67 = .ok (.ireturn, 1) := by decide +kernel
theorem dX9_danger_0 : decode cX9_danger 0 = .ok (.aload_n 0, 1) := by decide +kernel
theorem dX9_danger_1 : decode cX9_danger 1 = .ok (.aload_n 0, 1) := by decide +kernel
theorem dX9_danger_2 : decode cX9_danger 2 = .ok (.invokevirtual 169, 3) := by decide +kernel
theorem dX9_danger_5 : decode cX9_danger 5 = .ok (.invokevirtual 184, 3) := by decide +kernel
theorem dX9_danger_8 : decode cX9_danger 8 = .ok (.aload_n 0, 1) := by decide +kernel
theorem dX9_danger_9 : decode cX9_danger 9 = .ok (.aload_n 0, 1) := by decide +kernel
theorem dX9_danger_10 : decode cX9_danger 10 = .ok (.invokevirtual 181, 3) := by decide +kernel
theorem dX9_danger_13 : decode cX9_danger 13 = .ok (.invokevirtual 184, 3) := by decide +kernel
theorem dX9_danger_16 : decode cX9_danger 16 = .ok (.iconst (-1), 1) := by decide +kernel
theorem dX9_danger_17 : decode cX9_danger 17 = .ok (.ixor, 1) := by decide +kernel
theorem dX9_danger_18 : decode cX9_danger 18 = .ok (.iand, 1) := by decide +kernel
theorem dX9_danger_19 : decode cX9_danger 19 = .ok (.ireturn, 1) := by decide +kernel
theorem dX9_lasts_0 : decode cX9_lasts 0 = .ok (.aload_n 0, 1) := by decide +kernel
theorem dX9_lasts_1 : decode cX9_lasts 1 = .ok (.iload_n 1, 1) := by decide +kernel
theorem dX9_lasts_2 : decode cX9_lasts 2 = .ok (.invokevirtual 102, 3) := by decide +kernel
theorem dX9_lasts_5 : decode cX9_lasts 5 = .ok (.ifCond .ne 9, 3) := by decide +kernel
theorem dX9_lasts_8 : decode cX9_lasts 8 = .ok (.aload_n 0, 1) := by decide +kernel
theorem dX9_lasts_9 : decode cX9_lasts 9 = .ok (.iconst (-1), 1) := by decide +kernel
theorem dX9_lasts_10 : decode cX9_lasts 10 = .ok (.invokevirtual 73, 3) := by decide +kernel
theorem dX9_lasts_13 : decode cX9_lasts 13 = .ok (.ireturn, 1) := by decide +kernel
theorem dX9_lasts_14 : decode cX9_lasts 14 = .ok (.aload_n 0, 1) := by decide +kernel
theorem dX9_lasts_15 : decode cX9_lasts 15 = .ok (.iload_n 1, 1) := by decide +kernel
theorem dX9_lasts_16 : decode cX9_lasts 16 = .ok (.invokevirtual 148, 3) := by decide +kernel
theorem dX9_lasts_19 : decode cX9_lasts 19 = .ok (.ifCond .eq 10, 3) := by decide +kernel
theorem dX9_lasts_22 : decode cX9_lasts 22 = .ok (.aload_n 0, 1) := by decide +kernel
theorem dX9_lasts_23 : decode cX9_lasts 23 = .ok (.bipush (-3), 2) := by decide +kernel
theorem dX9_lasts_25 : decode cX9_lasts 25 = .ok (.invokevirtual 73, 3) := by decide +kernel
theorem dX9_lasts_28 : decode cX9_lasts 28 = .ok (.ireturn, 1) := by decide +kernel
theorem dX9_lasts_29 : decode cX9_lasts 29 = .ok (.aload_n 0, 1) := by decide +kernel
theorem dX9_lasts_30 : decode cX9_lasts 30 = .ok (.getfield 16, 3) := by decide +kernel
theorem dX9_lasts_33 : decode cX9_lasts 33 = .ok (.iload_n 1, 1) := by decide +kernel
theorem dX9_lasts_34 : decode cX9_lasts 34 = .ok (.iaload, 1) := by decide +kernel
theorem dX9_lasts_35 : decode cX9_lasts 35 = .ok (.istore_n 2, 1) := by decide +kernel
theorem dX9_lasts_36 : decode cX9_lasts 36 = .ok (.iconst 0, 1) := by decide +kernel
theorem dX9_lasts_37 : decode cX9_lasts 37 = .ok (.istore_n 3, 1) := by decide +kernel
theorem dX9_lasts_38 : decode cX9_lasts 38 = .ok (.iconst (-1), 1) := by decide +kernel
theorem dX9_lasts_39 : decode cX9_lasts 39 = .ok (.istore 4, 2) := by decide +kernel
theorem dX9_lasts_41 : decode cX9_lasts 41 = .ok (.iconst 0, 1) := by decide +kernel
theorem dX9_lasts_42 : decode cX9_lasts 42 = .ok (.istore 5, 2) := by decide +kernel
theorem dX9_lasts_44 : decode cX9_lasts 44 = .ok (.iload 5, 2) := by decide +kernel
theorem dX9_lasts_46 : decode cX9_lasts 46 = .ok (.iconst 3, 1) := by decide +kernel
theorem dX9_lasts_47 : decode cX9_lasts 47 = .ok (.if_icmp .ge 41, 3) := by decide +kernel
theorem dX9_lasts_50 : decode cX9_lasts 50 = .ok (.aload_n 0, 1) := by decide +kernel
theorem dX9_lasts_51 : decode cX9_lasts 51 = .ok (.getfield 16, 3) := by decide +kernel
theorem dX9_lasts_54 : decode cX9_lasts 54 = .ok (.iload_n 1, 1) := by decide +kernel
theorem dX9_lasts_55 : decode cX9_lasts 55 = .ok (.iload 5, 2) := by decide +kernel
theorem dX9_lasts_57 : decode cX9_lasts 57 = .ok (.iastore, 1) := by decide +kernel
theorem dX9_lasts_58 : decode cX9_lasts 58 = .ok (.aload_n 0, 1) := by decide +kernel
theorem dX9_lasts_59 : decode cX9_lasts 59 = .ok (.iload_n 1, 1) := by decide +kernel
theorem dX9_lasts_60 : decode cX9_lasts 60 = .ok (.invokevirtual 178, 3) := by decide +kernel
theorem dX9_lasts_63 : decode cX9_lasts 63 = .ok (.istore 6, 2) := by decide +kernel
theorem dX9_lasts_65 : decode cX9_lasts 65 = .ok (.iload 6, 2) := by decide +kernel
theorem dX9_lasts_67 : decode cX9_lasts 67 = .ok (.iload 4, 2) := by decide +kernel
theorem dX9_lasts_69 : decode cX9_lasts 69 = .ok (.if_icmp .gt 6, 3) := by decide +kernel
theorem dX9_lasts_72 : decode cX9_lasts 72 = .ok (.goto 10, 3) := by decide +kernel
theorem dX9_lasts_75 : decode cX9_lasts 75 = .ok (.iload 5, 2) := by decide +kernel
theorem dX9_lasts_77 : decode cX9_lasts 77 = .ok (.istore_n 3, 1) := by decide +kernel
theorem dX9_lasts_78 : decode cX9_lasts 78 = .ok (.iload 6, 2) := by decide +kernel
theorem dX9_lasts_80 : decode cX9_lasts 80 = .ok (.istore 4, 2) := by decide +kernel
theorem dX9_lasts_82 : decode cX9_lasts 82 = .ok (.iinc 5 1, 3) := by decide +kernel
theorem dX9_lasts_85 : decode cX9_lasts 85 = .ok (.goto (-41), 3) := by decide +kernel
theorem dX9_lasts_88 : decode cX9_lasts 88 = .ok (.aload_n 0, 1) := by decide +kernel
theorem dX9_lasts_89 : decode cX9_lasts 89 = .ok (.getfield 16, 3) := by decide +kernel
theorem dX9_lasts_92 : decode cX9_lasts 92 = .ok (.iload_n 1, 1) := by decide +kernel
theorem dX9_lasts_93 : decode cX9_lasts 93 = .ok (.iload_n 2, 1) := by decide +kernel
theorem dX9_lasts_94 : decode cX9_lasts 94 = .ok (.iastore, 1) := by decide +kernel
theorem dX9_lasts_95 : decode cX9_lasts 95 = .ok (.iload_n 3, 1) := by decide +kernel
theorem dX9_lasts_96 : decode cX9_lasts 96 = .ok (.ireturn, 1) := by decide +kernel
theorem dX9_mixed_0 : decode cX9_mixed 0 = .ok (.iload_n 1, 1) := by decide +kernel
theorem dX9_mixed_1 : decode cX9_mixed 1 = .ok (.iconst 0, 1) := by decide +kernel
theorem dX9_mixed_2 : decode cX9_mixed 2 = .ok (.bipush 12, 2) := by decide +kernel
theorem dX9_mixed_4 : decode cX9_mixed 4 = .ok (.invokestatic 66, 3) := by decide +kernel
theorem dX9_mixed_7 : decode cX9_mixed 7 = .ok (.istore_n 3, 1) := by decide +kernel
theorem dX9_mixed_8 : decode cX9_mixed 8 = .ok (.iload_n 3, 1) := by decide +kernel
theorem dX9_mixed_9 : decode cX9_mixed 9 = .ok (.ifCond .ne 15, 3) := by decide +kernel
theorem dX9_mixed_12 : decode cX9_mixed 12 = .ok (.iload_n 2, 1) := by decide +kernel
theorem dX9_mixed_13 : decode cX9_mixed 13 = .ok (.iconst 0, 1) := by decide +kernel
theorem dX9_mixed_14 : decode cX9_mixed 14 = .ok (.iconst 1, 1) := by decide +kernel
theorem dX9_mixed_15 : decode cX9_mixed 15 = .ok (.invokestatic 87, 3) := by decide +kernel
theorem dX9_mixed_18 : decode cX9_mixed 18 = .ok (.ifCond .ne 6, 3) := by decide +kernel
theorem dX9_mixed_21 : decode cX9_mixed 21 = .ok (.bipush (-2), 2) := by decide +kernel
theorem dX9_mixed_23 : decode cX9_mixed 23 = .ok (.istore_n 3, 1) := by decide +kernel
theorem dX9_mixed_24 : decode cX9_mixed 24 = .ok (.iload_n 3, 1) := by decide +kernel
theorem dX9_mixed_25 : decode cX9_mixed 25 = .ok (.ifCond .eq 9, 3) := by decide +kernel
theorem dX9_mixed_28 : decode cX9_mixed 28 = .ok (.aload_n 0, 1) := by decide +kernel
theorem dX9_mixed_29 : decode cX9_mixed 29 = .ok (.iload_n 3, 1) := by decide +kernel
theorem dX9_mixed_30 : decode cX9_mixed 30 = .ok (.invokevirtual 73, 3) := by decide +kernel
theorem dX9_mixed_33 : decode cX9_mixed 33 = .ok (.ireturn, 1) := by decide +kernel
theorem dX9_mixed_34 : decode cX9_mixed 34 = .ok (.aload_n 0, 1) := by decide +kernel
theorem dX9_mixed_35 : decode cX9_mixed 35 = .ok (.iconst 2, 1) := by decide +kernel
theorem dX9_mixed_36 : decode cX9_mixed 36 = .ok (.iconst 1, 1) := by decide +kernel
theorem dX9_mixed_37 : decode cX9_mixed 37 = .ok (.invokevirtual 118, 3) := by decide +kernel
theorem dX9_mixed_40 : decode cX9_mixed 40 = .ok (.bipush (-9), 2) := by decide +kernel
theorem dX9_mixed_42 : decode cX9_mixed 42 = .ok (.istore 4, 2) := by decide +kernel
theorem dX9_mixed_44 : decode cX9_mixed 44 = .ok (.iconst 0, 1) := by decide +kernel
theorem dX9_mixed_45 : decode cX9_mixed 45 = .ok (.istore 5, 2) := by decide +kernel
theorem dX9_mixed_47 : decode cX9_mixed 47 = .ok (.iconst 0, 1) := by decide +kernel
theorem dX9_mixed_48 : decode cX9_mixed 48 = .ok (.istore 6, 2) := by decide +kernel
theorem dX9_mixed_50 : decode cX9_mixed 50 = .ok (.iload 6, 2) := by decide +kernel
theorem dX9_mixed_52 : decode cX9_mixed 52 = .ok (.sipush 1000, 3) := by decide +kernel
theorem dX9_mixed_55 : decode cX9_mixed 55 = .ok (.if_icmp .ge 104, 3) := by decide +kernel
theorem dX9_mixed_58 : decode cX9_mixed 58 = .ok (.iload 6, 2) := by decide +kernel
theorem dX9_mixed_60 : decode cX9_mixed 60 = .ok (.bipush 100, 2) := by decide +kernel
theorem dX9_mixed_62 : decode cX9_mixed 62 = .ok (.idiv, 1) := by decide +kernel
theorem dX9_mixed_63 : decode cX9_mixed 63 = .ok (.iload 6, 2) := by decide +kernel
theorem dX9_mixed_65 : decode cX9_mixed 65 = .ok (.bipush 10, 2) := by decide +kernel
theorem dX9_mixed_67 : decode cX9_mixed 67 = .ok (.idiv, 1) := by decide +kernel
theorem dX9_mixed_68 : decode cX9_mixed 68 = .ok (.bipush 10, 2) := by decide +kernel
theorem dX9_mixed_70 : decode cX9_mixed 70 = .ok (.irem, 1) := by decide +kernel
theorem dX9_mixed_71 : decode cX9_mixed 71 = .ok (.iadd, 1) := by decide +kernel
theorem dX9_mixed_72 : decode cX9_mixed 72 = .ok (.iload 6, 2) := by decide +kernel
theorem dX9_mixed_74 : decode cX9_mixed 74 = .ok (.bipush 10, 2) := by decide +kernel
theorem dX9_mixed_76 : decode cX9_mixed 76 = .ok (.irem, 1) := by decide +kernel
theorem dX9_mixed_77 : decode cX9_mixed 77 = .ok (.iadd, 1) := by decide +kernel
theorem dX9_mixed_78 : decode cX9_mixed 78 = .ok (.iload_n 1, 1) := by decide +kernel
theorem dX9_mixed_79 : decode cX9_mixed 79 = .ok (.if_icmp .le 6, 3) := by decide +kernel
theorem dX9_mixed_82 : decode cX9_mixed 82 = .ok (.goto 71, 3) := by decide +kernel
theorem dX9_mixed_85 : decode cX9_mixed 85 = .ok (.aload_n 0, 1) := by decide +kernel
theorem dX9_mixed_86 : decode cX9_mixed 86 = .ok (.getfield 34, 3) := by decide +kernel
theorem dX9_mixed_89 : decode cX9_mixed 89 = .ok (.iconst 0, 1) := by decide +kernel
theorem dX9_mixed_90 : decode cX9_mixed 90 = .ok (.iload 6, 2) := by decide +kernel
theorem dX9_mixed_92 : decode cX9_mixed 92 = .ok (.bipush 100, 2) := by decide +kernel
theorem dX9_mixed_94 : decode cX9_mixed 94 = .ok (.idiv, 1) := by decide +kernel
theorem dX9_mixed_95 : decode cX9_mixed 95 = .ok (.iastore, 1) := by decide +kernel
theorem dX9_mixed_96 : decode cX9_mixed 96 = .ok (.aload_n 0, 1) := by decide +kernel
theorem dX9_mixed_97 : decode cX9_mixed 97 = .ok (.getfield 34, 3) := by decide +kernel
theorem dX9_mixed_100 : decode cX9_mixed 100 = .ok (.iconst 1, 1) := by decide +kernel
theorem dX9_mixed_101 : decode cX9_mixed 101 = .ok (.iload 6, 2) := by decide +kernel
theorem dX9_mixed_103 : decode cX9_mixed 103 = .ok (.bipush 10, 2) := by decide +kernel
theorem dX9_mixed_105 : decode cX9_mixed 105 = .ok (.idiv, 1) := by decide +kernel
theorem dX9_mixed_106 : decode cX9_mixed 106 = .ok (.bipush 10, 2) := by decide +kernel
theorem dX9_mixed_108 : decode cX9_mixed 108 = .ok (.irem, 1) := by decide +kernel
theorem dX9_mixed_109 : decode cX9_mixed 109 = .ok (.iastore, 1) := by decide +kernel
theorem dX9_mixed_110 : decode cX9_mixed 110 = .ok (.aload_n 0, 1) := by decide +kernel
theorem dX9_mixed_111 : decode cX9_mixed 111 = .ok (.getfield 34, 3) := by decide +kernel
theorem dX9_mixed_114 : decode cX9_mixed 114 = .ok (.iconst 2, 1) := by decide +kernel
theorem dX9_mixed_115 : decode cX9_mixed 115 = .ok (.iload 6, 2) := by decide +kernel
theorem dX9_mixed_117 : decode cX9_mixed 117 = .ok (.bipush 10, 2) := by decide +kernel
theorem dX9_mixed_119 : decode cX9_mixed 119 = .ok (.irem, 1) := by decide +kernel
theorem dX9_mixed_120 : decode cX9_mixed 120 = .ok (.iastore, 1) := by decide +kernel
theorem dX9_mixed_121 : decode cX9_mixed 121 = .ok (.aload_n 0, 1) := by decide +kernel
theorem dX9_mixed_122 : decode cX9_mixed 122 = .ok (.invokevirtual 181, 3) := by decide +kernel
theorem dX9_mixed_125 : decode cX9_mixed 125 = .ok (.invokestatic 187, 3) := by decide +kernel
theorem dX9_mixed_128 : decode cX9_mixed 128 = .ok (.istore 7, 2) := by decide +kernel
theorem dX9_mixed_130 : decode cX9_mixed 130 = .ok (.iload 4, 2) := by decide +kernel
theorem dX9_mixed_132 : decode cX9_mixed 132 = .ok (.ifCond .lt 13, 3) := by decide +kernel
theorem dX9_mixed_135 : decode cX9_mixed 135 = .ok (.iload 7, 2) := by decide +kernel
theorem dX9_mixed_137 : decode cX9_mixed 137 = .ok (.iload 5, 2) := by decide +kernel
theorem dX9_mixed_139 : decode cX9_mixed 139 = .ok (.if_icmp .gt 6, 3) := by decide +kernel
theorem dX9_mixed_142 : decode cX9_mixed 142 = .ok (.goto 11, 3) := by decide +kernel
theorem dX9_mixed_145 : decode cX9_mixed 145 = .ok (.iload 6, 2) := by decide +kernel
theorem dX9_mixed_147 : decode cX9_mixed 147 = .ok (.istore 4, 2) := by decide +kernel
theorem dX9_mixed_149 : decode cX9_mixed 149 = .ok (.iload 7, 2) := by decide +kernel
theorem dX9_mixed_151 : decode cX9_mixed 151 = .ok (.istore 5, 2) := by decide +kernel
theorem dX9_mixed_153 : decode cX9_mixed 153 = .ok (.iinc 6 1, 3) := by decide +kernel
theorem dX9_mixed_156 : decode cX9_mixed 156 = .ok (.goto (-106), 3) := by decide +kernel
theorem dX9_mixed_159 : decode cX9_mixed 159 = .ok (.aload_n 0, 1) := by decide +kernel
theorem dX9_mixed_160 : decode cX9_mixed 160 = .ok (.iconst 2, 1) := by decide +kernel
theorem dX9_mixed_161 : decode cX9_mixed 161 = .ok (.iconst 0, 1) := by decide +kernel
theorem dX9_mixed_162 : decode cX9_mixed 162 = .ok (.invokevirtual 118, 3) := by decide +kernel
theorem dX9_mixed_165 : decode cX9_mixed 165 = .ok (.iload_n 2, 1) := by decide +kernel
theorem dX9_mixed_166 : decode cX9_mixed 166 = .ok (.ifCond .ne 8, 3) := by decide +kernel
theorem dX9_mixed_169 : decode cX9_mixed 169 = .ok (.iload 4, 2) := by decide +kernel
theorem dX9_mixed_171 : decode cX9_mixed 171 = .ok (.goto 5, 3) := by decide +kernel
theorem dX9_mixed_174 : decode cX9_mixed 174 = .ok (.iload 5, 2) := by decide +kernel
theorem dX9_mixed_176 : decode cX9_mixed 176 = .ok (.ireturn, 1) := by decide +kernel
theorem dX9_tastes_0 : decode cX9_tastes 0 = .ok (.aload_n 0, 1) := by decide +kernel
theorem dX9_tastes_1 : decode cX9_tastes 1 = .ok (.iload_n 1, 1) := by decide +kernel
theorem dX9_tastes_2 : decode cX9_tastes 2 = .ok (.invokevirtual 172, 3) := by decide +kernel
theorem dX9_tastes_5 : decode cX9_tastes 5 = .ok (.ifCond .eq 11, 3) := by decide +kernel
theorem dX9_tastes_8 : decode cX9_tastes 8 = .ok (.aload_n 0, 1) := by decide +kernel
theorem dX9_tastes_9 : decode cX9_tastes 9 = .ok (.iload_n 2, 1) := by decide +kernel
theorem dX9_tastes_10 : decode cX9_tastes 10 = .ok (.invokevirtual 190, 3) := by decide +kernel
theorem dX9_tastes_13 : decode cX9_tastes 13 = .ok (.ifCond .ne 9, 3) := by decide +kernel
theorem dX9_tastes_16 : decode cX9_tastes 16 = .ok (.aload_n 0, 1) := by decide +kernel
theorem dX9_tastes_17 : decode cX9_tastes 17 = .ok (.iconst (-1), 1) := by decide +kernel
theorem dX9_tastes_18 : decode cX9_tastes 18 = .ok (.invokevirtual 73, 3) := by decide +kernel
theorem dX9_tastes_21 : decode cX9_tastes 21 = .ok (.ireturn, 1) := by decide +kernel
theorem dX9_tastes_22 : decode cX9_tastes 22 = .ok (.aload_n 0, 1) := by decide +kernel
theorem dX9_tastes_23 : decode cX9_tastes 23 = .ok (.getfield 25, 3) := by decide +kernel
theorem dX9_tastes_26 : decode cX9_tastes 26 = .ok (.iload_n 1, 1) := by decide +kernel
theorem dX9_tastes_27 : decode cX9_tastes 27 = .ok (.iaload, 1) := by decide +kernel
theorem dX9_tastes_28 : decode cX9_tastes 28 = .ok (.istore_n 3, 1) := by decide +kernel
theorem dX9_tastes_29 : decode cX9_tastes 29 = .ok (.iconst 0, 1) := by decide +kernel
theorem dX9_tastes_30 : decode cX9_tastes 30 = .ok (.istore 4, 2) := by decide +kernel
theorem dX9_tastes_32 : decode cX9_tastes 32 = .ok (.iconst 0, 1) := by decide +kernel
theorem dX9_tastes_33 : decode cX9_tastes 33 = .ok (.istore 5, 2) := by decide +kernel
theorem dX9_tastes_35 : decode cX9_tastes 35 = .ok (.iload 5, 2) := by decide +kernel
theorem dX9_tastes_37 : decode cX9_tastes 37 = .ok (.bipush 10, 2) := by decide +kernel
theorem dX9_tastes_39 : decode cX9_tastes 39 = .ok (.if_icmp .ge 38, 3) := by decide +kernel
theorem dX9_tastes_42 : decode cX9_tastes 42 = .ok (.aload_n 0, 1) := by decide +kernel
theorem dX9_tastes_43 : decode cX9_tastes 43 = .ok (.getfield 25, 3) := by decide +kernel
theorem dX9_tastes_46 : decode cX9_tastes 46 = .ok (.iload_n 1, 1) := by decide +kernel
theorem dX9_tastes_47 : decode cX9_tastes 47 = .ok (.iload 5, 2) := by decide +kernel
theorem dX9_tastes_49 : decode cX9_tastes 49 = .ok (.iastore, 1) := by decide +kernel
theorem dX9_tastes_50 : decode cX9_tastes 50 = .ok (.iload 4, 2) := by decide +kernel
theorem dX9_tastes_52 : decode cX9_tastes 52 = .ok (.aload_n 0, 1) := by decide +kernel
theorem dX9_tastes_53 : decode cX9_tastes 53 = .ok (.invokevirtual 181, 3) := by decide +kernel
theorem dX9_tastes_56 : decode cX9_tastes 56 = .ok (.iload_n 2, 1) := by decide +kernel
theorem dX9_tastes_57 : decode cX9_tastes 57 = .ok (.if_icmp .ne 10, 3) := by decide +kernel
theorem dX9_tastes_60 : decode cX9_tastes 60 = .ok (.iconst 1, 1) := by decide +kernel
theorem dX9_tastes_61 : decode cX9_tastes 61 = .ok (.iload 5, 2) := by decide +kernel
theorem dX9_tastes_63 : decode cX9_tastes 63 = .ok (.ishl, 1) := by decide +kernel
theorem dX9_tastes_64 : decode cX9_tastes 64 = .ok (.goto 4, 3) := by decide +kernel
theorem dX9_tastes_67 : decode cX9_tastes 67 = .ok (.iconst 0, 1) := by decide +kernel
theorem dX9_tastes_68 : decode cX9_tastes 68 = .ok (.ior, 1) := by decide +kernel
theorem dX9_tastes_69 : decode cX9_tastes 69 = .ok (.istore 4, 2) := by decide +kernel
theorem dX9_tastes_71 : decode cX9_tastes 71 = .ok (.iinc 5 1, 3) := by decide +kernel
theorem dX9_tastes_74 : decode cX9_tastes 74 = .ok (.goto (-39), 3) := by decide +kernel
theorem dX9_tastes_77 : decode cX9_tastes 77 = .ok (.aload_n 0, 1) := by decide +kernel
theorem dX9_tastes_78 : decode cX9_tastes 78 = .ok (.getfield 25, 3) := by decide +kernel
theorem dX9_tastes_81 : decode cX9_tastes 81 = .ok (.iload_n 1, 1) := by decide +kernel
theorem dX9_tastes_82 : decode cX9_tastes 82 = .ok (.iload_n 3, 1) := by decide +kernel
theorem dX9_tastes_83 : decode cX9_tastes 83 = .ok (.iastore, 1) := by decide +kernel
theorem dX9_tastes_84 : decode cX9_tastes 84 = .ok (.iload 4, 2) := by decide +kernel
theorem dX9_tastes_86 : decode cX9_tastes 86 = .ok (.ireturn, 1) := by decide +kernel
theorem dX9_fitting_0 : decode cX9_fitting 0 = .ok (.aload_n 0, 1) := by decide +kernel
theorem dX9_fitting_1 : decode cX9_fitting 1 = .ok (.iload_n 1, 1) := by decide +kernel
theorem dX9_fitting_2 : decode cX9_fitting 2 = .ok (.invokevirtual 172, 3) := by decide +kernel
theorem dX9_fitting_5 : decode cX9_fitting 5 = .ok (.ifCond .eq 11, 3) := by decide +kernel
theorem dX9_fitting_8 : decode cX9_fitting 8 = .ok (.aload_n 0, 1) := by decide +kernel
theorem dX9_fitting_9 : decode cX9_fitting 9 = .ok (.iload_n 2, 1) := by decide +kernel
theorem dX9_fitting_10 : decode cX9_fitting 10 = .ok (.invokevirtual 190, 3) := by decide +kernel
theorem dX9_fitting_13 : decode cX9_fitting 13 = .ok (.ifCond .ne 9, 3) := by decide +kernel
theorem dX9_fitting_16 : decode cX9_fitting 16 = .ok (.aload_n 0, 1) := by decide +kernel
theorem dX9_fitting_17 : decode cX9_fitting 17 = .ok (.iconst (-1), 1) := by decide +kernel
theorem dX9_fitting_18 : decode cX9_fitting 18 = .ok (.invokevirtual 73, 3) := by decide +kernel
theorem dX9_fitting_21 : decode cX9_fitting 21 = .ok (.ireturn, 1) := by decide +kernel
theorem dX9_fitting_22 : decode cX9_fitting 22 = .ok (.aload_n 0, 1) := by decide +kernel
theorem dX9_fitting_23 : decode cX9_fitting 23 = .ok (.getfield 22, 3) := by decide +kernel
theorem dX9_fitting_26 : decode cX9_fitting 26 = .ok (.iload_n 1, 1) := by decide +kernel
theorem dX9_fitting_27 : decode cX9_fitting 27 = .ok (.iaload, 1) := by decide +kernel
theorem dX9_fitting_28 : decode cX9_fitting 28 = .ok (.istore_n 3, 1) := by decide +kernel
theorem dX9_fitting_29 : decode cX9_fitting 29 = .ok (.iconst 0, 1) := by decide +kernel
theorem dX9_fitting_30 : decode cX9_fitting 30 = .ok (.istore 4, 2) := by decide +kernel
theorem dX9_fitting_32 : decode cX9_fitting 32 = .ok (.iconst 0, 1) := by decide +kernel
theorem dX9_fitting_33 : decode cX9_fitting 33 = .ok (.istore 5, 2) := by decide +kernel
theorem dX9_fitting_35 : decode cX9_fitting 35 = .ok (.iload 5, 2) := by decide +kernel
theorem dX9_fitting_37 : decode cX9_fitting 37 = .ok (.bipush 6, 2) := by decide +kernel
theorem dX9_fitting_39 : decode cX9_fitting 39 = .ok (.if_icmp .ge 38, 3) := by decide +kernel
theorem dX9_fitting_42 : decode cX9_fitting 42 = .ok (.aload_n 0, 1) := by decide +kernel
theorem dX9_fitting_43 : decode cX9_fitting 43 = .ok (.getfield 22, 3) := by decide +kernel
theorem dX9_fitting_46 : decode cX9_fitting 46 = .ok (.iload_n 1, 1) := by decide +kernel
theorem dX9_fitting_47 : decode cX9_fitting 47 = .ok (.iload 5, 2) := by decide +kernel
theorem dX9_fitting_49 : decode cX9_fitting 49 = .ok (.iastore, 1) := by decide +kernel
theorem dX9_fitting_50 : decode cX9_fitting 50 = .ok (.iload 4, 2) := by decide +kernel
theorem dX9_fitting_52 : decode cX9_fitting 52 = .ok (.aload_n 0, 1) := by decide +kernel
theorem dX9_fitting_53 : decode cX9_fitting 53 = .ok (.invokevirtual 181, 3) := by decide +kernel
theorem dX9_fitting_56 : decode cX9_fitting 56 = .ok (.iload_n 2, 1) := by decide +kernel
theorem dX9_fitting_57 : decode cX9_fitting 57 = .ok (.if_icmp .ne 10, 3) := by decide +kernel
theorem dX9_fitting_60 : decode cX9_fitting 60 = .ok (.iconst 1, 1) := by decide +kernel
theorem dX9_fitting_61 : decode cX9_fitting 61 = .ok (.iload 5, 2) := by decide +kernel
theorem dX9_fitting_63 : decode cX9_fitting 63 = .ok (.ishl, 1) := by decide +kernel
theorem dX9_fitting_64 : decode cX9_fitting 64 = .ok (.goto 4, 3) := by decide +kernel
theorem dX9_fitting_67 : decode cX9_fitting 67 = .ok (.iconst 0, 1) := by decide +kernel
theorem dX9_fitting_68 : decode cX9_fitting 68 = .ok (.ior, 1) := by decide +kernel
theorem dX9_fitting_69 : decode cX9_fitting 69 = .ok (.istore 4, 2) := by decide +kernel
theorem dX9_fitting_71 : decode cX9_fitting 71 = .ok (.iinc 5 1, 3) := by decide +kernel
theorem dX9_fitting_74 : decode cX9_fitting 74 = .ok (.goto (-39), 3) := by decide +kernel
theorem dX9_fitting_77 : decode cX9_fitting 77 = .ok (.aload_n 0, 1) := by decide +kernel
theorem dX9_fitting_78 : decode cX9_fitting 78 = .ok (.getfield 22, 3) := by decide +kernel
theorem dX9_fitting_81 : decode cX9_fitting 81 = .ok (.iload_n 1, 1) := by decide +kernel
theorem dX9_fitting_82 : decode cX9_fitting 82 = .ok (.iload_n 3, 1) := by decide +kernel
theorem dX9_fitting_83 : decode cX9_fitting 83 = .ok (.iastore, 1) := by decide +kernel
theorem dX9_fitting_84 : decode cX9_fitting 84 = .ok (.iload 4, 2) := by decide +kernel
theorem dX9_fitting_86 : decode cX9_fitting 86 = .ok (.ireturn, 1) := by decide +kernel
theorem dX9_row_0 : decode cX9_row 0 = .ok (.iload_n 1, 1) := by decide +kernel
theorem dX9_row_1 : decode cX9_row 1 = .ok (.iconst 0, 1) := by decide +kernel
theorem dX9_row_2 : decode cX9_row 2 = .ok (.bipush 9, 2) := by decide +kernel
theorem dX9_row_4 : decode cX9_row 4 = .ok (.invokestatic 66, 3) := by decide +kernel
theorem dX9_row_7 : decode cX9_row 7 = .ok (.istore_n 2, 1) := by decide +kernel
theorem dX9_row_8 : decode cX9_row 8 = .ok (.iload_n 2, 1) := by decide +kernel
theorem dX9_row_9 : decode cX9_row 9 = .ok (.ifCond .ne 15, 3) := by decide +kernel
theorem dX9_row_12 : decode cX9_row 12 = .ok (.aload_n 0, 1) := by decide +kernel
theorem dX9_row_13 : decode cX9_row 13 = .ok (.getfield 200, 3) := by decide +kernel
theorem dX9_row_16 : decode cX9_row 16 = .ok (.bipush 10, 2) := by decide +kernel
theorem dX9_row_18 : decode cX9_row 18 = .ok (.if_icmp .ne 6, 3) := by decide +kernel
theorem dX9_row_21 : decode cX9_row 21 = .ok (.bipush (-6), 2) := by decide +kernel
theorem dX9_row_23 : decode cX9_row 23 = .ok (.istore_n 2, 1) := by decide +kernel
theorem dX9_row_24 : decode cX9_row 24 = .ok (.iload_n 2, 1) := by decide +kernel
theorem dX9_row_25 : decode cX9_row 25 = .ok (.ifCond .eq 9, 3) := by decide +kernel
theorem dX9_row_28 : decode cX9_row 28 = .ok (.aload_n 0, 1) := by decide +kernel
theorem dX9_row_29 : decode cX9_row 29 = .ok (.iload_n 2, 1) := by decide +kernel
theorem dX9_row_30 : decode cX9_row 30 = .ok (.invokevirtual 73, 3) := by decide +kernel
theorem dX9_row_33 : decode cX9_row 33 = .ok (.ireturn, 1) := by decide +kernel
theorem dX9_row_34 : decode cX9_row 34 = .ok (.aload_n 0, 1) := by decide +kernel
theorem dX9_row_35 : decode cX9_row 35 = .ok (.getfield 55, 3) := by decide +kernel
theorem dX9_row_38 : decode cX9_row 38 = .ok (.aload_n 0, 1) := by decide +kernel
theorem dX9_row_39 : decode cX9_row 39 = .ok (.getfield 200, 3) := by decide +kernel
theorem dX9_row_42 : decode cX9_row 42 = .ok (.iload_n 1, 1) := by decide +kernel
theorem dX9_row_43 : decode cX9_row 43 = .ok (.iastore, 1) := by decide +kernel
theorem dX9_row_44 : decode cX9_row 44 = .ok (.aload_n 0, 1) := by decide +kernel
theorem dX9_row_45 : decode cX9_row 45 = .ok (.dup, 1) := by decide +kernel
theorem dX9_row_46 : decode cX9_row 46 = .ok (.getfield 200, 3) := by decide +kernel
theorem dX9_row_49 : decode cX9_row 49 = .ok (.iconst 1, 1) := by decide +kernel
theorem dX9_row_50 : decode cX9_row 50 = .ok (.iadd, 1) := by decide +kernel
theorem dX9_row_51 : decode cX9_row 51 = .ok (.putfield 200, 3) := by decide +kernel
theorem dX9_row_54 : decode cX9_row 54 = .ok (.aload_n 0, 1) := by decide +kernel
theorem dX9_row_55 : decode cX9_row 55 = .ok (.getfield 200, 3) := by decide +kernel
theorem dX9_row_58 : decode cX9_row 58 = .ok (.ireturn, 1) := by decide +kernel
theorem dX9_judge_0 : decode cX9_judge 0 = .ok (.aload_n 0, 1) := by decide +kernel
theorem dX9_judge_1 : decode cX9_judge 1 = .ok (.invokevirtual 203, 3) := by decide +kernel
theorem dX9_judge_4 : decode cX9_judge 4 = .ok (.istore_n 1, 1) := by decide +kernel
theorem dX9_judge_5 : decode cX9_judge 5 = .ok (.aload_n 0, 1) := by decide +kernel
theorem dX9_judge_6 : decode cX9_judge 6 = .ok (.iconst 0, 1) := by decide +kernel
theorem dX9_judge_7 : decode cX9_judge 7 = .ok (.putfield 200, 3) := by decide +kernel
theorem dX9_judge_10 : decode cX9_judge 10 = .ok (.iload_n 1, 1) := by decide +kernel
theorem dX9_judge_11 : decode cX9_judge 11 = .ok (.ireturn, 1) := by decide +kernel
theorem dX9_seeds_0 : decode cX9_seeds 0 = .ok (.iload_n 1, 1) := by decide +kernel
theorem dX9_seeds_1 : decode cX9_seeds 1 = .ok (.iconst 1, 1) := by decide +kernel
theorem dX9_seeds_2 : decode cX9_seeds 2 = .ok (.bipush 20, 2) := by decide +kernel
theorem dX9_seeds_4 : decode cX9_seeds 4 = .ok (.invokestatic 66, 3) := by decide +kernel
theorem dX9_seeds_7 : decode cX9_seeds 7 = .ok (.istore_n 3, 1) := by decide +kernel
theorem dX9_seeds_8 : decode cX9_seeds 8 = .ok (.iload_n 3, 1) := by decide +kernel
theorem dX9_seeds_9 : decode cX9_seeds 9 = .ok (.ifCond .eq 9, 3) := by decide +kernel
theorem dX9_seeds_12 : decode cX9_seeds 12 = .ok (.aload_n 0, 1) := by decide +kernel
theorem dX9_seeds_13 : decode cX9_seeds 13 = .ok (.iload_n 3, 1) := by decide +kernel
theorem dX9_seeds_14 : decode cX9_seeds 14 = .ok (.invokevirtual 73, 3) := by decide +kernel
theorem dX9_seeds_17 : decode cX9_seeds 17 = .ok (.ireturn, 1) := by decide +kernel
theorem dX9_seeds_18 : decode cX9_seeds 18 = .ok (.aload_n 0, 1) := by decide +kernel
theorem dX9_seeds_19 : decode cX9_seeds 19 = .ok (.iconst 2, 1) := by decide +kernel
theorem dX9_seeds_20 : decode cX9_seeds 20 = .ok (.iconst 1, 1) := by decide +kernel
theorem dX9_seeds_21 : decode cX9_seeds 21 = .ok (.invokevirtual 118, 3) := by decide +kernel
theorem dX9_seeds_24 : decode cX9_seeds 24 = .ok (.iload_n 2, 1) := by decide +kernel
theorem dX9_seeds_25 : decode cX9_seeds 25 = .ok (.istore 4, 2) := by decide +kernel
theorem dX9_seeds_27 : decode cX9_seeds 27 = .ok (.iconst 0, 1) := by decide +kernel
theorem dX9_seeds_28 : decode cX9_seeds 28 = .ok (.istore 5, 2) := by decide +kernel
theorem dX9_seeds_30 : decode cX9_seeds 30 = .ok (.iconst 0, 1) := by decide +kernel
theorem dX9_seeds_31 : decode cX9_seeds 31 = .ok (.istore 6, 2) := by decide +kernel
theorem dX9_seeds_33 : decode cX9_seeds 33 = .ok (.iload 6, 2) := by decide +kernel
theorem dX9_seeds_35 : decode cX9_seeds 35 = .ok (.iload_n 1, 1) := by decide +kernel
theorem dX9_seeds_36 : decode cX9_seeds 36 = .ok (.if_icmp .ge 68, 3) := by decide +kernel
theorem dX9_seeds_39 : decode cX9_seeds 39 = .ok (.iconst 0, 1) := by decide +kernel
theorem dX9_seeds_40 : decode cX9_seeds 40 = .ok (.istore 7, 2) := by decide +kernel
theorem dX9_seeds_42 : decode cX9_seeds 42 = .ok (.iload 7, 2) := by decide +kernel
theorem dX9_seeds_44 : decode cX9_seeds 44 = .ok (.aload_n 0, 1) := by decide +kernel
theorem dX9_seeds_45 : decode cX9_seeds 45 = .ok (.getfield 63, 3) := by decide +kernel
theorem dX9_seeds_48 : decode cX9_seeds 48 = .ok (.if_icmp .ge 38, 3) := by decide +kernel
theorem dX9_seeds_51 : decode cX9_seeds 51 = .ok (.iload 4, 2) := by decide +kernel
theorem dX9_seeds_53 : decode cX9_seeds 53 = .ok (.ldc 206, 2) := by decide +kernel
theorem dX9_seeds_55 : decode cX9_seeds 55 = .ok (.imul, 1) := by decide +kernel
theorem dX9_seeds_56 : decode cX9_seeds 56 = .ok (.ldc 207, 2) := by decide +kernel
theorem dX9_seeds_58 : decode cX9_seeds 58 = .ok (.iadd, 1) := by decide +kernel
theorem dX9_seeds_59 : decode cX9_seeds 59 = .ok (.istore 4, 2) := by decide +kernel
theorem dX9_seeds_61 : decode cX9_seeds 61 = .ok (.aload_n 0, 1) := by decide +kernel
theorem dX9_seeds_62 : decode cX9_seeds 62 = .ok (.getfield 25, 3) := by decide +kernel
theorem dX9_seeds_65 : decode cX9_seeds 65 = .ok (.iload 7, 2) := by decide +kernel
theorem dX9_seeds_67 : decode cX9_seeds 67 = .ok (.iload 4, 2) := by decide +kernel
theorem dX9_seeds_69 : decode cX9_seeds 69 = .ok (.ldc 208, 2) := by decide +kernel
theorem dX9_seeds_71 : decode cX9_seeds 71 = .ok (.iand, 1) := by decide +kernel
theorem dX9_seeds_72 : decode cX9_seeds 72 = .ok (.sipush 256, 3) := by decide +kernel
theorem dX9_seeds_75 : decode cX9_seeds 75 = .ok (.idiv, 1) := by decide +kernel
theorem dX9_seeds_76 : decode cX9_seeds 76 = .ok (.bipush 10, 2) := by decide +kernel
theorem dX9_seeds_78 : decode cX9_seeds 78 = .ok (.irem, 1) := by decide +kernel
theorem dX9_seeds_79 : decode cX9_seeds 79 = .ok (.iastore, 1) := by decide +kernel
theorem dX9_seeds_80 : decode cX9_seeds 80 = .ok (.iinc 7 1, 3) := by decide +kernel
theorem dX9_seeds_83 : decode cX9_seeds 83 = .ok (.goto (-41), 3) := by decide +kernel
theorem dX9_seeds_86 : decode cX9_seeds 86 = .ok (.iload 5, 2) := by decide +kernel
theorem dX9_seeds_88 : decode cX9_seeds 88 = .ok (.aload_n 0, 1) := by decide +kernel
theorem dX9_seeds_89 : decode cX9_seeds 89 = .ok (.invokevirtual 181, 3) := by decide +kernel
theorem dX9_seeds_92 : decode cX9_seeds 92 = .ok (.invokestatic 187, 3) := by decide +kernel
theorem dX9_seeds_95 : decode cX9_seeds 95 = .ok (.iadd, 1) := by decide +kernel
theorem dX9_seeds_96 : decode cX9_seeds 96 = .ok (.istore 5, 2) := by decide +kernel
theorem dX9_seeds_98 : decode cX9_seeds 98 = .ok (.iinc 6 1, 3) := by decide +kernel
theorem dX9_seeds_101 : decode cX9_seeds 101 = .ok (.goto (-68), 3) := by decide +kernel
theorem dX9_seeds_104 : decode cX9_seeds 104 = .ok (.aload_n 0, 1) := by decide +kernel
theorem dX9_seeds_105 : decode cX9_seeds 105 = .ok (.iconst 2, 1) := by decide +kernel
theorem dX9_seeds_106 : decode cX9_seeds 106 = .ok (.iconst 0, 1) := by decide +kernel
theorem dX9_seeds_107 : decode cX9_seeds 107 = .ok (.invokevirtual 118, 3) := by decide +kernel
theorem dX9_seeds_110 : decode cX9_seeds 110 = .ok (.iload 5, 2) := by decide +kernel
theorem dX9_seeds_112 : decode cX9_seeds 112 = .ok (.ireturn, 1) := by decide +kernel
theorem dX9_count_0 : decode cX9_count 0 = .ok (.iload_n 1, 1) := by decide +kernel
theorem dX9_count_1 : decode cX9_count 1 = .ok (.bipush 11, 2) := by decide +kernel
theorem dX9_count_3 : decode cX9_count 3 = .ok (.bipush 16, 2) := by decide +kernel
theorem dX9_count_5 : decode cX9_count 5 = .ok (.invokestatic 87, 3) := by decide +kernel
theorem dX9_count_8 : decode cX9_count 8 = .ok (.ifCond .eq 13, 3) := by decide +kernel
theorem dX9_count_11 : decode cX9_count 11 = .ok (.aload_n 0, 1) := by decide +kernel
theorem dX9_count_12 : decode cX9_count 12 = .ok (.getfield 7, 3) := by decide +kernel
theorem dX9_count_15 : decode cX9_count 15 = .ok (.iload_n 1, 1) := by decide +kernel
theorem dX9_count_16 : decode cX9_count 16 = .ok (.bipush 10, 2) := by decide +kernel
theorem dX9_count_18 : decode cX9_count 18 = .ok (.isub, 1) := by decide +kernel
theorem dX9_count_19 : decode cX9_count 19 = .ok (.iaload, 1) := by decide +kernel
theorem dX9_count_20 : decode cX9_count 20 = .ok (.ireturn, 1) := by decide +kernel
theorem dX9_count_21 : decode cX9_count 21 = .ok (.iconst 0, 1) := by decide +kernel
theorem dX9_count_22 : decode cX9_count 22 = .ok (.istore_n 2, 1) := by decide +kernel
theorem dX9_count_23 : decode cX9_count 23 = .ok (.iload_n 1, 1) := by decide +kernel
theorem dX9_count_24 : decode cX9_count 24 = .ok (.tableswitch 115 0 6 #[44, 49, 54, 59, 67, 105, 110], 44) := by decide +kernel
theorem dX9_count_68 : decode cX9_count 68 = .ok (.aload_n 0, 1) := by decide +kernel
theorem dX9_count_69 : decode cX9_count 69 = .ok (.getfield 59, 3) := by decide +kernel
theorem dX9_count_72 : decode cX9_count 72 = .ok (.ireturn, 1) := by decide +kernel
theorem dX9_count_73 : decode cX9_count 73 = .ok (.aload_n 0, 1) := by decide +kernel
theorem dX9_count_74 : decode cX9_count 74 = .ok (.getfield 63, 3) := by decide +kernel
theorem dX9_count_77 : decode cX9_count 77 = .ok (.ireturn, 1) := by decide +kernel
theorem dX9_count_78 : decode cX9_count 78 = .ok (.aload_n 0, 1) := by decide +kernel
theorem dX9_count_79 : decode cX9_count 79 = .ok (.getfield 139, 3) := by decide +kernel
theorem dX9_count_82 : decode cX9_count 82 = .ok (.ireturn, 1) := by decide +kernel
theorem dX9_count_83 : decode cX9_count 83 = .ok (.aload_n 0, 1) := by decide +kernel
theorem dX9_count_84 : decode cX9_count 84 = .ok (.getfield 142, 3) := by decide +kernel
theorem dX9_count_87 : decode cX9_count 87 = .ok (.invokestatic 187, 3) := by decide +kernel
theorem dX9_count_90 : decode cX9_count 90 = .ok (.ireturn, 1) := by decide +kernel
theorem dX9_count_91 : decode cX9_count 91 = .ok (.iconst 0, 1) := by decide +kernel
theorem dX9_count_92 : decode cX9_count 92 = .ok (.istore_n 3, 1) := by decide +kernel
theorem dX9_count_93 : decode cX9_count 93 = .ok (.iload_n 3, 1) := by decide +kernel
theorem dX9_count_94 : decode cX9_count 94 = .ok (.aload_n 0, 1) := by decide +kernel
theorem dX9_count_95 : decode cX9_count 95 = .ok (.getfield 59, 3) := by decide +kernel
theorem dX9_count_98 : decode cX9_count 98 = .ok (.if_icmp .ge 29, 3) := by decide +kernel
theorem dX9_count_101 : decode cX9_count 101 = .ok (.iload_n 2, 1) := by decide +kernel
theorem dX9_count_102 : decode cX9_count 102 = .ok (.aload_n 0, 1) := by decide +kernel
theorem dX9_count_103 : decode cX9_count 103 = .ok (.iload_n 3, 1) := by decide +kernel
theorem dX9_count_104 : decode cX9_count 104 = .ok (.invokevirtual 148, 3) := by decide +kernel
theorem dX9_count_107 : decode cX9_count 107 = .ok (.ifCond .eq 7, 3) := by decide +kernel
theorem dX9_count_110 : decode cX9_count 110 = .ok (.iconst 0, 1) := by decide +kernel
theorem dX9_count_111 : decode cX9_count 111 = .ok (.goto 8, 3) := by decide +kernel
theorem dX9_count_114 : decode cX9_count 114 = .ok (.aload_n 0, 1) := by decide +kernel
theorem dX9_count_115 : decode cX9_count 115 = .ok (.iload_n 3, 1) := by decide +kernel
theorem dX9_count_116 : decode cX9_count 116 = .ok (.invokevirtual 151, 3) := by decide +kernel
theorem dX9_count_119 : decode cX9_count 119 = .ok (.iadd, 1) := by decide +kernel
theorem dX9_count_120 : decode cX9_count 120 = .ok (.istore_n 2, 1) := by decide +kernel
theorem dX9_count_121 : decode cX9_count 121 = .ok (.iinc 3 1, 3) := by decide +kernel
theorem dX9_count_124 : decode cX9_count 124 = .ok (.goto (-31), 3) := by decide +kernel
theorem dX9_count_127 : decode cX9_count 127 = .ok (.iload_n 2, 1) := by decide +kernel
theorem dX9_count_128 : decode cX9_count 128 = .ok (.ireturn, 1) := by decide +kernel
theorem dX9_count_129 : decode cX9_count 129 = .ok (.aload_n 0, 1) := by decide +kernel
theorem dX9_count_130 : decode cX9_count 130 = .ok (.getfield 200, 3) := by decide +kernel
theorem dX9_count_133 : decode cX9_count 133 = .ok (.ireturn, 1) := by decide +kernel
theorem dX9_count_134 : decode cX9_count 134 = .ok (.aload_n 0, 1) := by decide +kernel
theorem dX9_count_135 : decode cX9_count 135 = .ok (.getfield 70, 3) := by decide +kernel
theorem dX9_count_138 : decode cX9_count 138 = .ok (.ireturn, 1) := by decide +kernel
theorem dX9_count_139 : decode cX9_count 139 = .ok (.bipush (-9), 2) := by decide +kernel
theorem dX9_count_141 : decode cX9_count 141 = .ok (.ireturn, 1) := by decide +kernel
theorem dJ6_bitCount_0f7a4_0 : decode cJ6_bitCount_0f7a4 0 = .ok (.iload_n 0, 1) := by decide +kernel
theorem dJ6_bitCount_0f7a4_1 : decode cJ6_bitCount_0f7a4 1 = .ok (.iload_n 0, 1) := by decide +kernel
theorem dJ6_bitCount_0f7a4_2 : decode cJ6_bitCount_0f7a4 2 = .ok (.iconst 1, 1) := by decide +kernel
theorem dJ6_bitCount_0f7a4_3 : decode cJ6_bitCount_0f7a4 3 = .ok (.iushr, 1) := by decide +kernel
theorem dJ6_bitCount_0f7a4_4 : decode cJ6_bitCount_0f7a4 4 = .ok (.ldc_w 265, 3) := by decide +kernel
theorem dJ6_bitCount_0f7a4_7 : decode cJ6_bitCount_0f7a4 7 = .ok (.iand, 1) := by decide +kernel
theorem dJ6_bitCount_0f7a4_8 : decode cJ6_bitCount_0f7a4 8 = .ok (.isub, 1) := by decide +kernel
theorem dJ6_bitCount_0f7a4_9 : decode cJ6_bitCount_0f7a4 9 = .ok (.istore_n 0, 1) := by decide +kernel
theorem dJ6_bitCount_0f7a4_10 : decode cJ6_bitCount_0f7a4 10 = .ok (.iload_n 0, 1) := by decide +kernel
theorem dJ6_bitCount_0f7a4_11 : decode cJ6_bitCount_0f7a4 11 = .ok (.ldc_w 266, 3) := by decide +kernel
theorem dJ6_bitCount_0f7a4_14 : decode cJ6_bitCount_0f7a4 14 = .ok (.iand, 1) := by decide +kernel
theorem dJ6_bitCount_0f7a4_15 : decode cJ6_bitCount_0f7a4 15 = .ok (.iload_n 0, 1) := by decide +kernel
theorem dJ6_bitCount_0f7a4_16 : decode cJ6_bitCount_0f7a4 16 = .ok (.iconst 2, 1) := by decide +kernel
theorem dJ6_bitCount_0f7a4_17 : decode cJ6_bitCount_0f7a4 17 = .ok (.iushr, 1) := by decide +kernel
theorem dJ6_bitCount_0f7a4_18 : decode cJ6_bitCount_0f7a4 18 = .ok (.ldc_w 266, 3) := by decide +kernel
theorem dJ6_bitCount_0f7a4_21 : decode cJ6_bitCount_0f7a4 21 = .ok (.iand, 1) := by decide +kernel
theorem dJ6_bitCount_0f7a4_22 : decode cJ6_bitCount_0f7a4 22 = .ok (.iadd, 1) := by decide +kernel
theorem dJ6_bitCount_0f7a4_23 : decode cJ6_bitCount_0f7a4 23 = .ok (.istore_n 0, 1) := by decide +kernel
theorem dJ6_bitCount_0f7a4_24 : decode cJ6_bitCount_0f7a4 24 = .ok (.iload_n 0, 1) := by decide +kernel
theorem dJ6_bitCount_0f7a4_25 : decode cJ6_bitCount_0f7a4 25 = .ok (.iload_n 0, 1) := by decide +kernel
theorem dJ6_bitCount_0f7a4_26 : decode cJ6_bitCount_0f7a4 26 = .ok (.iconst 4, 1) := by decide +kernel
theorem dJ6_bitCount_0f7a4_27 : decode cJ6_bitCount_0f7a4 27 = .ok (.iushr, 1) := by decide +kernel
theorem dJ6_bitCount_0f7a4_28 : decode cJ6_bitCount_0f7a4 28 = .ok (.iadd, 1) := by decide +kernel
theorem dJ6_bitCount_0f7a4_29 : decode cJ6_bitCount_0f7a4 29 = .ok (.ldc_w 267, 3) := by decide +kernel
theorem dJ6_bitCount_0f7a4_32 : decode cJ6_bitCount_0f7a4 32 = .ok (.iand, 1) := by decide +kernel
theorem dJ6_bitCount_0f7a4_33 : decode cJ6_bitCount_0f7a4 33 = .ok (.istore_n 0, 1) := by decide +kernel
theorem dJ6_bitCount_0f7a4_34 : decode cJ6_bitCount_0f7a4 34 = .ok (.iload_n 0, 1) := by decide +kernel
theorem dJ6_bitCount_0f7a4_35 : decode cJ6_bitCount_0f7a4 35 = .ok (.iload_n 0, 1) := by decide +kernel
theorem dJ6_bitCount_0f7a4_36 : decode cJ6_bitCount_0f7a4 36 = .ok (.bipush 8, 2) := by decide +kernel
theorem dJ6_bitCount_0f7a4_38 : decode cJ6_bitCount_0f7a4 38 = .ok (.iushr, 1) := by decide +kernel
theorem dJ6_bitCount_0f7a4_39 : decode cJ6_bitCount_0f7a4 39 = .ok (.iadd, 1) := by decide +kernel
theorem dJ6_bitCount_0f7a4_40 : decode cJ6_bitCount_0f7a4 40 = .ok (.istore_n 0, 1) := by decide +kernel
theorem dJ6_bitCount_0f7a4_41 : decode cJ6_bitCount_0f7a4 41 = .ok (.iload_n 0, 1) := by decide +kernel
theorem dJ6_bitCount_0f7a4_42 : decode cJ6_bitCount_0f7a4 42 = .ok (.iload_n 0, 1) := by decide +kernel
theorem dJ6_bitCount_0f7a4_43 : decode cJ6_bitCount_0f7a4 43 = .ok (.bipush 16, 2) := by decide +kernel
theorem dJ6_bitCount_0f7a4_45 : decode cJ6_bitCount_0f7a4 45 = .ok (.iushr, 1) := by decide +kernel
theorem dJ6_bitCount_0f7a4_46 : decode cJ6_bitCount_0f7a4 46 = .ok (.iadd, 1) := by decide +kernel
theorem dJ6_bitCount_0f7a4_47 : decode cJ6_bitCount_0f7a4 47 = .ok (.istore_n 0, 1) := by decide +kernel
theorem dJ6_bitCount_0f7a4_48 : decode cJ6_bitCount_0f7a4 48 = .ok (.iload_n 0, 1) := by decide +kernel
theorem dJ6_bitCount_0f7a4_49 : decode cJ6_bitCount_0f7a4 49 = .ok (.bipush 63, 2) := by decide +kernel
theorem dJ6_bitCount_0f7a4_51 : decode cJ6_bitCount_0f7a4 51 = .ok (.iand, 1) := by decide +kernel
theorem dJ6_bitCount_0f7a4_52 : decode cJ6_bitCount_0f7a4 52 = .ok (.ireturn, 1) := by decide +kernel
theorem dJ0_length_8abf5_0 : decode cJ0_length_8abf5 0 = .ok (.aload_n 0, 1) := by decide +kernel
theorem dJ0_length_8abf5_1 : decode cJ0_length_8abf5 1 = .ok (.getfield 9, 3) := by decide +kernel
theorem dJ0_length_8abf5_4 : decode cJ0_length_8abf5 4 = .ok (.arraylength, 1) := by decide +kernel
theorem dJ0_length_8abf5_5 : decode cJ0_length_8abf5 5 = .ok (.aload_n 0, 1) := by decide +kernel
theorem dJ0_length_8abf5_6 : decode cJ0_length_8abf5 6 = .ok (.invokevirtual 335, 3) := by decide +kernel
theorem dJ0_length_8abf5_9 : decode cJ0_length_8abf5 9 = .ok (.ishr, 1) := by decide +kernel
theorem dJ0_length_8abf5_10 : decode cJ0_length_8abf5 10 = .ok (.ireturn, 1) := by decide +kernel
theorem dJ0_isEmpty_aae02_0 : decode cJ0_isEmpty_aae02 0 = .ok (.aload_n 0, 1) := by decide +kernel
theorem dJ0_isEmpty_aae02_1 : decode cJ0_isEmpty_aae02 1 = .ok (.getfield 9, 3) := by decide +kernel
theorem dJ0_isEmpty_aae02_4 : decode cJ0_isEmpty_aae02 4 = .ok (.arraylength, 1) := by decide +kernel
theorem dJ0_isEmpty_aae02_5 : decode cJ0_isEmpty_aae02 5 = .ok (.ifCond .ne 7, 3) := by decide +kernel
theorem dJ0_isEmpty_aae02_8 : decode cJ0_isEmpty_aae02 8 = .ok (.iconst 1, 1) := by decide +kernel
theorem dJ0_isEmpty_aae02_9 : decode cJ0_isEmpty_aae02 9 = .ok (.goto 4, 3) := by decide +kernel
theorem dJ0_isEmpty_aae02_12 : decode cJ0_isEmpty_aae02 12 = .ok (.iconst 0, 1) := by decide +kernel
theorem dJ0_isEmpty_aae02_13 : decode cJ0_isEmpty_aae02 13 = .ok (.ireturn, 1) := by decide +kernel
theorem dJ0_charAt_5068e_0 : decode cJ0_charAt_5068e 0 = .ok (.aload_n 0, 1) := by decide +kernel
theorem dJ0_charAt_5068e_1 : decode cJ0_charAt_5068e 1 = .ok (.invokevirtual 492, 3) := by decide +kernel
theorem dJ0_charAt_5068e_4 : decode cJ0_charAt_5068e 4 = .ok (.ifCond .eq 12, 3) := by decide +kernel
theorem dJ0_charAt_5068e_7 : decode cJ0_charAt_5068e 7 = .ok (.aload_n 0, 1) := by decide +kernel
theorem dJ0_charAt_5068e_8 : decode cJ0_charAt_5068e 8 = .ok (.getfield 9, 3) := by decide +kernel
theorem dJ0_charAt_5068e_11 : decode cJ0_charAt_5068e 11 = .ok (.iload_n 1, 1) := by decide +kernel
theorem dJ0_charAt_5068e_12 : decode cJ0_charAt_5068e 12 = .ok (.invokestatic 495, 3) := by decide +kernel
theorem dJ0_charAt_5068e_15 : decode cJ0_charAt_5068e 15 = .ok (.ireturn, 1) := by decide +kernel
theorem dJ0_charAt_5068e_16 : decode cJ0_charAt_5068e 16 = .ok (.aload_n 0, 1) := by decide +kernel
theorem dJ0_charAt_5068e_17 : decode cJ0_charAt_5068e 17 = .ok (.getfield 9, 3) := by decide +kernel
theorem dJ0_charAt_5068e_20 : decode cJ0_charAt_5068e 20 = .ok (.iload_n 1, 1) := by decide +kernel
theorem dJ0_charAt_5068e_21 : decode cJ0_charAt_5068e 21 = .ok (.invokestatic 498, 3) := by decide +kernel
theorem dJ0_charAt_5068e_24 : decode cJ0_charAt_5068e 24 = .ok (.ireturn, 1) := by decide +kernel
theorem dJ0_indexOf_0f7a4_0 : decode cJ0_indexOf_0f7a4 0 = .ok (.aload_n 0, 1) := by decide +kernel
theorem dJ0_indexOf_0f7a4_1 : decode cJ0_indexOf_0f7a4 1 = .ok (.iload_n 1, 1) := by decide +kernel
theorem dJ0_indexOf_0f7a4_2 : decode cJ0_indexOf_0f7a4 2 = .ok (.iconst 0, 1) := by decide +kernel
theorem dJ0_indexOf_0f7a4_3 : decode cJ0_indexOf_0f7a4 3 = .ok (.invokevirtual 633, 3) := by decide +kernel
theorem dJ0_indexOf_0f7a4_6 : decode cJ0_indexOf_0f7a4 6 = .ok (.ireturn, 1) := by decide +kernel
theorem dJ0_indexOf_7cf53_0 : decode cJ0_indexOf_7cf53 0 = .ok (.aload_n 0, 1) := by decide +kernel
theorem dJ0_indexOf_7cf53_1 : decode cJ0_indexOf_7cf53 1 = .ok (.invokevirtual 492, 3) := by decide +kernel
theorem dJ0_indexOf_7cf53_4 : decode cJ0_indexOf_7cf53 4 = .ok (.ifCond .eq 19, 3) := by decide +kernel
theorem dJ0_indexOf_7cf53_7 : decode cJ0_indexOf_7cf53 7 = .ok (.aload_n 0, 1) := by decide +kernel
theorem dJ0_indexOf_7cf53_8 : decode cJ0_indexOf_7cf53 8 = .ok (.getfield 9, 3) := by decide +kernel
theorem dJ0_indexOf_7cf53_11 : decode cJ0_indexOf_7cf53 11 = .ok (.iload_n 1, 1) := by decide +kernel
theorem dJ0_indexOf_7cf53_12 : decode cJ0_indexOf_7cf53 12 = .ok (.iload_n 2, 1) := by decide +kernel
theorem dJ0_indexOf_7cf53_13 : decode cJ0_indexOf_7cf53 13 = .ok (.aload_n 0, 1) := by decide +kernel
theorem dJ0_indexOf_7cf53_14 : decode cJ0_indexOf_7cf53 14 = .ok (.invokevirtual 505, 3) := by decide +kernel
theorem dJ0_indexOf_7cf53_17 : decode cJ0_indexOf_7cf53 17 = .ok (.invokestatic 637, 3) := by decide +kernel
theorem dJ0_indexOf_7cf53_20 : decode cJ0_indexOf_7cf53 20 = .ok (.goto 16, 3) := by decide +kernel
theorem dJ0_indexOf_7cf53_23 : decode cJ0_indexOf_7cf53 23 = .ok (.aload_n 0, 1) := by decide +kernel
theorem dJ0_indexOf_7cf53_24 : decode cJ0_indexOf_7cf53 24 = .ok (.getfield 9, 3) := by decide +kernel
theorem dJ0_indexOf_7cf53_27 : decode cJ0_indexOf_7cf53 27 = .ok (.iload_n 1, 1) := by decide +kernel
theorem dJ0_indexOf_7cf53_28 : decode cJ0_indexOf_7cf53 28 = .ok (.iload_n 2, 1) := by decide +kernel
theorem dJ0_indexOf_7cf53_29 : decode cJ0_indexOf_7cf53 29 = .ok (.aload_n 0, 1) := by decide +kernel
theorem dJ0_indexOf_7cf53_30 : decode cJ0_indexOf_7cf53 30 = .ok (.invokevirtual 505, 3) := by decide +kernel
theorem dJ0_indexOf_7cf53_33 : decode cJ0_indexOf_7cf53 33 = .ok (.invokestatic 640, 3) := by decide +kernel
theorem dJ0_indexOf_7cf53_36 : decode cJ0_indexOf_7cf53 36 = .ok (.ireturn, 1) := by decide +kernel
theorem dJ0_coder_7d493_0 : decode cJ0_coder_7d493 0 = .ok (.getstatic 38, 3) := by decide +kernel
theorem dJ0_coder_7d493_3 : decode cJ0_coder_7d493 3 = .ok (.ifCond .eq 10, 3) := by decide +kernel
theorem dJ0_coder_7d493_6 : decode cJ0_coder_7d493 6 = .ok (.aload_n 0, 1) := by decide +kernel
theorem dJ0_coder_7d493_7 : decode cJ0_coder_7d493 7 = .ok (.getfield 15, 3) := by decide +kernel
theorem dJ0_coder_7d493_10 : decode cJ0_coder_7d493 10 = .ok (.goto 4, 3) := by decide +kernel
theorem dJ0_coder_7d493_13 : decode cJ0_coder_7d493 13 = .ok (.iconst 1, 1) := by decide +kernel
theorem dJ0_coder_7d493_14 : decode cJ0_coder_7d493 14 = .ok (.ireturn, 1) := by decide +kernel
theorem dJ0_isLatin1_aae02_0 : decode cJ0_isLatin1_aae02 0 = .ok (.getstatic 38, 3) := by decide +kernel
theorem dJ0_isLatin1_aae02_3 : decode cJ0_isLatin1_aae02 3 = .ok (.ifCond .eq 14, 3) := by decide +kernel
theorem dJ0_isLatin1_aae02_6 : decode cJ0_isLatin1_aae02 6 = .ok (.aload_n 0, 1) := by decide +kernel
theorem dJ0_isLatin1_aae02_7 : decode cJ0_isLatin1_aae02 7 = .ok (.getfield 15, 3) := by decide +kernel
theorem dJ0_isLatin1_aae02_10 : decode cJ0_isLatin1_aae02 10 = .ok (.ifCond .ne 7, 3) := by decide +kernel
theorem dJ0_isLatin1_aae02_13 : decode cJ0_isLatin1_aae02 13 = .ok (.iconst 1, 1) := by decide +kernel
theorem dJ0_isLatin1_aae02_14 : decode cJ0_isLatin1_aae02 14 = .ok (.goto 4, 3) := by decide +kernel
theorem dJ0_isLatin1_aae02_17 : decode cJ0_isLatin1_aae02 17 = .ok (.iconst 0, 1) := by decide +kernel
theorem dJ0_isLatin1_aae02_18 : decode cJ0_isLatin1_aae02 18 = .ok (.ireturn, 1) := by decide +kernel
theorem dJ0_checkIndex_df160_0 : decode cJ0_checkIndex_df160 0 = .ok (.iload_n 0, 1) := by decide +kernel
theorem dJ0_checkIndex_df160_1 : decode cJ0_checkIndex_df160 1 = .ok (.iload_n 1, 1) := by decide +kernel
theorem dJ0_checkIndex_df160_2 : decode cJ0_checkIndex_df160 2 = .ok (.getstatic 1053, 3) := by decide +kernel
theorem dJ0_checkIndex_df160_5 : decode cJ0_checkIndex_df160 5 = .ok (.invokestatic 1059, 3) := by decide +kernel
theorem dJ0_checkIndex_df160_8 : decode cJ0_checkIndex_df160 8 = .ok (.pop, 1) := by decide +kernel
theorem dJ0_checkIndex_df160_9 : decode cJ0_checkIndex_df160 9 = .ok (.return_, 1) := by decide +kernel
theorem dJ1_charAt_3b067_0 : decode cJ1_charAt_3b067 0 = .ok (.iload_n 1, 1) := by decide +kernel
theorem dJ1_charAt_3b067_1 : decode cJ1_charAt_3b067 1 = .ok (.aload_n 0, 1) := by decide +kernel
theorem dJ1_charAt_3b067_2 : decode cJ1_charAt_3b067 2 = .ok (.arraylength, 1) := by decide +kernel
theorem dJ1_charAt_3b067_3 : decode cJ1_charAt_3b067 3 = .ok (.invokestatic 9, 3) := by decide +kernel
theorem dJ1_charAt_3b067_6 : decode cJ1_charAt_3b067 6 = .ok (.aload_n 0, 1) := by decide +kernel
theorem dJ1_charAt_3b067_7 : decode cJ1_charAt_3b067 7 = .ok (.iload_n 1, 1) := by decide +kernel
theorem dJ1_charAt_3b067_8 : decode cJ1_charAt_3b067 8 = .ok (.baload, 1) := by decide +kernel
theorem dJ1_charAt_3b067_9 : decode cJ1_charAt_3b067 9 = .ok (.sipush 255, 3) := by decide +kernel
theorem dJ1_charAt_3b067_12 : decode cJ1_charAt_3b067 12 = .ok (.iand, 1) := by decide +kernel
theorem dJ1_charAt_3b067_13 : decode cJ1_charAt_3b067 13 = .ok (.i2c, 1) := by decide +kernel
theorem dJ1_charAt_3b067_14 : decode cJ1_charAt_3b067 14 = .ok (.ireturn, 1) := by decide +kernel
theorem dJ1_canEncode_9a6ad_0 : decode cJ1_canEncode_9a6ad 0 = .ok (.iload_n 0, 1) := by decide +kernel
theorem dJ1_canEncode_9a6ad_1 : decode cJ1_canEncode_9a6ad 1 = .ok (.ifCond .lt 14, 3) := by decide +kernel
theorem dJ1_canEncode_9a6ad_4 : decode cJ1_canEncode_9a6ad 4 = .ok (.iload_n 0, 1) := by decide +kernel
theorem dJ1_canEncode_9a6ad_5 : decode cJ1_canEncode_9a6ad 5 = .ok (.sipush 255, 3) := by decide +kernel
theorem dJ1_canEncode_9a6ad_8 : decode cJ1_canEncode_9a6ad 8 = .ok (.if_icmp .gt 7, 3) := by decide +kernel
theorem dJ1_canEncode_9a6ad_11 : decode cJ1_canEncode_9a6ad 11 = .ok (.iconst 1, 1) := by decide +kernel
theorem dJ1_canEncode_9a6ad_12 : decode cJ1_canEncode_9a6ad 12 = .ok (.goto 4, 3) := by decide +kernel
theorem dJ1_canEncode_9a6ad_15 : decode cJ1_canEncode_9a6ad 15 = .ok (.iconst 0, 1) := by decide +kernel
theorem dJ1_canEncode_9a6ad_16 : decode cJ1_canEncode_9a6ad 16 = .ok (.ireturn, 1) := by decide +kernel
theorem dJ1_indexOf_4cfef_0 : decode cJ1_indexOf_4cfef 0 = .ok (.iload_n 1, 1) := by decide +kernel
theorem dJ1_indexOf_4cfef_1 : decode cJ1_indexOf_4cfef 1 = .ok (.invokestatic 88, 3) := by decide +kernel
theorem dJ1_indexOf_4cfef_4 : decode cJ1_indexOf_4cfef 4 = .ok (.ifCond .ne 5, 3) := by decide +kernel
theorem dJ1_indexOf_4cfef_7 : decode cJ1_indexOf_4cfef 7 = .ok (.iconst (-1), 1) := by decide +kernel
theorem dJ1_indexOf_4cfef_8 : decode cJ1_indexOf_4cfef 8 = .ok (.ireturn, 1) := by decide +kernel
theorem dJ1_indexOf_4cfef_9 : decode cJ1_indexOf_4cfef 9 = .ok (.iload_n 2, 1) := by decide +kernel
theorem dJ1_indexOf_4cfef_10 : decode cJ1_indexOf_4cfef 10 = .ok (.iconst 0, 1) := by decide +kernel
theorem dJ1_indexOf_4cfef_11 : decode cJ1_indexOf_4cfef 11 = .ok (.invokestatic 92, 3) := by decide +kernel
theorem dJ1_indexOf_4cfef_14 : decode cJ1_indexOf_4cfef 14 = .ok (.istore_n 2, 1) := by decide +kernel
theorem dJ1_indexOf_4cfef_15 : decode cJ1_indexOf_4cfef 15 = .ok (.iload_n 3, 1) := by decide +kernel
theorem dJ1_indexOf_4cfef_16 : decode cJ1_indexOf_4cfef 16 = .ok (.aload_n 0, 1) := by decide +kernel
theorem dJ1_indexOf_4cfef_17 : decode cJ1_indexOf_4cfef 17 = .ok (.arraylength, 1) := by decide +kernel
theorem dJ1_indexOf_4cfef_18 : decode cJ1_indexOf_4cfef 18 = .ok (.invokestatic 38, 3) := by decide +kernel
theorem dJ1_indexOf_4cfef_21 : decode cJ1_indexOf_4cfef 21 = .ok (.istore_n 3, 1) := by decide +kernel
theorem dJ1_indexOf_4cfef_22 : decode cJ1_indexOf_4cfef 22 = .ok (.iload_n 2, 1) := by decide +kernel
theorem dJ1_indexOf_4cfef_23 : decode cJ1_indexOf_4cfef 23 = .ok (.iload_n 3, 1) := by decide +kernel
theorem dJ1_indexOf_4cfef_24 : decode cJ1_indexOf_4cfef 24 = .ok (.if_icmp .lt 5, 3) := by decide +kernel
theorem dJ1_indexOf_4cfef_27 : decode cJ1_indexOf_4cfef 27 = .ok (.iconst (-1), 1) := by decide +kernel
theorem dJ1_indexOf_4cfef_28 : decode cJ1_indexOf_4cfef 28 = .ok (.ireturn, 1) := by decide +kernel
theorem dJ1_indexOf_4cfef_29 : decode cJ1_indexOf_4cfef 29 = .ok (.aload_n 0, 1) := by decide +kernel
theorem dJ1_indexOf_4cfef_30 : decode cJ1_indexOf_4cfef 30 = .ok (.iload_n 1, 1) := by decide +kernel
theorem dJ1_indexOf_4cfef_31 : decode cJ1_indexOf_4cfef 31 = .ok (.iload_n 2, 1) := by decide +kernel
theorem dJ1_indexOf_4cfef_32 : decode cJ1_indexOf_4cfef 32 = .ok (.iload_n 3, 1) := by decide +kernel
theorem dJ1_indexOf_4cfef_33 : decode cJ1_indexOf_4cfef 33 = .ok (.invokestatic 95, 3) := by decide +kernel
theorem dJ1_indexOf_4cfef_36 : decode cJ1_indexOf_4cfef 36 = .ok (.ireturn, 1) := by decide +kernel
theorem dJ1_indexOfChar_4cfef_0 : decode cJ1_indexOfChar_4cfef 0 = .ok (.iload_n 1, 1) := by decide +kernel
theorem dJ1_indexOfChar_4cfef_1 : decode cJ1_indexOfChar_4cfef 1 = .ok (.i2b, 1) := by decide +kernel
theorem dJ1_indexOfChar_4cfef_2 : decode cJ1_indexOfChar_4cfef 2 = .ok (.istore 4, 2) := by decide +kernel
theorem dJ1_indexOfChar_4cfef_4 : decode cJ1_indexOfChar_4cfef 4 = .ok (.iload_n 2, 1) := by decide +kernel
theorem dJ1_indexOfChar_4cfef_5 : decode cJ1_indexOfChar_4cfef 5 = .ok (.istore 5, 2) := by decide +kernel
theorem dJ1_indexOfChar_4cfef_7 : decode cJ1_indexOfChar_4cfef 7 = .ok (.iload 5, 2) := by decide +kernel
theorem dJ1_indexOfChar_4cfef_9 : decode cJ1_indexOfChar_4cfef 9 = .ok (.iload_n 3, 1) := by decide +kernel
theorem dJ1_indexOfChar_4cfef_10 : decode cJ1_indexOfChar_4cfef 10 = .ok (.if_icmp .ge 21, 3) := by decide +kernel
theorem dJ1_indexOfChar_4cfef_13 : decode cJ1_indexOfChar_4cfef 13 = .ok (.aload_n 0, 1) := by decide +kernel
theorem dJ1_indexOfChar_4cfef_14 : decode cJ1_indexOfChar_4cfef 14 = .ok (.iload 5, 2) := by decide +kernel
theorem dJ1_indexOfChar_4cfef_16 : decode cJ1_indexOfChar_4cfef 16 = .ok (.baload, 1) := by decide +kernel
theorem dJ1_indexOfChar_4cfef_17 : decode cJ1_indexOfChar_4cfef 17 = .ok (.iload 4, 2) := by decide +kernel
theorem dJ1_indexOfChar_4cfef_19 : decode cJ1_indexOfChar_4cfef 19 = .ok (.if_icmp .ne 6, 3) := by decide +kernel
theorem dJ1_indexOfChar_4cfef_22 : decode cJ1_indexOfChar_4cfef 22 = .ok (.iload 5, 2) := by decide +kernel
theorem dJ1_indexOfChar_4cfef_24 : decode cJ1_indexOfChar_4cfef 24 = .ok (.ireturn, 1) := by decide +kernel
theorem dJ1_indexOfChar_4cfef_25 : decode cJ1_indexOfChar_4cfef 25 = .ok (.iinc 5 1, 3) := by decide +kernel
theorem dJ1_indexOfChar_4cfef_28 : decode cJ1_indexOfChar_4cfef 28 = .ok (.goto (-21), 3) := by decide +kernel
theorem dJ1_indexOfChar_4cfef_31 : decode cJ1_indexOfChar_4cfef 31 = .ok (.iconst (-1), 1) := by decide +kernel
theorem dJ1_indexOfChar_4cfef_32 : decode cJ1_indexOfChar_4cfef 32 = .ok (.ireturn, 1) := by decide +kernel
theorem dJ3_checkIndex_8e157_0 : decode cJ3_checkIndex_8e157 0 = .ok (.iload_n 0, 1) := by decide +kernel
theorem dJ3_checkIndex_8e157_1 : decode cJ3_checkIndex_8e157 1 = .ok (.ifCond .lt 8, 3) := by decide +kernel
theorem dJ3_checkIndex_8e157_4 : decode cJ3_checkIndex_8e157 4 = .ok (.iload_n 0, 1) := by decide +kernel
theorem dJ3_checkIndex_8e157_5 : decode cJ3_checkIndex_8e157 5 = .ok (.iload_n 1, 1) := by decide +kernel
theorem dJ3_checkIndex_8e157_6 : decode cJ3_checkIndex_8e157 6 = .ok (.if_icmp .lt 10, 3) := by decide +kernel
theorem dJ3_checkIndex_8e157_9 : decode cJ3_checkIndex_8e157 9 = .ok (.aload_n 2, 1) := by decide +kernel
theorem dJ3_checkIndex_8e157_10 : decode cJ3_checkIndex_8e157 10 = .ok (.iload_n 0, 1) := by decide +kernel
theorem dJ3_checkIndex_8e157_11 : decode cJ3_checkIndex_8e157 11 = .ok (.iload_n 1, 1) := by decide +kernel
theorem dJ3_checkIndex_8e157_12 : decode cJ3_checkIndex_8e157 12 = .ok (.invokestatic 95, 3) := by decide +kernel
theorem dJ3_checkIndex_8e157_15 : decode cJ3_checkIndex_8e157 15 = .ok (.athrow, 1) := by decide +kernel
theorem dJ3_checkIndex_8e157_16 : decode cJ3_checkIndex_8e157 16 = .ok (.iload_n 0, 1) := by decide +kernel
theorem dJ3_checkIndex_8e157_17 : decode cJ3_checkIndex_8e157 17 = .ok (.ireturn, 1) := by decide +kernel
theorem dL_law_0 : decode cL_law 0 = .ok (.new 7, 3) := by decide +kernel
theorem dL_law_3 : decode cL_law 3 = .ok (.dup, 1) := by decide +kernel
theorem dL_law_4 : decode cL_law 4 = .ok (.invokespecial 9, 3) := by decide +kernel
theorem dL_law_7 : decode cL_law 7 = .ok (.astore_n 1, 1) := by decide +kernel
theorem dL_law_8 : decode cL_law 8 = .ok (.new 10, 3) := by decide +kernel
theorem dL_law_11 : decode cL_law 11 = .ok (.dup, 1) := by decide +kernel
theorem dL_law_12 : decode cL_law 12 = .ok (.invokespecial 12, 3) := by decide +kernel
theorem dL_law_15 : decode cL_law 15 = .ok (.astore_n 2, 1) := by decide +kernel
theorem dL_law_16 : decode cL_law 16 = .ok (.iconst 0, 1) := by decide +kernel
theorem dL_law_17 : decode cL_law 17 = .ok (.istore_n 3, 1) := by decide +kernel
theorem dL_law_18 : decode cL_law 18 = .ok (.iload_n 3, 1) := by decide +kernel
theorem dL_law_19 : decode cL_law 19 = .ok (.aload_n 0, 1) := by decide +kernel
theorem dL_law_20 : decode cL_law 20 = .ok (.arraylength, 1) := by decide +kernel
theorem dL_law_21 : decode cL_law 21 = .ok (.iconst 4, 1) := by decide +kernel
theorem dL_law_22 : decode cL_law 22 = .ok (.isub, 1) := by decide +kernel
theorem dL_law_23 : decode cL_law 23 = .ok (.if_icmp .gt 804, 3) := by decide +kernel
theorem dL_law_26 : decode cL_law 26 = .ok (.aload_n 0, 1) := by decide +kernel
theorem dL_law_27 : decode cL_law 27 = .ok (.iload_n 3, 1) := by decide +kernel
theorem dL_law_28 : decode cL_law 28 = .ok (.iaload, 1) := by decide +kernel
theorem dL_law_29 : decode cL_law 29 = .ok (.bipush 31, 2) := by decide +kernel
theorem dL_law_31 : decode cL_law 31 = .ok (.iand, 1) := by decide +kernel
theorem dL_law_32 : decode cL_law 32 = .ok (.tableswitch 789 0 28 #[132, 155, 168, 201, 234, 267, 300, 343, 356, 369, 392, 415, 428, 441, 464, 487, 500, 523, 536, 549, 572, 605, 638, 671, 694, 707, 740, 753, 766], 132) := by decide +kernel
theorem dL_law_164 : decode cL_law 164 = .ok (.aload_n 1, 1) := by decide +kernel
theorem dL_law_165 : decode cL_law 165 = .ok (.aload_n 0, 1) := by decide +kernel
theorem dL_law_166 : decode cL_law 166 = .ok (.iload_n 3, 1) := by decide +kernel
theorem dL_law_167 : decode cL_law 167 = .ok (.iconst 1, 1) := by decide +kernel
theorem dL_law_168 : decode cL_law 168 = .ok (.iadd, 1) := by decide +kernel
theorem dL_law_169 : decode cL_law 169 = .ok (.iaload, 1) := by decide +kernel
theorem dL_law_170 : decode cL_law 170 = .ok (.invokevirtual 13, 3) := by decide +kernel
theorem dL_law_173 : decode cL_law 173 = .ok (.aload_n 2, 1) := by decide +kernel
theorem dL_law_174 : decode cL_law 174 = .ok (.aload_n 0, 1) := by decide +kernel
theorem dL_law_175 : decode cL_law 175 = .ok (.iload_n 3, 1) := by decide +kernel
theorem dL_law_176 : decode cL_law 176 = .ok (.iconst 1, 1) := by decide +kernel
theorem dL_law_177 : decode cL_law 177 = .ok (.iadd, 1) := by decide +kernel
theorem dL_law_178 : decode cL_law 178 = .ok (.iaload, 1) := by decide +kernel
theorem dL_law_179 : decode cL_law 179 = .ok (.invokevirtual 17, 3) := by decide +kernel
theorem dL_law_182 : decode cL_law 182 = .ok (.if_icmp .eq 639, 3) := by decide +kernel
theorem dL_law_185 : decode cL_law 185 = .ok (.iconst 0, 1) := by decide +kernel
theorem dL_law_186 : decode cL_law 186 = .ok (.ireturn, 1) := by decide +kernel
theorem dL_law_187 : decode cL_law 187 = .ok (.aload_n 1, 1) := by decide +kernel
theorem dL_law_188 : decode cL_law 188 = .ok (.invokevirtual 18, 3) := by decide +kernel
theorem dL_law_191 : decode cL_law 191 = .ok (.aload_n 2, 1) := by decide +kernel
theorem dL_law_192 : decode cL_law 192 = .ok (.invokevirtual 22, 3) := by decide +kernel
theorem dL_law_195 : decode cL_law 195 = .ok (.if_icmp .eq 626, 3) := by decide +kernel
theorem dL_law_198 : decode cL_law 198 = .ok (.iconst 0, 1) := by decide +kernel
theorem dL_law_199 : decode cL_law 199 = .ok (.ireturn, 1) := by decide +kernel
theorem dL_law_200 : decode cL_law 200 = .ok (.aload_n 1, 1) := by decide +kernel
theorem dL_law_201 : decode cL_law 201 = .ok (.aload_n 0, 1) := by decide +kernel
theorem dL_law_202 : decode cL_law 202 = .ok (.iload_n 3, 1) := by decide +kernel
theorem dL_law_203 : decode cL_law 203 = .ok (.iconst 1, 1) := by decide +kernel
theorem dL_law_204 : decode cL_law 204 = .ok (.iadd, 1) := by decide +kernel
theorem dL_law_205 : decode cL_law 205 = .ok (.iaload, 1) := by decide +kernel
theorem dL_law_206 : decode cL_law 206 = .ok (.aload_n 0, 1) := by decide +kernel
theorem dL_law_207 : decode cL_law 207 = .ok (.iload_n 3, 1) := by decide +kernel
theorem dL_law_208 : decode cL_law 208 = .ok (.iconst 2, 1) := by decide +kernel
theorem dL_law_209 : decode cL_law 209 = .ok (.iadd, 1) := by decide +kernel
theorem dL_law_210 : decode cL_law 210 = .ok (.iaload, 1) := by decide +kernel
theorem dL_law_211 : decode cL_law 211 = .ok (.invokevirtual 23, 3) := by decide +kernel
theorem dL_law_214 : decode cL_law 214 = .ok (.aload_n 2, 1) := by decide +kernel
theorem dL_law_215 : decode cL_law 215 = .ok (.aload_n 0, 1) := by decide +kernel
theorem dL_law_216 : decode cL_law 216 = .ok (.iload_n 3, 1) := by decide +kernel
theorem dL_law_217 : decode cL_law 217 = .ok (.iconst 1, 1) := by decide +kernel
theorem dL_law_218 : decode cL_law 218 = .ok (.iadd, 1) := by decide +kernel
theorem dL_law_219 : decode cL_law 219 = .ok (.iaload, 1) := by decide +kernel
theorem dL_law_220 : decode cL_law 220 = .ok (.aload_n 0, 1) := by decide +kernel
theorem dL_law_221 : decode cL_law 221 = .ok (.iload_n 3, 1) := by decide +kernel
theorem dL_law_222 : decode cL_law 222 = .ok (.iconst 2, 1) := by decide +kernel
theorem dL_law_223 : decode cL_law 223 = .ok (.iadd, 1) := by decide +kernel
theorem dL_law_224 : decode cL_law 224 = .ok (.iaload, 1) := by decide +kernel
theorem dL_law_225 : decode cL_law 225 = .ok (.invokevirtual 27, 3) := by decide +kernel
theorem dL_law_228 : decode cL_law 228 = .ok (.if_icmp .eq 593, 3) := by decide +kernel
theorem dL_law_231 : decode cL_law 231 = .ok (.iconst 0, 1) := by decide +kernel
theorem dL_law_232 : decode cL_law 232 = .ok (.ireturn, 1) := by decide +kernel
theorem dL_law_233 : decode cL_law 233 = .ok (.aload_n 1, 1) := by decide +kernel
theorem dL_law_234 : decode cL_law 234 = .ok (.aload_n 0, 1) := by decide +kernel
theorem dL_law_235 : decode cL_law 235 = .ok (.iload_n 3, 1) := by decide +kernel
theorem dL_law_236 : decode cL_law 236 = .ok (.iconst 1, 1) := by decide +kernel
theorem dL_law_237 : decode cL_law 237 = .ok (.iadd, 1) := by decide +kernel
theorem dL_law_238 : decode cL_law 238 = .ok (.iaload, 1) := by decide +kernel
theorem dL_law_239 : decode cL_law 239 = .ok (.aload_n 0, 1) := by decide +kernel
theorem dL_law_240 : decode cL_law 240 = .ok (.iload_n 3, 1) := by decide +kernel
theorem dL_law_241 : decode cL_law 241 = .ok (.iconst 2, 1) := by decide +kernel
theorem dL_law_242 : decode cL_law 242 = .ok (.iadd, 1) := by decide +kernel
theorem dL_law_243 : decode cL_law 243 = .ok (.iaload, 1) := by decide +kernel
theorem dL_law_244 : decode cL_law 244 = .ok (.invokevirtual 28, 3) := by decide +kernel
theorem dL_law_247 : decode cL_law 247 = .ok (.aload_n 2, 1) := by decide +kernel
theorem dL_law_248 : decode cL_law 248 = .ok (.aload_n 0, 1) := by decide +kernel
theorem dL_law_249 : decode cL_law 249 = .ok (.iload_n 3, 1) := by decide +kernel
theorem dL_law_250 : decode cL_law 250 = .ok (.iconst 1, 1) := by decide +kernel
theorem dL_law_251 : decode cL_law 251 = .ok (.iadd, 1) := by decide +kernel
theorem dL_law_252 : decode cL_law 252 = .ok (.iaload, 1) := by decide +kernel
theorem dL_law_253 : decode cL_law 253 = .ok (.aload_n 0, 1) := by decide +kernel
theorem dL_law_254 : decode cL_law 254 = .ok (.iload_n 3, 1) := by decide +kernel
theorem dL_law_255 : decode cL_law 255 = .ok (.iconst 2, 1) := by decide +kernel
theorem dL_law_256 : decode cL_law 256 = .ok (.iadd, 1) := by decide +kernel
theorem dL_law_257 : decode cL_law 257 = .ok (.iaload, 1) := by decide +kernel
theorem dL_law_258 : decode cL_law 258 = .ok (.invokevirtual 31, 3) := by decide +kernel
theorem dL_law_261 : decode cL_law 261 = .ok (.if_icmp .eq 560, 3) := by decide +kernel
theorem dL_law_264 : decode cL_law 264 = .ok (.iconst 0, 1) := by decide +kernel
theorem dL_law_265 : decode cL_law 265 = .ok (.ireturn, 1) := by decide +kernel
theorem dL_law_266 : decode cL_law 266 = .ok (.aload_n 1, 1) := by decide +kernel
theorem dL_law_267 : decode cL_law 267 = .ok (.aload_n 0, 1) := by decide +kernel
theorem dL_law_268 : decode cL_law 268 = .ok (.iload_n 3, 1) := by decide +kernel
theorem dL_law_269 : decode cL_law 269 = .ok (.iconst 1, 1) := by decide +kernel
theorem dL_law_270 : decode cL_law 270 = .ok (.iadd, 1) := by decide +kernel
theorem dL_law_271 : decode cL_law 271 = .ok (.iaload, 1) := by decide +kernel
theorem dL_law_272 : decode cL_law 272 = .ok (.aload_n 0, 1) := by decide +kernel
theorem dL_law_273 : decode cL_law 273 = .ok (.iload_n 3, 1) := by decide +kernel
theorem dL_law_274 : decode cL_law 274 = .ok (.iconst 2, 1) := by decide +kernel
theorem dL_law_275 : decode cL_law 275 = .ok (.iadd, 1) := by decide +kernel
theorem dL_law_276 : decode cL_law 276 = .ok (.iaload, 1) := by decide +kernel
theorem dL_law_277 : decode cL_law 277 = .ok (.invokevirtual 32, 3) := by decide +kernel
theorem dL_law_280 : decode cL_law 280 = .ok (.aload_n 2, 1) := by decide +kernel
theorem dL_law_281 : decode cL_law 281 = .ok (.aload_n 0, 1) := by decide +kernel
theorem dL_law_282 : decode cL_law 282 = .ok (.iload_n 3, 1) := by decide +kernel
theorem dL_law_283 : decode cL_law 283 = .ok (.iconst 1, 1) := by decide +kernel
theorem dL_law_284 : decode cL_law 284 = .ok (.iadd, 1) := by decide +kernel
theorem dL_law_285 : decode cL_law 285 = .ok (.iaload, 1) := by decide +kernel
theorem dL_law_286 : decode cL_law 286 = .ok (.aload_n 0, 1) := by decide +kernel
theorem dL_law_287 : decode cL_law 287 = .ok (.iload_n 3, 1) := by decide +kernel
theorem dL_law_288 : decode cL_law 288 = .ok (.iconst 2, 1) := by decide +kernel
theorem dL_law_289 : decode cL_law 289 = .ok (.iadd, 1) := by decide +kernel
theorem dL_law_290 : decode cL_law 290 = .ok (.iaload, 1) := by decide +kernel
theorem dL_law_291 : decode cL_law 291 = .ok (.invokevirtual 35, 3) := by decide +kernel
theorem dL_law_294 : decode cL_law 294 = .ok (.if_icmp .eq 527, 3) := by decide +kernel
theorem dL_law_297 : decode cL_law 297 = .ok (.iconst 0, 1) := by decide +kernel
theorem dL_law_298 : decode cL_law 298 = .ok (.ireturn, 1) := by decide +kernel
theorem dL_law_299 : decode cL_law 299 = .ok (.aload_n 1, 1) := by decide +kernel
theorem dL_law_300 : decode cL_law 300 = .ok (.aload_n 0, 1) := by decide +kernel
theorem dL_law_301 : decode cL_law 301 = .ok (.iload_n 3, 1) := by decide +kernel
theorem dL_law_302 : decode cL_law 302 = .ok (.iconst 1, 1) := by decide +kernel
theorem dL_law_303 : decode cL_law 303 = .ok (.iadd, 1) := by decide +kernel
theorem dL_law_304 : decode cL_law 304 = .ok (.iaload, 1) := by decide +kernel
theorem dL_law_305 : decode cL_law 305 = .ok (.aload_n 0, 1) := by decide +kernel
theorem dL_law_306 : decode cL_law 306 = .ok (.iload_n 3, 1) := by decide +kernel
theorem dL_law_307 : decode cL_law 307 = .ok (.iconst 2, 1) := by decide +kernel
theorem dL_law_308 : decode cL_law 308 = .ok (.iadd, 1) := by decide +kernel
theorem dL_law_309 : decode cL_law 309 = .ok (.iaload, 1) := by decide +kernel
theorem dL_law_310 : decode cL_law 310 = .ok (.invokevirtual 36, 3) := by decide +kernel
theorem dL_law_313 : decode cL_law 313 = .ok (.aload_n 2, 1) := by decide +kernel
theorem dL_law_314 : decode cL_law 314 = .ok (.aload_n 0, 1) := by decide +kernel
theorem dL_law_315 : decode cL_law 315 = .ok (.iload_n 3, 1) := by decide +kernel
theorem dL_law_316 : decode cL_law 316 = .ok (.iconst 1, 1) := by decide +kernel
theorem dL_law_317 : decode cL_law 317 = .ok (.iadd, 1) := by decide +kernel
theorem dL_law_318 : decode cL_law 318 = .ok (.iaload, 1) := by decide +kernel
theorem dL_law_319 : decode cL_law 319 = .ok (.aload_n 0, 1) := by decide +kernel
theorem dL_law_320 : decode cL_law 320 = .ok (.iload_n 3, 1) := by decide +kernel
theorem dL_law_321 : decode cL_law 321 = .ok (.iconst 2, 1) := by decide +kernel
theorem dL_law_322 : decode cL_law 322 = .ok (.iadd, 1) := by decide +kernel
theorem dL_law_323 : decode cL_law 323 = .ok (.iaload, 1) := by decide +kernel
theorem dL_law_324 : decode cL_law 324 = .ok (.invokevirtual 39, 3) := by decide +kernel
theorem dL_law_327 : decode cL_law 327 = .ok (.if_icmp .eq 494, 3) := by decide +kernel
theorem dL_law_330 : decode cL_law 330 = .ok (.iconst 0, 1) := by decide +kernel
theorem dL_law_331 : decode cL_law 331 = .ok (.ireturn, 1) := by decide +kernel
theorem dL_law_332 : decode cL_law 332 = .ok (.aload_n 1, 1) := by decide +kernel
theorem dL_law_333 : decode cL_law 333 = .ok (.aload_n 0, 1) := by decide +kernel
theorem dL_law_334 : decode cL_law 334 = .ok (.iload_n 3, 1) := by decide +kernel
theorem dL_law_335 : decode cL_law 335 = .ok (.iconst 1, 1) := by decide +kernel
theorem dL_law_336 : decode cL_law 336 = .ok (.iadd, 1) := by decide +kernel
theorem dL_law_337 : decode cL_law 337 = .ok (.iaload, 1) := by decide +kernel
theorem dL_law_338 : decode cL_law 338 = .ok (.aload_n 0, 1) := by decide +kernel
theorem dL_law_339 : decode cL_law 339 = .ok (.iload_n 3, 1) := by decide +kernel
theorem dL_law_340 : decode cL_law 340 = .ok (.iconst 2, 1) := by decide +kernel
theorem dL_law_341 : decode cL_law 341 = .ok (.iadd, 1) := by decide +kernel
theorem dL_law_342 : decode cL_law 342 = .ok (.iaload, 1) := by decide +kernel
theorem dL_law_343 : decode cL_law 343 = .ok (.aload_n 0, 1) := by decide +kernel
theorem dL_law_344 : decode cL_law 344 = .ok (.iload_n 3, 1) := by decide +kernel
theorem dL_law_345 : decode cL_law 345 = .ok (.iconst 3, 1) := by decide +kernel
theorem dL_law_346 : decode cL_law 346 = .ok (.iadd, 1) := by decide +kernel
theorem dL_law_347 : decode cL_law 347 = .ok (.iaload, 1) := by decide +kernel
theorem dL_law_348 : decode cL_law 348 = .ok (.invokevirtual 40, 3) := by decide +kernel
theorem dL_law_351 : decode cL_law 351 = .ok (.aload_n 2, 1) := by decide +kernel
theorem dL_law_352 : decode cL_law 352 = .ok (.aload_n 0, 1) := by decide +kernel
theorem dL_law_353 : decode cL_law 353 = .ok (.iload_n 3, 1) := by decide +kernel
theorem dL_law_354 : decode cL_law 354 = .ok (.iconst 1, 1) := by decide +kernel
theorem dL_law_355 : decode cL_law 355 = .ok (.iadd, 1) := by decide +kernel
theorem dL_law_356 : decode cL_law 356 = .ok (.iaload, 1) := by decide +kernel
theorem dL_law_357 : decode cL_law 357 = .ok (.aload_n 0, 1) := by decide +kernel
theorem dL_law_358 : decode cL_law 358 = .ok (.iload_n 3, 1) := by decide +kernel
theorem dL_law_359 : decode cL_law 359 = .ok (.iconst 2, 1) := by decide +kernel
theorem dL_law_360 : decode cL_law 360 = .ok (.iadd, 1) := by decide +kernel
theorem dL_law_361 : decode cL_law 361 = .ok (.iaload, 1) := by decide +kernel
theorem dL_law_362 : decode cL_law 362 = .ok (.aload_n 0, 1) := by decide +kernel
theorem dL_law_363 : decode cL_law 363 = .ok (.iload_n 3, 1) := by decide +kernel
theorem dL_law_364 : decode cL_law 364 = .ok (.iconst 3, 1) := by decide +kernel
theorem dL_law_365 : decode cL_law 365 = .ok (.iadd, 1) := by decide +kernel
theorem dL_law_366 : decode cL_law 366 = .ok (.iaload, 1) := by decide +kernel
theorem dL_law_367 : decode cL_law 367 = .ok (.invokevirtual 44, 3) := by decide +kernel
theorem dL_law_370 : decode cL_law 370 = .ok (.if_icmp .eq 451, 3) := by decide +kernel
theorem dL_law_373 : decode cL_law 373 = .ok (.iconst 0, 1) := by decide +kernel
theorem dL_law_374 : decode cL_law 374 = .ok (.ireturn, 1) := by decide +kernel
theorem dL_law_375 : decode cL_law 375 = .ok (.aload_n 1, 1) := by decide +kernel
theorem dL_law_376 : decode cL_law 376 = .ok (.invokevirtual 45, 3) := by decide +kernel
theorem dL_law_379 : decode cL_law 379 = .ok (.aload_n 2, 1) := by decide +kernel
theorem dL_law_380 : decode cL_law 380 = .ok (.invokevirtual 48, 3) := by decide +kernel
theorem dL_law_383 : decode cL_law 383 = .ok (.if_icmp .eq 438, 3) := by decide +kernel
theorem dL_law_386 : decode cL_law 386 = .ok (.iconst 0, 1) := by decide +kernel
theorem dL_law_387 : decode cL_law 387 = .ok (.ireturn, 1) := by decide +kernel
theorem dL_law_388 : decode cL_law 388 = .ok (.aload_n 1, 1) := by decide +kernel
theorem dL_law_389 : decode cL_law 389 = .ok (.invokevirtual 49, 3) := by decide +kernel
theorem dL_law_392 : decode cL_law 392 = .ok (.aload_n 2, 1) := by decide +kernel
theorem dL_law_393 : decode cL_law 393 = .ok (.invokevirtual 52, 3) := by decide +kernel
theorem dL_law_396 : decode cL_law 396 = .ok (.if_icmp .eq 425, 3) := by decide +kernel
theorem dL_law_399 : decode cL_law 399 = .ok (.iconst 0, 1) := by decide +kernel
theorem dL_law_400 : decode cL_law 400 = .ok (.ireturn, 1) := by decide +kernel
theorem dL_law_401 : decode cL_law 401 = .ok (.aload_n 1, 1) := by decide +kernel
theorem dL_law_402 : decode cL_law 402 = .ok (.aload_n 0, 1) := by decide +kernel
theorem dL_law_403 : decode cL_law 403 = .ok (.iload_n 3, 1) := by decide +kernel
theorem dL_law_404 : decode cL_law 404 = .ok (.iconst 1, 1) := by decide +kernel
theorem dL_law_405 : decode cL_law 405 = .ok (.iadd, 1) := by decide +kernel
theorem dL_law_406 : decode cL_law 406 = .ok (.iaload, 1) := by decide +kernel
theorem dL_law_407 : decode cL_law 407 = .ok (.invokevirtual 53, 3) := by decide +kernel
theorem dL_law_410 : decode cL_law 410 = .ok (.aload_n 2, 1) := by decide +kernel
theorem dL_law_411 : decode cL_law 411 = .ok (.aload_n 0, 1) := by decide +kernel
theorem dL_law_412 : decode cL_law 412 = .ok (.iload_n 3, 1) := by decide +kernel
theorem dL_law_413 : decode cL_law 413 = .ok (.iconst 1, 1) := by decide +kernel
theorem dL_law_414 : decode cL_law 414 = .ok (.iadd, 1) := by decide +kernel
theorem dL_law_415 : decode cL_law 415 = .ok (.iaload, 1) := by decide +kernel
theorem dL_law_416 : decode cL_law 416 = .ok (.invokevirtual 56, 3) := by decide +kernel
theorem dL_law_419 : decode cL_law 419 = .ok (.if_icmp .eq 402, 3) := by decide +kernel
theorem dL_law_422 : decode cL_law 422 = .ok (.iconst 0, 1) := by decide +kernel
theorem dL_law_423 : decode cL_law 423 = .ok (.ireturn, 1) := by decide +kernel
theorem dL_law_424 : decode cL_law 424 = .ok (.aload_n 1, 1) := by decide +kernel
theorem dL_law_425 : decode cL_law 425 = .ok (.aload_n 0, 1) := by decide +kernel
theorem dL_law_426 : decode cL_law 426 = .ok (.iload_n 3, 1) := by decide +kernel
theorem dL_law_427 : decode cL_law 427 = .ok (.iconst 1, 1) := by decide +kernel
theorem dL_law_428 : decode cL_law 428 = .ok (.iadd, 1) := by decide +kernel
theorem dL_law_429 : decode cL_law 429 = .ok (.iaload, 1) := by decide +kernel
theorem dL_law_430 : decode cL_law 430 = .ok (.invokevirtual 57, 3) := by decide +kernel
theorem dL_law_433 : decode cL_law 433 = .ok (.aload_n 2, 1) := by decide +kernel
theorem dL_law_434 : decode cL_law 434 = .ok (.aload_n 0, 1) := by decide +kernel
theorem dL_law_435 : decode cL_law 435 = .ok (.iload_n 3, 1) := by decide +kernel
theorem dL_law_436 : decode cL_law 436 = .ok (.iconst 1, 1) := by decide +kernel
theorem dL_law_437 : decode cL_law 437 = .ok (.iadd, 1) := by decide +kernel
theorem dL_law_438 : decode cL_law 438 = .ok (.iaload, 1) := by decide +kernel
theorem dL_law_439 : decode cL_law 439 = .ok (.invokevirtual 60, 3) := by decide +kernel
theorem dL_law_442 : decode cL_law 442 = .ok (.if_icmp .eq 379, 3) := by decide +kernel
theorem dL_law_445 : decode cL_law 445 = .ok (.iconst 0, 1) := by decide +kernel
theorem dL_law_446 : decode cL_law 446 = .ok (.ireturn, 1) := by decide +kernel
theorem dL_law_447 : decode cL_law 447 = .ok (.aload_n 1, 1) := by decide +kernel
theorem dL_law_448 : decode cL_law 448 = .ok (.invokevirtual 61, 3) := by decide +kernel
theorem dL_law_451 : decode cL_law 451 = .ok (.aload_n 2, 1) := by decide +kernel
theorem dL_law_452 : decode cL_law 452 = .ok (.invokevirtual 64, 3) := by decide +kernel
theorem dL_law_455 : decode cL_law 455 = .ok (.if_icmp .eq 366, 3) := by decide +kernel
theorem dL_law_458 : decode cL_law 458 = .ok (.iconst 0, 1) := by decide +kernel
theorem dL_law_459 : decode cL_law 459 = .ok (.ireturn, 1) := by decide +kernel
theorem dL_law_460 : decode cL_law 460 = .ok (.aload_n 1, 1) := by decide +kernel
theorem dL_law_461 : decode cL_law 461 = .ok (.invokevirtual 65, 3) := by decide +kernel
theorem dL_law_464 : decode cL_law 464 = .ok (.aload_n 2, 1) := by decide +kernel
theorem dL_law_465 : decode cL_law 465 = .ok (.invokevirtual 68, 3) := by decide +kernel
theorem dL_law_468 : decode cL_law 468 = .ok (.if_icmp .eq 353, 3) := by decide +kernel
theorem dL_law_471 : decode cL_law 471 = .ok (.iconst 0, 1) := by decide +kernel
theorem dL_law_472 : decode cL_law 472 = .ok (.ireturn, 1) := by decide +kernel
theorem dL_law_473 : decode cL_law 473 = .ok (.aload_n 1, 1) := by decide +kernel
theorem dL_law_474 : decode cL_law 474 = .ok (.aload_n 0, 1) := by decide +kernel
theorem dL_law_475 : decode cL_law 475 = .ok (.iload_n 3, 1) := by decide +kernel
theorem dL_law_476 : decode cL_law 476 = .ok (.iconst 1, 1) := by decide +kernel
theorem dL_law_477 : decode cL_law 477 = .ok (.iadd, 1) := by decide +kernel
theorem dL_law_478 : decode cL_law 478 = .ok (.iaload, 1) := by decide +kernel
theorem dL_law_479 : decode cL_law 479 = .ok (.invokevirtual 69, 3) := by decide +kernel
theorem dL_law_482 : decode cL_law 482 = .ok (.aload_n 2, 1) := by decide +kernel
theorem dL_law_483 : decode cL_law 483 = .ok (.aload_n 0, 1) := by decide +kernel
theorem dL_law_484 : decode cL_law 484 = .ok (.iload_n 3, 1) := by decide +kernel
theorem dL_law_485 : decode cL_law 485 = .ok (.iconst 1, 1) := by decide +kernel
theorem dL_law_486 : decode cL_law 486 = .ok (.iadd, 1) := by decide +kernel
theorem dL_law_487 : decode cL_law 487 = .ok (.iaload, 1) := by decide +kernel
theorem dL_law_488 : decode cL_law 488 = .ok (.invokevirtual 72, 3) := by decide +kernel
theorem dL_law_491 : decode cL_law 491 = .ok (.if_icmp .eq 330, 3) := by decide +kernel
theorem dL_law_494 : decode cL_law 494 = .ok (.iconst 0, 1) := by decide +kernel
theorem dL_law_495 : decode cL_law 495 = .ok (.ireturn, 1) := by decide +kernel
theorem dL_law_496 : decode cL_law 496 = .ok (.aload_n 1, 1) := by decide +kernel
theorem dL_law_497 : decode cL_law 497 = .ok (.aload_n 0, 1) := by decide +kernel
theorem dL_law_498 : decode cL_law 498 = .ok (.iload_n 3, 1) := by decide +kernel
theorem dL_law_499 : decode cL_law 499 = .ok (.iconst 1, 1) := by decide +kernel
theorem dL_law_500 : decode cL_law 500 = .ok (.iadd, 1) := by decide +kernel
theorem dL_law_501 : decode cL_law 501 = .ok (.iaload, 1) := by decide +kernel
theorem dL_law_502 : decode cL_law 502 = .ok (.invokevirtual 73, 3) := by decide +kernel
theorem dL_law_505 : decode cL_law 505 = .ok (.aload_n 2, 1) := by decide +kernel
theorem dL_law_506 : decode cL_law 506 = .ok (.aload_n 0, 1) := by decide +kernel
theorem dL_law_507 : decode cL_law 507 = .ok (.iload_n 3, 1) := by decide +kernel
theorem dL_law_508 : decode cL_law 508 = .ok (.iconst 1, 1) := by decide +kernel
theorem dL_law_509 : decode cL_law 509 = .ok (.iadd, 1) := by decide +kernel
theorem dL_law_510 : decode cL_law 510 = .ok (.iaload, 1) := by decide +kernel
theorem dL_law_511 : decode cL_law 511 = .ok (.invokevirtual 76, 3) := by decide +kernel
theorem dL_law_514 : decode cL_law 514 = .ok (.if_icmp .eq 307, 3) := by decide +kernel
theorem dL_law_517 : decode cL_law 517 = .ok (.iconst 0, 1) := by decide +kernel
theorem dL_law_518 : decode cL_law 518 = .ok (.ireturn, 1) := by decide +kernel
theorem dL_law_519 : decode cL_law 519 = .ok (.aload_n 1, 1) := by decide +kernel
theorem dL_law_520 : decode cL_law 520 = .ok (.invokevirtual 77, 3) := by decide +kernel
theorem dL_law_523 : decode cL_law 523 = .ok (.aload_n 2, 1) := by decide +kernel
theorem dL_law_524 : decode cL_law 524 = .ok (.invokevirtual 80, 3) := by decide +kernel
theorem dL_law_527 : decode cL_law 527 = .ok (.if_icmp .eq 294, 3) := by decide +kernel
theorem dL_law_530 : decode cL_law 530 = .ok (.iconst 0, 1) := by decide +kernel
theorem dL_law_531 : decode cL_law 531 = .ok (.ireturn, 1) := by decide +kernel
theorem dL_law_532 : decode cL_law 532 = .ok (.aload_n 1, 1) := by decide +kernel
theorem dL_law_533 : decode cL_law 533 = .ok (.aload_n 0, 1) := by decide +kernel
theorem dL_law_534 : decode cL_law 534 = .ok (.iload_n 3, 1) := by decide +kernel
theorem dL_law_535 : decode cL_law 535 = .ok (.iconst 1, 1) := by decide +kernel
theorem dL_law_536 : decode cL_law 536 = .ok (.iadd, 1) := by decide +kernel
theorem dL_law_537 : decode cL_law 537 = .ok (.iaload, 1) := by decide +kernel
theorem dL_law_538 : decode cL_law 538 = .ok (.invokevirtual 81, 3) := by decide +kernel
theorem dL_law_541 : decode cL_law 541 = .ok (.aload_n 2, 1) := by decide +kernel
theorem dL_law_542 : decode cL_law 542 = .ok (.aload_n 0, 1) := by decide +kernel
theorem dL_law_543 : decode cL_law 543 = .ok (.iload_n 3, 1) := by decide +kernel
theorem dL_law_544 : decode cL_law 544 = .ok (.iconst 1, 1) := by decide +kernel
theorem dL_law_545 : decode cL_law 545 = .ok (.iadd, 1) := by decide +kernel
theorem dL_law_546 : decode cL_law 546 = .ok (.iaload, 1) := by decide +kernel
theorem dL_law_547 : decode cL_law 547 = .ok (.invokevirtual 84, 3) := by decide +kernel
theorem dL_law_550 : decode cL_law 550 = .ok (.if_icmp .eq 271, 3) := by decide +kernel
theorem dL_law_553 : decode cL_law 553 = .ok (.iconst 0, 1) := by decide +kernel
theorem dL_law_554 : decode cL_law 554 = .ok (.ireturn, 1) := by decide +kernel
theorem dL_law_555 : decode cL_law 555 = .ok (.aload_n 1, 1) := by decide +kernel
theorem dL_law_556 : decode cL_law 556 = .ok (.invokevirtual 85, 3) := by decide +kernel
theorem dL_law_559 : decode cL_law 559 = .ok (.aload_n 2, 1) := by decide +kernel
theorem dL_law_560 : decode cL_law 560 = .ok (.invokevirtual 88, 3) := by decide +kernel
theorem dL_law_563 : decode cL_law 563 = .ok (.if_icmp .eq 258, 3) := by decide +kernel
theorem dL_law_566 : decode cL_law 566 = .ok (.iconst 0, 1) := by decide +kernel
theorem dL_law_567 : decode cL_law 567 = .ok (.ireturn, 1) := by decide +kernel
theorem dL_law_568 : decode cL_law 568 = .ok (.aload_n 1, 1) := by decide +kernel
theorem dL_law_569 : decode cL_law 569 = .ok (.invokevirtual 89, 3) := by decide +kernel
theorem dL_law_572 : decode cL_law 572 = .ok (.aload_n 2, 1) := by decide +kernel
theorem dL_law_573 : decode cL_law 573 = .ok (.invokevirtual 92, 3) := by decide +kernel
theorem dL_law_576 : decode cL_law 576 = .ok (.if_icmp .eq 245, 3) := by decide +kernel
theorem dL_law_579 : decode cL_law 579 = .ok (.iconst 0, 1) := by decide +kernel
theorem dL_law_580 : decode cL_law 580 = .ok (.ireturn, 1) := by decide +kernel
theorem dL_law_581 : decode cL_law 581 = .ok (.aload_n 1, 1) := by decide +kernel
theorem dL_law_582 : decode cL_law 582 = .ok (.aload_n 0, 1) := by decide +kernel
theorem dL_law_583 : decode cL_law 583 = .ok (.iload_n 3, 1) := by decide +kernel
theorem dL_law_584 : decode cL_law 584 = .ok (.iconst 1, 1) := by decide +kernel
theorem dL_law_585 : decode cL_law 585 = .ok (.iadd, 1) := by decide +kernel
theorem dL_law_586 : decode cL_law 586 = .ok (.iaload, 1) := by decide +kernel
theorem dL_law_587 : decode cL_law 587 = .ok (.invokevirtual 93, 3) := by decide +kernel
theorem dL_law_590 : decode cL_law 590 = .ok (.aload_n 2, 1) := by decide +kernel
theorem dL_law_591 : decode cL_law 591 = .ok (.aload_n 0, 1) := by decide +kernel
theorem dL_law_592 : decode cL_law 592 = .ok (.iload_n 3, 1) := by decide +kernel
theorem dL_law_593 : decode cL_law 593 = .ok (.iconst 1, 1) := by decide +kernel
theorem dL_law_594 : decode cL_law 594 = .ok (.iadd, 1) := by decide +kernel
theorem dL_law_595 : decode cL_law 595 = .ok (.iaload, 1) := by decide +kernel
theorem dL_law_596 : decode cL_law 596 = .ok (.invokevirtual 96, 3) := by decide +kernel
theorem dL_law_599 : decode cL_law 599 = .ok (.if_icmp .eq 222, 3) := by decide +kernel
theorem dL_law_602 : decode cL_law 602 = .ok (.iconst 0, 1) := by decide +kernel
theorem dL_law_603 : decode cL_law 603 = .ok (.ireturn, 1) := by decide +kernel
theorem dL_law_604 : decode cL_law 604 = .ok (.aload_n 1, 1) := by decide +kernel
theorem dL_law_605 : decode cL_law 605 = .ok (.aload_n 0, 1) := by decide +kernel
theorem dL_law_606 : decode cL_law 606 = .ok (.iload_n 3, 1) := by decide +kernel
theorem dL_law_607 : decode cL_law 607 = .ok (.iconst 1, 1) := by decide +kernel
theorem dL_law_608 : decode cL_law 608 = .ok (.iadd, 1) := by decide +kernel
theorem dL_law_609 : decode cL_law 609 = .ok (.iaload, 1) := by decide +kernel
theorem dL_law_610 : decode cL_law 610 = .ok (.aload_n 0, 1) := by decide +kernel
theorem dL_law_611 : decode cL_law 611 = .ok (.iload_n 3, 1) := by decide +kernel
theorem dL_law_612 : decode cL_law 612 = .ok (.iconst 2, 1) := by decide +kernel
theorem dL_law_613 : decode cL_law 613 = .ok (.iadd, 1) := by decide +kernel
theorem dL_law_614 : decode cL_law 614 = .ok (.iaload, 1) := by decide +kernel
theorem dL_law_615 : decode cL_law 615 = .ok (.invokevirtual 97, 3) := by decide +kernel
theorem dL_law_618 : decode cL_law 618 = .ok (.aload_n 2, 1) := by decide +kernel
theorem dL_law_619 : decode cL_law 619 = .ok (.aload_n 0, 1) := by decide +kernel
theorem dL_law_620 : decode cL_law 620 = .ok (.iload_n 3, 1) := by decide +kernel
theorem dL_law_621 : decode cL_law 621 = .ok (.iconst 1, 1) := by decide +kernel
theorem dL_law_622 : decode cL_law 622 = .ok (.iadd, 1) := by decide +kernel
theorem dL_law_623 : decode cL_law 623 = .ok (.iaload, 1) := by decide +kernel
theorem dL_law_624 : decode cL_law 624 = .ok (.aload_n 0, 1) := by decide +kernel
theorem dL_law_625 : decode cL_law 625 = .ok (.iload_n 3, 1) := by decide +kernel
theorem dL_law_626 : decode cL_law 626 = .ok (.iconst 2, 1) := by decide +kernel
theorem dL_law_627 : decode cL_law 627 = .ok (.iadd, 1) := by decide +kernel
theorem dL_law_628 : decode cL_law 628 = .ok (.iaload, 1) := by decide +kernel
theorem dL_law_629 : decode cL_law 629 = .ok (.invokevirtual 100, 3) := by decide +kernel
theorem dL_law_632 : decode cL_law 632 = .ok (.if_icmp .eq 189, 3) := by decide +kernel
theorem dL_law_635 : decode cL_law 635 = .ok (.iconst 0, 1) := by decide +kernel
theorem dL_law_636 : decode cL_law 636 = .ok (.ireturn, 1) := by decide +kernel
theorem dL_law_637 : decode cL_law 637 = .ok (.aload_n 1, 1) := by decide +kernel
theorem dL_law_638 : decode cL_law 638 = .ok (.aload_n 0, 1) := by decide +kernel
theorem dL_law_639 : decode cL_law 639 = .ok (.iload_n 3, 1) := by decide +kernel
theorem dL_law_640 : decode cL_law 640 = .ok (.iconst 1, 1) := by decide +kernel
theorem dL_law_641 : decode cL_law 641 = .ok (.iadd, 1) := by decide +kernel
theorem dL_law_642 : decode cL_law 642 = .ok (.iaload, 1) := by decide +kernel
theorem dL_law_643 : decode cL_law 643 = .ok (.aload_n 0, 1) := by decide +kernel
theorem dL_law_644 : decode cL_law 644 = .ok (.iload_n 3, 1) := by decide +kernel
theorem dL_law_645 : decode cL_law 645 = .ok (.iconst 2, 1) := by decide +kernel
theorem dL_law_646 : decode cL_law 646 = .ok (.iadd, 1) := by decide +kernel
theorem dL_law_647 : decode cL_law 647 = .ok (.iaload, 1) := by decide +kernel
theorem dL_law_648 : decode cL_law 648 = .ok (.invokevirtual 101, 3) := by decide +kernel
theorem dL_law_651 : decode cL_law 651 = .ok (.aload_n 2, 1) := by decide +kernel
theorem dL_law_652 : decode cL_law 652 = .ok (.aload_n 0, 1) := by decide +kernel
theorem dL_law_653 : decode cL_law 653 = .ok (.iload_n 3, 1) := by decide +kernel
theorem dL_law_654 : decode cL_law 654 = .ok (.iconst 1, 1) := by decide +kernel
theorem dL_law_655 : decode cL_law 655 = .ok (.iadd, 1) := by decide +kernel
theorem dL_law_656 : decode cL_law 656 = .ok (.iaload, 1) := by decide +kernel
theorem dL_law_657 : decode cL_law 657 = .ok (.aload_n 0, 1) := by decide +kernel
theorem dL_law_658 : decode cL_law 658 = .ok (.iload_n 3, 1) := by decide +kernel
theorem dL_law_659 : decode cL_law 659 = .ok (.iconst 2, 1) := by decide +kernel
theorem dL_law_660 : decode cL_law 660 = .ok (.iadd, 1) := by decide +kernel
theorem dL_law_661 : decode cL_law 661 = .ok (.iaload, 1) := by decide +kernel
theorem dL_law_662 : decode cL_law 662 = .ok (.invokevirtual 104, 3) := by decide +kernel
theorem dL_law_665 : decode cL_law 665 = .ok (.if_icmp .eq 156, 3) := by decide +kernel
theorem dL_law_668 : decode cL_law 668 = .ok (.iconst 0, 1) := by decide +kernel
theorem dL_law_669 : decode cL_law 669 = .ok (.ireturn, 1) := by decide +kernel
theorem dL_law_670 : decode cL_law 670 = .ok (.aload_n 1, 1) := by decide +kernel
theorem dL_law_671 : decode cL_law 671 = .ok (.aload_n 0, 1) := by decide +kernel
theorem dL_law_672 : decode cL_law 672 = .ok (.iload_n 3, 1) := by decide +kernel
theorem dL_law_673 : decode cL_law 673 = .ok (.iconst 1, 1) := by decide +kernel
theorem dL_law_674 : decode cL_law 674 = .ok (.iadd, 1) := by decide +kernel
theorem dL_law_675 : decode cL_law 675 = .ok (.iaload, 1) := by decide +kernel
theorem dL_law_676 : decode cL_law 676 = .ok (.aload_n 0, 1) := by decide +kernel
theorem dL_law_677 : decode cL_law 677 = .ok (.iload_n 3, 1) := by decide +kernel
theorem dL_law_678 : decode cL_law 678 = .ok (.iconst 2, 1) := by decide +kernel
theorem dL_law_679 : decode cL_law 679 = .ok (.iadd, 1) := by decide +kernel
theorem dL_law_680 : decode cL_law 680 = .ok (.iaload, 1) := by decide +kernel
theorem dL_law_681 : decode cL_law 681 = .ok (.invokevirtual 105, 3) := by decide +kernel
theorem dL_law_684 : decode cL_law 684 = .ok (.aload_n 2, 1) := by decide +kernel
theorem dL_law_685 : decode cL_law 685 = .ok (.aload_n 0, 1) := by decide +kernel
theorem dL_law_686 : decode cL_law 686 = .ok (.iload_n 3, 1) := by decide +kernel
theorem dL_law_687 : decode cL_law 687 = .ok (.iconst 1, 1) := by decide +kernel
theorem dL_law_688 : decode cL_law 688 = .ok (.iadd, 1) := by decide +kernel
theorem dL_law_689 : decode cL_law 689 = .ok (.iaload, 1) := by decide +kernel
theorem dL_law_690 : decode cL_law 690 = .ok (.aload_n 0, 1) := by decide +kernel
theorem dL_law_691 : decode cL_law 691 = .ok (.iload_n 3, 1) := by decide +kernel
theorem dL_law_692 : decode cL_law 692 = .ok (.iconst 2, 1) := by decide +kernel
theorem dL_law_693 : decode cL_law 693 = .ok (.iadd, 1) := by decide +kernel
theorem dL_law_694 : decode cL_law 694 = .ok (.iaload, 1) := by decide +kernel
theorem dL_law_695 : decode cL_law 695 = .ok (.invokevirtual 108, 3) := by decide +kernel
theorem dL_law_698 : decode cL_law 698 = .ok (.if_icmp .eq 123, 3) := by decide +kernel
theorem dL_law_701 : decode cL_law 701 = .ok (.iconst 0, 1) := by decide +kernel
theorem dL_law_702 : decode cL_law 702 = .ok (.ireturn, 1) := by decide +kernel
theorem dL_law_703 : decode cL_law 703 = .ok (.aload_n 1, 1) := by decide +kernel
theorem dL_law_704 : decode cL_law 704 = .ok (.aload_n 0, 1) := by decide +kernel
theorem dL_law_705 : decode cL_law 705 = .ok (.iload_n 3, 1) := by decide +kernel
theorem dL_law_706 : decode cL_law 706 = .ok (.iconst 1, 1) := by decide +kernel
theorem dL_law_707 : decode cL_law 707 = .ok (.iadd, 1) := by decide +kernel
theorem dL_law_708 : decode cL_law 708 = .ok (.iaload, 1) := by decide +kernel
theorem dL_law_709 : decode cL_law 709 = .ok (.invokevirtual 109, 3) := by decide +kernel
theorem dL_law_712 : decode cL_law 712 = .ok (.aload_n 2, 1) := by decide +kernel
theorem dL_law_713 : decode cL_law 713 = .ok (.aload_n 0, 1) := by decide +kernel
theorem dL_law_714 : decode cL_law 714 = .ok (.iload_n 3, 1) := by decide +kernel
theorem dL_law_715 : decode cL_law 715 = .ok (.iconst 1, 1) := by decide +kernel
theorem dL_law_716 : decode cL_law 716 = .ok (.iadd, 1) := by decide +kernel
theorem dL_law_717 : decode cL_law 717 = .ok (.iaload, 1) := by decide +kernel
theorem dL_law_718 : decode cL_law 718 = .ok (.invokevirtual 112, 3) := by decide +kernel
theorem dL_law_721 : decode cL_law 721 = .ok (.if_icmp .eq 100, 3) := by decide +kernel
theorem dL_law_724 : decode cL_law 724 = .ok (.iconst 0, 1) := by decide +kernel
theorem dL_law_725 : decode cL_law 725 = .ok (.ireturn, 1) := by decide +kernel
theorem dL_law_726 : decode cL_law 726 = .ok (.aload_n 1, 1) := by decide +kernel
theorem dL_law_727 : decode cL_law 727 = .ok (.invokevirtual 113, 3) := by decide +kernel
theorem dL_law_730 : decode cL_law 730 = .ok (.aload_n 2, 1) := by decide +kernel
theorem dL_law_731 : decode cL_law 731 = .ok (.invokevirtual 116, 3) := by decide +kernel
theorem dL_law_734 : decode cL_law 734 = .ok (.if_icmp .eq 87, 3) := by decide +kernel
theorem dL_law_737 : decode cL_law 737 = .ok (.iconst 0, 1) := by decide +kernel
theorem dL_law_738 : decode cL_law 738 = .ok (.ireturn, 1) := by decide +kernel
theorem dL_law_739 : decode cL_law 739 = .ok (.aload_n 1, 1) := by decide +kernel
theorem dL_law_740 : decode cL_law 740 = .ok (.aload_n 0, 1) := by decide +kernel
theorem dL_law_741 : decode cL_law 741 = .ok (.iload_n 3, 1) := by decide +kernel
theorem dL_law_742 : decode cL_law 742 = .ok (.iconst 1, 1) := by decide +kernel
theorem dL_law_743 : decode cL_law 743 = .ok (.iadd, 1) := by decide +kernel
theorem dL_law_744 : decode cL_law 744 = .ok (.iaload, 1) := by decide +kernel
theorem dL_law_745 : decode cL_law 745 = .ok (.aload_n 0, 1) := by decide +kernel
theorem dL_law_746 : decode cL_law 746 = .ok (.iload_n 3, 1) := by decide +kernel
theorem dL_law_747 : decode cL_law 747 = .ok (.iconst 2, 1) := by decide +kernel
theorem dL_law_748 : decode cL_law 748 = .ok (.iadd, 1) := by decide +kernel
theorem dL_law_749 : decode cL_law 749 = .ok (.iaload, 1) := by decide +kernel
theorem dL_law_750 : decode cL_law 750 = .ok (.invokevirtual 117, 3) := by decide +kernel
theorem dL_law_753 : decode cL_law 753 = .ok (.aload_n 2, 1) := by decide +kernel
theorem dL_law_754 : decode cL_law 754 = .ok (.aload_n 0, 1) := by decide +kernel
theorem dL_law_755 : decode cL_law 755 = .ok (.iload_n 3, 1) := by decide +kernel
theorem dL_law_756 : decode cL_law 756 = .ok (.iconst 1, 1) := by decide +kernel
theorem dL_law_757 : decode cL_law 757 = .ok (.iadd, 1) := by decide +kernel
theorem dL_law_758 : decode cL_law 758 = .ok (.iaload, 1) := by decide +kernel
theorem dL_law_759 : decode cL_law 759 = .ok (.aload_n 0, 1) := by decide +kernel
theorem dL_law_760 : decode cL_law 760 = .ok (.iload_n 3, 1) := by decide +kernel
theorem dL_law_761 : decode cL_law 761 = .ok (.iconst 2, 1) := by decide +kernel
theorem dL_law_762 : decode cL_law 762 = .ok (.iadd, 1) := by decide +kernel
theorem dL_law_763 : decode cL_law 763 = .ok (.iaload, 1) := by decide +kernel
theorem dL_law_764 : decode cL_law 764 = .ok (.invokevirtual 120, 3) := by decide +kernel
theorem dL_law_767 : decode cL_law 767 = .ok (.if_icmp .eq 54, 3) := by decide +kernel
theorem dL_law_770 : decode cL_law 770 = .ok (.iconst 0, 1) := by decide +kernel
theorem dL_law_771 : decode cL_law 771 = .ok (.ireturn, 1) := by decide +kernel
theorem dL_law_772 : decode cL_law 772 = .ok (.aload_n 1, 1) := by decide +kernel
theorem dL_law_773 : decode cL_law 773 = .ok (.invokevirtual 121, 3) := by decide +kernel
theorem dL_law_776 : decode cL_law 776 = .ok (.aload_n 2, 1) := by decide +kernel
theorem dL_law_777 : decode cL_law 777 = .ok (.invokevirtual 124, 3) := by decide +kernel
theorem dL_law_780 : decode cL_law 780 = .ok (.if_icmp .eq 41, 3) := by decide +kernel
theorem dL_law_783 : decode cL_law 783 = .ok (.iconst 0, 1) := by decide +kernel
theorem dL_law_784 : decode cL_law 784 = .ok (.ireturn, 1) := by decide +kernel
theorem dL_law_785 : decode cL_law 785 = .ok (.aload_n 1, 1) := by decide +kernel
theorem dL_law_786 : decode cL_law 786 = .ok (.invokevirtual 125, 3) := by decide +kernel
theorem dL_law_789 : decode cL_law 789 = .ok (.aload_n 2, 1) := by decide +kernel
theorem dL_law_790 : decode cL_law 790 = .ok (.invokevirtual 128, 3) := by decide +kernel
theorem dL_law_793 : decode cL_law 793 = .ok (.if_icmp .eq 28, 3) := by decide +kernel
theorem dL_law_796 : decode cL_law 796 = .ok (.iconst 0, 1) := by decide +kernel
theorem dL_law_797 : decode cL_law 797 = .ok (.ireturn, 1) := by decide +kernel
theorem dL_law_798 : decode cL_law 798 = .ok (.aload_n 1, 1) := by decide +kernel
theorem dL_law_799 : decode cL_law 799 = .ok (.aload_n 0, 1) := by decide +kernel
theorem dL_law_800 : decode cL_law 800 = .ok (.iload_n 3, 1) := by decide +kernel
theorem dL_law_801 : decode cL_law 801 = .ok (.iconst 1, 1) := by decide +kernel
theorem dL_law_802 : decode cL_law 802 = .ok (.iadd, 1) := by decide +kernel
theorem dL_law_803 : decode cL_law 803 = .ok (.iaload, 1) := by decide +kernel
theorem dL_law_804 : decode cL_law 804 = .ok (.invokevirtual 129, 3) := by decide +kernel
theorem dL_law_807 : decode cL_law 807 = .ok (.aload_n 2, 1) := by decide +kernel
theorem dL_law_808 : decode cL_law 808 = .ok (.aload_n 0, 1) := by decide +kernel
theorem dL_law_809 : decode cL_law 809 = .ok (.iload_n 3, 1) := by decide +kernel
theorem dL_law_810 : decode cL_law 810 = .ok (.iconst 1, 1) := by decide +kernel
theorem dL_law_811 : decode cL_law 811 = .ok (.iadd, 1) := by decide +kernel
theorem dL_law_812 : decode cL_law 812 = .ok (.iaload, 1) := by decide +kernel
theorem dL_law_813 : decode cL_law 813 = .ok (.invokevirtual 132, 3) := by decide +kernel
theorem dL_law_816 : decode cL_law 816 = .ok (.if_icmp .eq 5, 3) := by decide +kernel
theorem dL_law_819 : decode cL_law 819 = .ok (.iconst 0, 1) := by decide +kernel
theorem dL_law_820 : decode cL_law 820 = .ok (.ireturn, 1) := by decide +kernel
theorem dL_law_821 : decode cL_law 821 = .ok (.iinc 3 4, 3) := by decide +kernel
theorem dL_law_824 : decode cL_law 824 = .ok (.goto (-806), 3) := by decide +kernel
theorem dL_law_827 : decode cL_law 827 = .ok (.iconst 1, 1) := by decide +kernel
theorem dL_law_828 : decode cL_law 828 = .ok (.ireturn, 1) := by decide +kernel
end
section
theorem fl_X2_39 : Cond.fieldLink RX2 39 (TX2 0).1 (TX2 0).2.1 (TX2 0).2.2.1 ∈ TBg := tb_of 116 (by decide +kernel) (by decide +kernel)
theorem fl_X2_9 : Cond.fieldLink RX2 9 (TX2 1).1 (TX2 1).2.1 (TX2 1).2.2.1 ∈ TBg := tb_of 117 (by decide +kernel) (by decide +kernel)
theorem fl_X8_90 : Cond.fieldLink RX8 90 (TX2 1).1 (TX2 1).2.1 (TX2 1).2.2.1 ∈ TBg := tb_of 118 (by decide +kernel) (by decide +kernel)
theorem fl_X2_15 : Cond.fieldLink RX2 15 (TX2 2).1 (TX2 2).2.1 (TX2 2).2.2.1 ∈ TBg := tb_of 119 (by decide +kernel) (by decide +kernel)
theorem fl_X8_93 : Cond.fieldLink RX8 93 (TX2 2).1 (TX2 2).2.1 (TX2 2).2.2.1 ∈ TBg := tb_of 120 (by decide +kernel) (by decide +kernel)
theorem fl_X2_18 : Cond.fieldLink RX2 18 (TX2 3).1 (TX2 3).2.1 (TX2 3).2.2.1 ∈ TBg := tb_of 121 (by decide +kernel) (by decide +kernel)
theorem fl_X8_96 : Cond.fieldLink RX8 96 (TX2 3).1 (TX2 3).2.1 (TX2 3).2.2.1 ∈ TBg := tb_of 122 (by decide +kernel) (by decide +kernel)
theorem fl_X6_9 : Cond.fieldLink RX6 9 (TX2 4).1 (TX2 4).2.1 (TX2 4).2.2.1 ∈ TBg := tb_of 123 (by decide +kernel) (by decide +kernel)
theorem fl_X2_49 : Cond.fieldLink RX2 49 (TX2 4).1 (TX2 4).2.1 (TX2 4).2.2.1 ∈ TBg := tb_of 124 (by decide +kernel) (by decide +kernel)
theorem fl_X8_68 : Cond.fieldLink RX8 68 (TX2 4).1 (TX2 4).2.1 (TX2 4).2.2.1 ∈ TBg := tb_of 125 (by decide +kernel) (by decide +kernel)
theorem fl_X2_21 : Cond.fieldLink RX2 21 (TX2 5).1 (TX2 5).2.1 (TX2 5).2.2.1 ∈ TBg := tb_of 126 (by decide +kernel) (by decide +kernel)
theorem fl_X8_115 : Cond.fieldLink RX8 115 (TX2 5).1 (TX2 5).2.1 (TX2 5).2.2.1 ∈ TBg := tb_of 127 (by decide +kernel) (by decide +kernel)
theorem fl_X2_24 : Cond.fieldLink RX2 24 (TX2 6).1 (TX2 6).2.1 (TX2 6).2.2.1 ∈ TBg := tb_of 128 (by decide +kernel) (by decide +kernel)
theorem fl_X8_118 : Cond.fieldLink RX8 118 (TX2 6).1 (TX2 6).2.1 (TX2 6).2.2.1 ∈ TBg := tb_of 129 (by decide +kernel) (by decide +kernel)
theorem fl_X2_27 : Cond.fieldLink RX2 27 (TX2 7).1 (TX2 7).2.1 (TX2 7).2.2.1 ∈ TBg := tb_of 130 (by decide +kernel) (by decide +kernel)
theorem fl_X8_121 : Cond.fieldLink RX8 121 (TX2 7).1 (TX2 7).2.1 (TX2 7).2.2.1 ∈ TBg := tb_of 131 (by decide +kernel) (by decide +kernel)
theorem fl_X2_30 : Cond.fieldLink RX2 30 (TX2 8).1 (TX2 8).2.1 (TX2 8).2.2.1 ∈ TBg := tb_of 132 (by decide +kernel) (by decide +kernel)
theorem fl_X8_124 : Cond.fieldLink RX8 124 (TX2 8).1 (TX2 8).2.1 (TX2 8).2.2.1 ∈ TBg := tb_of 133 (by decide +kernel) (by decide +kernel)
theorem fl_X2_53 : Cond.fieldLink RX2 53 (TX2 9).1 (TX2 9).2.1 (TX2 9).2.2.1 ∈ TBg := tb_of 134 (by decide +kernel) (by decide +kernel)
theorem fl_X8_72 : Cond.fieldLink RX8 72 (TX2 9).1 (TX2 9).2.1 (TX2 9).2.2.1 ∈ TBg := tb_of 135 (by decide +kernel) (by decide +kernel)
theorem fl_X2_33 : Cond.fieldLink RX2 33 (TX2 10).1 (TX2 10).2.1 (TX2 10).2.2.1 ∈ TBg := tb_of 136 (by decide +kernel) (by decide +kernel)
theorem fl_X8_138 : Cond.fieldLink RX8 138 (TX2 10).1 (TX2 10).2.1 (TX2 10).2.2.1 ∈ TBg := tb_of 137 (by decide +kernel) (by decide +kernel)
theorem fl_X2_36 : Cond.fieldLink RX2 36 (TX2 11).1 (TX2 11).2.1 (TX2 11).2.2.1 ∈ TBg := tb_of 138 (by decide +kernel) (by decide +kernel)
theorem fl_X8_194 : Cond.fieldLink RX8 194 (TX2 11).1 (TX2 11).2.1 (TX2 11).2.2.1 ∈ TBg := tb_of 139 (by decide +kernel) (by decide +kernel)
theorem fl_X2_56 : Cond.fieldLink RX2 56 (TX2 12).1 (TX2 12).2.1 (TX2 12).2.2.1 ∈ TBg := tb_of 140 (by decide +kernel) (by decide +kernel)
theorem fl_X8_153 : Cond.fieldLink RX8 153 (TX2 12).1 (TX2 12).2.1 (TX2 12).2.2.1 ∈ TBg := tb_of 141 (by decide +kernel) (by decide +kernel)
theorem fl_X2_59 : Cond.fieldLink RX2 59 (TX2 13).1 (TX2 13).2.1 (TX2 13).2.2.1 ∈ TBg := tb_of 142 (by decide +kernel) (by decide +kernel)
theorem fl_X8_105 : Cond.fieldLink RX8 105 (TX2 13).1 (TX2 13).2.1 (TX2 13).2.2.1 ∈ TBg := tb_of 143 (by decide +kernel) (by decide +kernel)
theorem fl_X4_9 : Cond.fieldLink RX4 9 (TX4 0).1 (TX4 0).2.1 (TX4 0).2.2.1 ∈ TBg := tb_of 180 (by decide +kernel) (by decide +kernel)
theorem fl_X4_15 : Cond.fieldLink RX4 15 (TX4 1).1 (TX4 1).2.1 (TX4 1).2.2.1 ∈ TBg := tb_of 181 (by decide +kernel) (by decide +kernel)
theorem fl_X8_239 : Cond.fieldLink RX8 239 (TX4 1).1 (TX4 1).2.1 (TX4 1).2.2.1 ∈ TBg := tb_of 182 (by decide +kernel) (by decide +kernel)
theorem fl_X8_30 : Cond.fieldLink RX8 30 (TX8 0).1 (TX8 0).2.1 (TX8 0).2.2.1 ∈ TBg := tb_of 189 (by decide +kernel) (by decide +kernel)
theorem fl_X8_36 : Cond.fieldLink RX8 36 (TX8 1).1 (TX8 1).2.1 (TX8 1).2.2.1 ∈ TBg := tb_of 190 (by decide +kernel) (by decide +kernel)
theorem fl_X8_39 : Cond.fieldLink RX8 39 (TX8 2).1 (TX8 2).2.1 (TX8 2).2.2.1 ∈ TBg := tb_of 191 (by decide +kernel) (by decide +kernel)
theorem fl_X8_232 : Cond.fieldLink RX8 232 (TX8 3).1 (TX8 3).2.1 (TX8 3).2.2.1 ∈ TBg := tb_of 192 (by decide +kernel) (by decide +kernel)
theorem fl_X8_45 : Cond.fieldLink RX8 45 (TX8 4).1 (TX8 4).2.1 (TX8 4).2.2.1 ∈ TBg := tb_of 193 (by decide +kernel) (by decide +kernel)
theorem fl_X8_49 : Cond.fieldLink RX8 49 (TX8 5).1 (TX8 5).2.1 (TX8 5).2.2.1 ∈ TBg := tb_of 194 (by decide +kernel) (by decide +kernel)
theorem fl_X8_202 : Cond.fieldLink RX8 202 (TX8 6).1 (TX8 6).2.1 (TX8 6).2.2.1 ∈ TBg := tb_of 195 (by decide +kernel) (by decide +kernel)
theorem fl_X8_53 : Cond.fieldLink RX8 53 (TX8 7).1 (TX8 7).2.1 (TX8 7).2.2.1 ∈ TBg := tb_of 196 (by decide +kernel) (by decide +kernel)
theorem fl_J0_38 : Cond.fieldLink RJ0 38 "java/lang/String" "COMPACT_STRINGS" "Z" ∈ TBg := tb_of 266 (by decide +kernel) (by decide +kernel)
theorem fl_J0_1053 : Cond.fieldLink RJ0 1053 "jdk/internal/util/Preconditions" "SIOOBE_FORMATTER" "Ljava/util/function/BiFunction;" ∈ TBg := tb_of 282 (by decide +kernel) (by decide +kernel)
theorem fl_J2_44 : Cond.fieldLink RJ2 44 "java/lang/StringUTF16" "$assertionsDisabled" "Z" ∈ TBg := tb_of 300 (by decide +kernel) (by decide +kernel)
theorem fl_J2_59 : Cond.fieldLink RJ2 59 "java/lang/StringUTF16" "HI_BYTE_SHIFT" "I" ∈ TBg := tb_of 302 (by decide +kernel) (by decide +kernel)
theorem fl_J2_63 : Cond.fieldLink RJ2 63 "java/lang/StringUTF16" "LO_BYTE_SHIFT" "I" ∈ TBg := tb_of 304 (by decide +kernel) (by decide +kernel)
theorem fl_X9_7 : Cond.fieldLink RX9 7 (TX9 0).1 (TX9 0).2.1 (TX9 0).2.2.1 ∈ TBg := tb_of 713 (by decide +kernel) (by decide +kernel)
theorem fl_X9_13 : Cond.fieldLink RX9 13 (TX9 1).1 (TX9 1).2.1 (TX9 1).2.2.1 ∈ TBg := tb_of 714 (by decide +kernel) (by decide +kernel)
theorem fl_X9_16 : Cond.fieldLink RX9 16 (TX9 2).1 (TX9 2).2.1 (TX9 2).2.2.1 ∈ TBg := tb_of 715 (by decide +kernel) (by decide +kernel)
theorem fl_X9_19 : Cond.fieldLink RX9 19 (TX9 3).1 (TX9 3).2.1 (TX9 3).2.2.1 ∈ TBg := tb_of 716 (by decide +kernel) (by decide +kernel)
theorem fl_X9_22 : Cond.fieldLink RX9 22 (TX9 4).1 (TX9 4).2.1 (TX9 4).2.2.1 ∈ TBg := tb_of 717 (by decide +kernel) (by decide +kernel)
theorem fl_X9_25 : Cond.fieldLink RX9 25 (TX9 5).1 (TX9 5).2.1 (TX9 5).2.2.1 ∈ TBg := tb_of 718 (by decide +kernel) (by decide +kernel)
theorem fl_X9_28 : Cond.fieldLink RX9 28 (TX9 6).1 (TX9 6).2.1 (TX9 6).2.2.1 ∈ TBg := tb_of 719 (by decide +kernel) (by decide +kernel)
theorem fl_X9_31 : Cond.fieldLink RX9 31 (TX9 7).1 (TX9 7).2.1 (TX9 7).2.2.1 ∈ TBg := tb_of 720 (by decide +kernel) (by decide +kernel)
theorem fl_X9_34 : Cond.fieldLink RX9 34 (TX9 8).1 (TX9 8).2.1 (TX9 8).2.2.1 ∈ TBg := tb_of 721 (by decide +kernel) (by decide +kernel)
theorem fl_X9_37 : Cond.fieldLink RX9 37 (TX9 9).1 (TX9 9).2.1 (TX9 9).2.2.1 ∈ TBg := tb_of 722 (by decide +kernel) (by decide +kernel)
theorem fl_X9_59 : Cond.fieldLink RX9 59 (TX9 10).1 (TX9 10).2.1 (TX9 10).2.2.1 ∈ TBg := tb_of 723 (by decide +kernel) (by decide +kernel)
theorem fl_X9_63 : Cond.fieldLink RX9 63 (TX9 11).1 (TX9 11).2.1 (TX9 11).2.2.1 ∈ TBg := tb_of 724 (by decide +kernel) (by decide +kernel)
theorem fl_X9_139 : Cond.fieldLink RX9 139 (TX9 12).1 (TX9 12).2.1 (TX9 12).2.2.1 ∈ TBg := tb_of 725 (by decide +kernel) (by decide +kernel)
theorem fl_X9_142 : Cond.fieldLink RX9 142 (TX9 13).1 (TX9 13).2.1 (TX9 13).2.2.1 ∈ TBg := tb_of 726 (by decide +kernel) (by decide +kernel)
theorem fl_X9_40 : Cond.fieldLink RX9 40 (TX9 14).1 (TX9 14).2.1 (TX9 14).2.2.1 ∈ TBg := tb_of 727 (by decide +kernel) (by decide +kernel)
theorem fl_X9_43 : Cond.fieldLink RX9 43 (TX9 15).1 (TX9 15).2.1 (TX9 15).2.2.1 ∈ TBg := tb_of 728 (by decide +kernel) (by decide +kernel)
theorem fl_X9_46 : Cond.fieldLink RX9 46 (TX9 16).1 (TX9 16).2.1 (TX9 16).2.2.1 ∈ TBg := tb_of 729 (by decide +kernel) (by decide +kernel)
theorem fl_X9_49 : Cond.fieldLink RX9 49 (TX9 17).1 (TX9 17).2.1 (TX9 17).2.2.1 ∈ TBg := tb_of 730 (by decide +kernel) (by decide +kernel)
theorem fl_X9_70 : Cond.fieldLink RX9 70 (TX9 18).1 (TX9 18).2.1 (TX9 18).2.2.1 ∈ TBg := tb_of 731 (by decide +kernel) (by decide +kernel)
theorem fl_X9_77 : Cond.fieldLink RX9 77 (TX9 19).1 (TX9 19).2.1 (TX9 19).2.2.1 ∈ TBg := tb_of 732 (by decide +kernel) (by decide +kernel)
theorem fl_X9_91 : Cond.fieldLink RX9 91 (TX9 20).1 (TX9 20).2.1 (TX9 20).2.2.1 ∈ TBg := tb_of 733 (by decide +kernel) (by decide +kernel)
theorem fl_X9_52 : Cond.fieldLink RX9 52 (TX9 21).1 (TX9 21).2.1 (TX9 21).2.2.1 ∈ TBg := tb_of 734 (by decide +kernel) (by decide +kernel)
theorem fl_X9_145 : Cond.fieldLink RX9 145 (TX9 22).1 (TX9 22).2.1 (TX9 22).2.2.1 ∈ TBg := tb_of 735 (by decide +kernel) (by decide +kernel)
theorem fl_X9_125 : Cond.fieldLink RX9 125 (TX9 23).1 (TX9 23).2.1 (TX9 23).2.2.1 ∈ TBg := tb_of 736 (by decide +kernel) (by decide +kernel)
theorem fl_X9_129 : Cond.fieldLink RX9 129 (TX9 24).1 (TX9 24).2.1 (TX9 24).2.2.1 ∈ TBg := tb_of 737 (by decide +kernel) (by decide +kernel)
theorem fl_X9_55 : Cond.fieldLink RX9 55 (TX9 25).1 (TX9 25).2.1 (TX9 25).2.2.1 ∈ TBg := tb_of 738 (by decide +kernel) (by decide +kernel)
theorem fl_X9_200 : Cond.fieldLink RX9 200 (TX9 26).1 (TX9 26).2.1 (TX9 26).2.2.1 ∈ TBg := tb_of 739 (by decide +kernel) (by decide +kernel)
theorem fl_J0_9 : Cond.fieldLink RJ0 9 "java/lang/String" "value" "[B" ∈ TBg := tb_of 1051 (by decide +kernel) (by decide +kernel)
theorem fl_J0_15 : Cond.fieldLink RJ0 15 "java/lang/String" "coder" "B" ∈ TBg := tb_of 1052 (by decide +kernel) (by decide +kernel)
theorem con_J2_227 : Cond.constant RJ2 227 (65536) ∈ TBg := tb_of 339 (by decide +kernel) (by decide +kernel)
theorem con_J11_110 : Cond.constant RJ11 110 (55232) ∈ TBg := tb_of 364 (by decide +kernel) (by decide +kernel)
theorem con_J11_76 : Cond.constant RJ11 76 (56320) ∈ TBg := tb_of 368 (by decide +kernel) (by decide +kernel)
theorem con_J6_265 : Cond.constant RJ6 265 (1431655765) ∈ TBg := tb_of 540 (by decide +kernel) (by decide +kernel)
theorem con_J6_266 : Cond.constant RJ6 266 (858993459) ∈ TBg := tb_of 541 (by decide +kernel) (by decide +kernel)
theorem con_J6_267 : Cond.constant RJ6 267 (252645135) ∈ TBg := tb_of 542 (by decide +kernel) (by decide +kernel)
theorem con_X8_197 : Cond.constant RX8 197 (1000000000) ∈ TBg := tb_of 633 (by decide +kernel) (by decide +kernel)
theorem con_X8_225 : Cond.constant RX8 225 (1664525) ∈ TBg := tb_of 680 (by decide +kernel) (by decide +kernel)
theorem con_X8_226 : Cond.constant RX8 226 (1013904223) ∈ TBg := tb_of 681 (by decide +kernel) (by decide +kernel)
theorem con_X8_227 : Cond.constant RX8 227 (2147483647) ∈ TBg := tb_of 682 (by decide +kernel) (by decide +kernel)
theorem con_X9_58 : Cond.constant RX9 58 (1000000000) ∈ TBg := tb_of 998 (by decide +kernel) (by decide +kernel)
theorem con_X9_206 : Cond.constant RX9 206 (1664525) ∈ TBg := tb_of 1039 (by decide +kernel) (by decide +kernel)
theorem con_X9_207 : Cond.constant RX9 207 (1013904223) ∈ TBg := tb_of 1040 (by decide +kernel) (by decide +kernel)
theorem con_X9_208 : Cond.constant RX9 208 (2147483647) ∈ TBg := tb_of 1041 (by decide +kernel) (by decide +kernel)
theorem cl_L_7 : Cond.classLink RL 7 RX8 ∈ TBg := tb_of 59 (by decide +kernel) (by decide +kernel)
theorem cl_X8_7 : Cond.classLink RX8 7 RX6 ∈ TBg := tb_of 67 (by decide +kernel) (by decide +kernel)
theorem cl_X8_10 : Cond.classLink RX8 10 RX7 ∈ TBg := tb_of 75 (by decide +kernel) (by decide +kernel)
theorem cl_X8_13 : Cond.classLink RX8 13 RX0 ∈ TBg := tb_of 82 (by decide +kernel) (by decide +kernel)
theorem cl_X8_16 : Cond.classLink RX8 16 RX5 ∈ TBg := tb_of 89 (by decide +kernel) (by decide +kernel)
theorem cl_X8_19 : Cond.classLink RX8 19 RX3 ∈ TBg := tb_of 96 (by decide +kernel) (by decide +kernel)
theorem cl_X8_22 : Cond.classLink RX8 22 RX1 ∈ TBg := tb_of 103 (by decide +kernel) (by decide +kernel)
theorem cl_X8_25 : Cond.classLink RX8 25 RX2 ∈ TBg := tb_of 110 (by decide +kernel) (by decide +kernel)
theorem cl_X8_42 : Cond.classLink RX8 42 RX4 ∈ TBg := tb_of 174 (by decide +kernel) (by decide +kernel)
theorem cl_L_10 : Cond.classLink RL 10 RX9 ∈ TBg := tb_of 707 (by decide +kernel) (by decide +kernel)
theorem ini_L : Cond.initialized RL ∈ TBg := tb_of 40 (by decide +kernel) (by decide +kernel)
theorem ini_X8 : Cond.initialized RX8 ∈ TBg := tb_of 41 (by decide +kernel) (by decide +kernel)
theorem ini_X6 : Cond.initialized RX6 ∈ TBg := tb_of 42 (by decide +kernel) (by decide +kernel)
theorem ini_X7 : Cond.initialized RX7 ∈ TBg := tb_of 43 (by decide +kernel) (by decide +kernel)
theorem ini_X0 : Cond.initialized RX0 ∈ TBg := tb_of 44 (by decide +kernel) (by decide +kernel)
theorem ini_X5 : Cond.initialized RX5 ∈ TBg := tb_of 45 (by decide +kernel) (by decide +kernel)
theorem ini_X3 : Cond.initialized RX3 ∈ TBg := tb_of 46 (by decide +kernel) (by decide +kernel)
theorem ini_X1 : Cond.initialized RX1 ∈ TBg := tb_of 47 (by decide +kernel) (by decide +kernel)
theorem ini_X2 : Cond.initialized RX2 ∈ TBg := tb_of 48 (by decide +kernel) (by decide +kernel)
theorem ini_X4 : Cond.initialized RX4 ∈ TBg := tb_of 49 (by decide +kernel) (by decide +kernel)
theorem ini_X9 : Cond.initialized RX9 ∈ TBg := tb_of 50 (by decide +kernel) (by decide +kernel)
theorem ini_J0 : Cond.initialized RJ0 ∈ TBg := tb_of 51 (by decide +kernel) (by decide +kernel)
theorem ini_J1 : Cond.initialized RJ1 ∈ TBg := tb_of 52 (by decide +kernel) (by decide +kernel)
theorem ini_J3 : Cond.initialized RJ3 ∈ TBg := tb_of 53 (by decide +kernel) (by decide +kernel)
theorem ini_J2 : Cond.initialized RJ2 ∈ TBg := tb_of 54 (by decide +kernel) (by decide +kernel)
theorem ini_J9 : Cond.initialized RJ9 ∈ TBg := tb_of 55 (by decide +kernel) (by decide +kernel)
theorem ini_J11 : Cond.initialized RJ11 ∈ TBg := tb_of 56 (by decide +kernel) (by decide +kernel)
theorem ini_J6 : Cond.initialized RJ6 ∈ TBg := tb_of 57 (by decide +kernel) (by decide +kernel)
theorem ini_J10 : Cond.initialized RJ10 ∈ TBg := tb_of 58 (by decide +kernel) (by decide +kernel)
theorem ins_X8 : Cond.instantiable RX8 8 ∈ TBg := tb_of 60 (by decide +kernel) (by decide +kernel)
theorem ins_X6 : Cond.instantiable RX6 0 ∈ TBg := tb_of 69 (by decide +kernel) (by decide +kernel)
theorem ins_X7 : Cond.instantiable RX7 0 ∈ TBg := tb_of 76 (by decide +kernel) (by decide +kernel)
theorem ins_X0 : Cond.instantiable RX0 0 ∈ TBg := tb_of 83 (by decide +kernel) (by decide +kernel)
theorem ins_X5 : Cond.instantiable RX5 0 ∈ TBg := tb_of 90 (by decide +kernel) (by decide +kernel)
theorem ins_X3 : Cond.instantiable RX3 0 ∈ TBg := tb_of 97 (by decide +kernel) (by decide +kernel)
theorem ins_X1 : Cond.instantiable RX1 0 ∈ TBg := tb_of 104 (by decide +kernel) (by decide +kernel)
theorem ins_X2 : Cond.instantiable RX2 14 ∈ TBg := tb_of 111 (by decide +kernel) (by decide +kernel)
theorem ins_X4 : Cond.instantiable RX4 2 ∈ TBg := tb_of 175 (by decide +kernel) (by decide +kernel)
theorem ins_X9 : Cond.instantiable RX9 27 ∈ TBg := tb_of 708 (by decide +kernel) (by decide +kernel)
theorem cod_X8_init : Cond.code yX8_init cX8_init 2 none ∈ TBg := tb_of 63 (by decide +kernel) (by decide +kernel)
theorem cod_X6_init : Cond.code yX6_init cX6_init 1 none ∈ TBg := tb_of 72 (by decide +kernel) (by decide +kernel)
theorem cod_X7_init : Cond.code yX7_init cX7_init 1 none ∈ TBg := tb_of 79 (by decide +kernel) (by decide +kernel)
theorem cod_X0_init : Cond.code yX0_init cX0_init 1 none ∈ TBg := tb_of 86 (by decide +kernel) (by decide +kernel)
theorem cod_X5_init : Cond.code yX5_init cX5_init 1 none ∈ TBg := tb_of 93 (by decide +kernel) (by decide +kernel)
theorem cod_X3_init : Cond.code yX3_init cX3_init 1 none ∈ TBg := tb_of 100 (by decide +kernel) (by decide +kernel)
theorem cod_X1_init : Cond.code yX1_init cX1_init 1 none ∈ TBg := tb_of 107 (by decide +kernel) (by decide +kernel)
theorem cod_X2_init : Cond.code yX2_init cX2_init 2 none ∈ TBg := tb_of 114 (by decide +kernel) (by decide +kernel)
theorem cod_X4_init : Cond.code yX4_init cX4_init 1 none ∈ TBg := tb_of 178 (by decide +kernel) (by decide +kernel)
theorem cod_X8_letter : Cond.code yX8_letter cX8_letter 2 (some .int) ∈ TBg := tb_of 217 (by decide +kernel) (by decide +kernel)
theorem cod_X8_refuse : Cond.code yX8_refuse cX8_refuse 3 (some .int) ∈ TBg := tb_of 221 (by decide +kernel) (by decide +kernel)
theorem cod_X4_isFull : Cond.code yX4_isFull cX4_isFull 1 (some .boolean) ∈ TBg := tb_of 225 (by decide +kernel) (by decide +kernel)
theorem cod_X4_add : Cond.code yX4_add cX4_add 2 (some .int) ∈ TBg := tb_of 229 (by decide +kernel) (by decide +kernel)
theorem cod_X8_text : Cond.code yX8_text cX8_text 2 (some .int) ∈ TBg := tb_of 234 (by decide +kernel) (by decide +kernel)
theorem cod_X4_fault : Cond.code yX4_fault cX4_fault 5 (some .int) ∈ TBg := tb_of 238 (by decide +kernel) (by decide +kernel)
theorem cod_X4_misspeltPlace : Cond.code yX4_misspeltPlace cX4_misspeltPlace 4 (some .int) ∈ TBg := tb_of 242 (by decide +kernel) (by decide +kernel)
theorem cod_X4_letterAt : Cond.code yX4_letterAt cX4_letterAt 2 (some .char) ∈ TBg := tb_of 246 (by decide +kernel) (by decide +kernel)
theorem cod_X4_formBehind : Cond.code yX4_formBehind cX4_formBehind 1 (some (.object "java/lang/String")) ∈ TBg := tb_of 249 (by decide +kernel) (by decide +kernel)
theorem cod_J0_isEmpty_aae02 : Cond.code yJ0_isEmpty_aae02 cJ0_isEmpty_aae02 1 (some .boolean) ∈ TBg := tb_of 257 (by decide +kernel) (by decide +kernel)
theorem cod_J0_length_8abf5 : Cond.code yJ0_length_8abf5 cJ0_length_8abf5 1 (some .int) ∈ TBg := tb_of 261 (by decide +kernel) (by decide +kernel)
theorem cod_J0_coder_7d493 : Cond.code yJ0_coder_7d493 cJ0_coder_7d493 1 (some .byte) ∈ TBg := tb_of 265 (by decide +kernel) (by decide +kernel)
theorem cod_J0_charAt_5068e : Cond.code yJ0_charAt_5068e cJ0_charAt_5068e 2 (some .char) ∈ TBg := tb_of 271 (by decide +kernel) (by decide +kernel)
theorem cod_J0_isLatin1_aae02 : Cond.code yJ0_isLatin1_aae02 cJ0_isLatin1_aae02 1 (some .boolean) ∈ TBg := tb_of 275 (by decide +kernel) (by decide +kernel)
theorem cod_J1_charAt_3b067 : Cond.code yJ1_charAt_3b067 cJ1_charAt_3b067 2 (some .char) ∈ TBg := tb_of 278 (by decide +kernel) (by decide +kernel)
theorem cod_J0_checkIndex_df160 : Cond.code yJ0_checkIndex_df160 cJ0_checkIndex_df160 2 none ∈ TBg := tb_of 281 (by decide +kernel) (by decide +kernel)
theorem cod_J3_checkIndex_8e157 : Cond.code yJ3_checkIndex_8e157 cJ3_checkIndex_8e157 3 (some .int) ∈ TBg := tb_of 286 (by decide +kernel) (by decide +kernel)
theorem cod_J2_charAt_3b067 : Cond.code yJ2_charAt_3b067 cJ2_charAt_3b067 2 (some .char) ∈ TBg := tb_of 289 (by decide +kernel) (by decide +kernel)
theorem cod_J2_checkIndex_2214a : Cond.code yJ2_checkIndex_2214a cJ2_checkIndex_2214a 2 none ∈ TBg := tb_of 292 (by decide +kernel) (by decide +kernel)
theorem cod_J2_length_9d52b : Cond.code yJ2_length_9d52b cJ2_length_9d52b 1 (some .int) ∈ TBg := tb_of 295 (by decide +kernel) (by decide +kernel)
theorem cod_J2_getChar_3b067 : Cond.code yJ2_getChar_3b067 cJ2_getChar_3b067 2 (some .char) ∈ TBg := tb_of 299 (by decide +kernel) (by decide +kernel)
theorem cod_X4_isOfForm : Cond.code yX4_isOfForm cX4_isOfForm 2 (some .boolean) ∈ TBg := tb_of 308 (by decide +kernel) (by decide +kernel)
theorem cod_J0_indexOf_0f7a4 : Cond.code yJ0_indexOf_0f7a4 cJ0_indexOf_0f7a4 2 (some .int) ∈ TBg := tb_of 313 (by decide +kernel) (by decide +kernel)
theorem cod_J0_indexOf_7cf53 : Cond.code yJ0_indexOf_7cf53 cJ0_indexOf_7cf53 3 (some .int) ∈ TBg := tb_of 317 (by decide +kernel) (by decide +kernel)
theorem cod_J1_indexOf_4cfef : Cond.code yJ1_indexOf_4cfef cJ1_indexOf_4cfef 4 (some .int) ∈ TBg := tb_of 321 (by decide +kernel) (by decide +kernel)
theorem cod_J1_canEncode_9a6ad : Cond.code yJ1_canEncode_9a6ad cJ1_canEncode_9a6ad 1 (some .boolean) ∈ TBg := tb_of 324 (by decide +kernel) (by decide +kernel)
theorem cod_J9_max_7cf53 : Cond.code yJ9_max_7cf53 cJ9_max_7cf53 2 (some .int) ∈ TBg := tb_of 327 (by decide +kernel) (by decide +kernel)
theorem cod_J9_min_7cf53 : Cond.code yJ9_min_7cf53 cJ9_min_7cf53 2 (some .int) ∈ TBg := tb_of 330 (by decide +kernel) (by decide +kernel)
theorem cod_J1_indexOfChar_4cfef : Cond.code yJ1_indexOfChar_4cfef cJ1_indexOfChar_4cfef 6 (some .int) ∈ TBg := tb_of 333 (by decide +kernel) (by decide +kernel)
theorem cod_J2_indexOf_4cfef : Cond.code yJ2_indexOf_4cfef cJ2_indexOf_4cfef 4 (some .int) ∈ TBg := tb_of 336 (by decide +kernel) (by decide +kernel)
theorem cod_J2_indexOfChar_4cfef : Cond.code yJ2_indexOfChar_4cfef cJ2_indexOfChar_4cfef 4 (some .int) ∈ TBg := tb_of 342 (by decide +kernel) (by decide +kernel)
theorem cod_J2_checkBoundsBeginEnd_d044e : Cond.code yJ2_checkBoundsBeginEnd_d044e cJ2_checkBoundsBeginEnd_d044e 3 none ∈ TBg := tb_of 345 (by decide +kernel) (by decide +kernel)
theorem cod_J0_checkBoundsBeginEnd_23922 : Cond.code yJ0_checkBoundsBeginEnd_23922 cJ0_checkBoundsBeginEnd_23922 3 none ∈ TBg := tb_of 348 (by decide +kernel) (by decide +kernel)
theorem cod_J3_checkFromToIndex_8c36e : Cond.code yJ3_checkFromToIndex_8c36e cJ3_checkFromToIndex_8c36e 4 (some .int) ∈ TBg := tb_of 351 (by decide +kernel) (by decide +kernel)
theorem cod_J2_indexOfCharUnsafe_4cfef : Cond.code yJ2_indexOfCharUnsafe_4cfef cJ2_indexOfCharUnsafe_4cfef 5 (some .int) ∈ TBg := tb_of 354 (by decide +kernel) (by decide +kernel)
theorem cod_J2_indexOfSupplementary_4cfef : Cond.code yJ2_indexOfSupplementary_4cfef cJ2_indexOfSupplementary_4cfef 7 (some .int) ∈ TBg := tb_of 357 (by decide +kernel) (by decide +kernel)
theorem cod_J11_isValidCodePoint_9a6ad : Cond.code yJ11_isValidCodePoint_9a6ad cJ11_isValidCodePoint_9a6ad 2 (some .boolean) ∈ TBg := tb_of 360 (by decide +kernel) (by decide +kernel)
theorem cod_J11_highSurrogate_5068e : Cond.code yJ11_highSurrogate_5068e cJ11_highSurrogate_5068e 1 (some .char) ∈ TBg := tb_of 363 (by decide +kernel) (by decide +kernel)
theorem cod_J11_lowSurrogate_5068e : Cond.code yJ11_lowSurrogate_5068e cJ11_lowSurrogate_5068e 1 (some .char) ∈ TBg := tb_of 367 (by decide +kernel) (by decide +kernel)
theorem cod_X4_unfitPlace : Cond.code yX4_unfitPlace cX4_unfitPlace 6 (some .int) ∈ TBg := tb_of 372 (by decide +kernel) (by decide +kernel)
theorem cod_X4_beginsStatement : Cond.code yX4_beginsStatement cX4_beginsStatement 2 (some .boolean) ∈ TBg := tb_of 376 (by decide +kernel) (by decide +kernel)
theorem cod_X4_isFit : Cond.code yX4_isFit cX4_isFit 4 (some .boolean) ∈ TBg := tb_of 380 (by decide +kernel) (by decide +kernel)
theorem cod_X4_digitAt : Cond.code yX4_digitAt cX4_digitAt 2 (some .int) ∈ TBg := tb_of 384 (by decide +kernel) (by decide +kernel)
theorem cod_X8_isInk : Cond.code yX8_isInk cX8_isInk 1 (some .boolean) ∈ TBg := tb_of 387 (by decide +kernel) (by decide +kernel)
theorem cod_X4_areHours : Cond.code yX4_areHours cX4_areHours 2 (some .boolean) ∈ TBg := tb_of 390 (by decide +kernel) (by decide +kernel)
theorem cod_X4_tellTo : Cond.code yX4_tellTo cX4_tellTo 4 (some .int) ∈ TBg := tb_of 394 (by decide +kernel) (by decide +kernel)
theorem cod_X4_tellStatement : Cond.code yX4_tellStatement cX4_tellStatement 7 none ∈ TBg := tb_of 398 (by decide +kernel) (by decide +kernel)
theorem cod_X2_addWord : Cond.code yX2_addWord cX2_addWord 4 none ∈ TBg := tb_of 402 (by decide +kernel) (by decide +kernel)
theorem cod_X2_addBird : Cond.code yX2_addBird cX2_addBird 5 none ∈ TBg := tb_of 407 (by decide +kernel) (by decide +kernel)
theorem cod_X2_setBitter : Cond.code yX2_setBitter cX2_setBitter 3 none ∈ TBg := tb_of 411 (by decide +kernel) (by decide +kernel)
theorem cod_X2_setWatched : Cond.code yX2_setWatched cX2_setWatched 5 none ∈ TBg := tb_of 415 (by decide +kernel) (by decide +kernel)
theorem cod_X2_hasWord : Cond.code yX2_hasWord cX2_hasWord 2 (some .boolean) ∈ TBg := tb_of 419 (by decide +kernel) (by decide +kernel)
theorem cod_X4_clear : Cond.code yX4_clear cX4_clear 1 none ∈ TBg := tb_of 423 (by decide +kernel) (by decide +kernel)
theorem cod_X8_word : Cond.code yX8_word cX8_word 3 (some .int) ∈ TBg := tb_of 428 (by decide +kernel) (by decide +kernel)
theorem cod_X2_strength : Cond.code yX2_strength cX2_strength 3 (some .int) ∈ TBg := tb_of 433 (by decide +kernel) (by decide +kernel)
theorem cod_X2_isGone : Cond.code yX2_isGone cX2_isGone 2 (some .boolean) ∈ TBg := tb_of 437 (by decide +kernel) (by decide +kernel)
theorem cod_X2_isWatched : Cond.code yX2_isWatched cX2_isWatched 3 (some .boolean) ∈ TBg := tb_of 441 (by decide +kernel) (by decide +kernel)
theorem cod_X8_bird : Cond.code yX8_bird cX8_bird 3 (some .int) ∈ TBg := tb_of 445 (by decide +kernel) (by decide +kernel)
theorem cod_X2_hasBird : Cond.code yX2_hasBird cX2_hasBird 2 (some .boolean) ∈ TBg := tb_of 449 (by decide +kernel) (by decide +kernel)
theorem cod_X2_kindOf : Cond.code yX2_kindOf cX2_kindOf 2 (some (.object "EatenByDusk$Sparrow")) ∈ TBg := tb_of 453 (by decide +kernel) (by decide +kernel)
theorem cod_X6_choice : Cond.code yX6_choice cX6_choice 5 (some .int) ∈ TBg := tb_of 463 (by decide +kernel) (by decide +kernel)
theorem cod_X2_mayBeEaten : Cond.code yX2_mayBeEaten cX2_mayBeEaten 3 (some .boolean) ∈ TBg := tb_of 467 (by decide +kernel) (by decide +kernel)
theorem cod_X1_reaches : Cond.code yX1_reaches cX1_reaches 3 (some .boolean) ∈ TBg := tb_of 478 (by decide +kernel) (by decide +kernel)
theorem cod_X6_reaches : Cond.code yX6_reaches cX6_reaches 3 (some .boolean) ∈ TBg := tb_of 483 (by decide +kernel) (by decide +kernel)
theorem cod_X0_prefers : Cond.code yX0_prefers cX0_prefers 4 (some .boolean) ∈ TBg := tb_of 490 (by decide +kernel) (by decide +kernel)
theorem cod_X5_prefers : Cond.code yX5_prefers cX5_prefers 4 (some .boolean) ∈ TBg := tb_of 496 (by decide +kernel) (by decide +kernel)
theorem cod_X7_prefers : Cond.code yX7_prefers cX7_prefers 4 (some .boolean) ∈ TBg := tb_of 499 (by decide +kernel) (by decide +kernel)
theorem cod_X6_prefers : Cond.code yX6_prefers cX6_prefers 4 (some .boolean) ∈ TBg := tb_of 500 (by decide +kernel) (by decide +kernel)
theorem cod_X8_bitter : Cond.code yX8_bitter cX8_bitter 4 (some .int) ∈ TBg := tb_of 505 (by decide +kernel) (by decide +kernel)
theorem cod_X8_ink : Cond.code yX8_ink cX8_ink 4 (some .int) ∈ TBg := tb_of 511 (by decide +kernel) (by decide +kernel)
theorem cod_X8_watch : Cond.code yX8_watch cX8_watch 5 (some .int) ∈ TBg := tb_of 515 (by decide +kernel) (by decide +kernel)
theorem cod_X8_hour : Cond.code yX8_hour cX8_hour 1 (some .int) ∈ TBg := tb_of 520 (by decide +kernel) (by decide +kernel)
theorem cod_X2_passHour : Cond.code yX2_passHour cX2_passHour 7 (some .int) ∈ TBg := tb_of 524 (by decide +kernel) (by decide +kernel)
theorem cod_X2_countLeft : Cond.code yX2_countLeft cX2_countLeft 1 (some .int) ∈ TBg := tb_of 528 (by decide +kernel) (by decide +kernel)
theorem cod_X2_leftWords : Cond.code yX2_leftWords cX2_leftWords 1 (some .int) ∈ TBg := tb_of 532 (by decide +kernel) (by decide +kernel)
theorem cod_X2_allWords : Cond.code yX2_allWords cX2_allWords 1 (some .int) ∈ TBg := tb_of 536 (by decide +kernel) (by decide +kernel)
theorem cod_J6_bitCount_0f7a4 : Cond.code yJ6_bitCount_0f7a4 cJ6_bitCount_0f7a4 1 (some .int) ∈ TBg := tb_of 539 (by decide +kernel) (by decide +kernel)
theorem cod_X3_meals : Cond.code yX3_meals cX3_meals 1 (some .int) ∈ TBg := tb_of 552 (by decide +kernel) (by decide +kernel)
theorem cod_X6_meals : Cond.code yX6_meals cX6_meals 1 (some .int) ∈ TBg := tb_of 555 (by decide +kernel) (by decide +kernel)
theorem cod_X8_anew : Cond.code yX8_anew cX8_anew 1 (some .int) ∈ TBg := tb_of 560 (by decide +kernel) (by decide +kernel)
theorem cod_X8_left : Cond.code yX8_left cX8_left 4 (some .int) ∈ TBg := tb_of 564 (by decide +kernel) (by decide +kernel)
theorem cod_X8_mindAsNow : Cond.code yX8_mindAsNow cX8_mindAsNow 1 (some (.object "EatenByDusk$Garden")) ∈ TBg := tb_of 568 (by decide +kernel) (by decide +kernel)
theorem cod_X2_becomeAs : Cond.code yX2_becomeAs cX2_becomeAs 2 none ∈ TBg := tb_of 572 (by decide +kernel) (by decide +kernel)
theorem cod_X8_eaten : Cond.code yX8_eaten cX8_eaten 3 (some .int) ∈ TBg := tb_of 580 (by decide +kernel) (by decide +kernel)
theorem cod_X2_hourOfGoing : Cond.code yX2_hourOfGoing cX2_hourOfGoing 3 (some .int) ∈ TBg := tb_of 584 (by decide +kernel) (by decide +kernel)
theorem cod_X8_meanings : Cond.code yX8_meanings cX8_meanings 2 (some .int) ∈ TBg := tb_of 589 (by decide +kernel) (by decide +kernel)
theorem cod_X2_passTillDusk : Cond.code yX2_passTillDusk cX2_passTillDusk 2 (some .int) ∈ TBg := tb_of 593 (by decide +kernel) (by decide +kernel)
theorem cod_X2_leftMeanings : Cond.code yX2_leftMeanings cX2_leftMeanings 3 (some .int) ∈ TBg := tb_of 597 (by decide +kernel) (by decide +kernel)
theorem cod_X8_remain : Cond.code yX8_remain cX8_remain 1 (some .int) ∈ TBg := tb_of 601 (by decide +kernel) (by decide +kernel)
theorem cod_X8_holds : Cond.code yX8_holds cX8_holds 4 (some .int) ∈ TBg := tb_of 605 (by decide +kernel) (by decide +kernel)
theorem cod_X2_countLeftOf : Cond.code yX2_countLeftOf cX2_countLeftOf 4 (some .int) ∈ TBg := tb_of 609 (by decide +kernel) (by decide +kernel)
theorem cod_X8_boys : Cond.code yX8_boys cX8_boys 6 (some .int) ∈ TBg := tb_of 614 (by decide +kernel) (by decide +kernel)
theorem cod_X2_hasWords : Cond.code yX2_hasWords cX2_hasWords 2 (some .boolean) ∈ TBg := tb_of 618 (by decide +kernel) (by decide +kernel)
theorem cod_X8_isKeptByWatching : Cond.code yX8_isKeptByWatching cX8_isKeptByWatching 5 (some .boolean) ∈ TBg := tb_of 624 (by decide +kernel) (by decide +kernel)
theorem cod_X8_guard : Cond.code yX8_guard cX8_guard 6 (some .int) ∈ TBg := tb_of 628 (by decide +kernel) (by decide +kernel)
theorem cod_X8_winter : Cond.code yX8_winter cX8_winter 4 (some .int) ∈ TBg := tb_of 632 (by decide +kernel) (by decide +kernel)
theorem cod_X2_keepAway : Cond.code yX2_keepAway cX2_keepAway 2 none ∈ TBg := tb_of 637 (by decide +kernel) (by decide +kernel)
theorem cod_X8_becomes : Cond.code yX8_becomes cX8_becomes 4 (some .int) ∈ TBg := tb_of 641 (by decide +kernel) (by decide +kernel)
theorem cod_X2_placeOtherThan : Cond.code yX2_placeOtherThan cX2_placeOtherThan 5 (some .int) ∈ TBg := tb_of 645 (by decide +kernel) (by decide +kernel)
theorem cod_X8_danger : Cond.code yX8_danger cX8_danger 3 (some .int) ∈ TBg := tb_of 649 (by decide +kernel) (by decide +kernel)
theorem cod_X8_lasts : Cond.code yX8_lasts cX8_lasts 7 (some .int) ∈ TBg := tb_of 653 (by decide +kernel) (by decide +kernel)
theorem cod_X8_mixed : Cond.code yX8_mixed cX8_mixed 7 (some .int) ∈ TBg := tb_of 657 (by decide +kernel) (by decide +kernel)
theorem cod_X8_sumOfDigits : Cond.code yX8_sumOfDigits cX8_sumOfDigits 1 (some .int) ∈ TBg := tb_of 661 (by decide +kernel) (by decide +kernel)
theorem cod_X8_countLeftByBitters : Cond.code yX8_countLeftByBitters cX8_countLeftByBitters 3 (some .int) ∈ TBg := tb_of 665 (by decide +kernel) (by decide +kernel)
theorem cod_X8_tastes : Cond.code yX8_tastes cX8_tastes 6 (some .int) ∈ TBg := tb_of 669 (by decide +kernel) (by decide +kernel)
theorem cod_X8_fitting : Cond.code yX8_fitting cX8_fitting 6 (some .int) ∈ TBg := tb_of 673 (by decide +kernel) (by decide +kernel)
theorem cod_X8_seeds : Cond.code yX8_seeds cX8_seeds 8 (some .int) ∈ TBg := tb_of 679 (by decide +kernel) (by decide +kernel)
theorem cod_X8_row : Cond.code yX8_row cX8_row 2 (some .int) ∈ TBg := tb_of 686 (by decide +kernel) (by decide +kernel)
theorem cod_X8_judge : Cond.code yX8_judge cX8_judge 2 (some .int) ∈ TBg := tb_of 690 (by decide +kernel) (by decide +kernel)
theorem cod_X8_image : Cond.code yX8_image cX8_image 1 (some .int) ∈ TBg := tb_of 694 (by decide +kernel) (by decide +kernel)
theorem cod_X8_on : Cond.code yX8_on cX8_on 1 (some .int) ∈ TBg := tb_of 698 (by decide +kernel) (by decide +kernel)
theorem cod_X8_count : Cond.code yX8_count cX8_count 2 (some .int) ∈ TBg := tb_of 702 (by decide +kernel) (by decide +kernel)
theorem cod_X2_strengthLeft : Cond.code yX2_strengthLeft cX2_strengthLeft 3 (some .int) ∈ TBg := tb_of 706 (by decide +kernel) (by decide +kernel)
theorem cod_X9_init : Cond.code yX9_init cX9_init 1 none ∈ TBg := tb_of 711 (by decide +kernel) (by decide +kernel)
theorem cod_X9_letter : Cond.code yX9_letter cX9_letter 3 (some .int) ∈ TBg := tb_of 798 (by decide +kernel) (by decide +kernel)
theorem cod_X9_bound : Cond.code yX9_bound cX9_bound 3 (some .int) ∈ TBg := tb_of 801 (by decide +kernel) (by decide +kernel)
theorem cod_X9_no : Cond.code yX9_no cX9_no 2 (some .int) ∈ TBg := tb_of 805 (by decide +kernel) (by decide +kernel)
theorem cod_X9_text : Cond.code yX9_text cX9_text 3 (some .int) ∈ TBg := tb_of 809 (by decide +kernel) (by decide +kernel)
theorem cod_X9_statement : Cond.code yX9_statement cX9_statement 4 (some .boolean) ∈ TBg := tb_of 813 (by decide +kernel) (by decide +kernel)
theorem cod_X9_next : Cond.code yX9_next cX9_next 1 (some .int) ∈ TBg := tb_of 817 (by decide +kernel) (by decide +kernel)
theorem cod_X9_readsKind : Cond.code yX9_readsKind cX9_readsKind 2 (some .boolean) ∈ TBg := tb_of 821 (by decide +kernel) (by decide +kernel)
theorem cod_X9_kindOf : Cond.code yX9_kindOf cX9_kindOf 1 (some .int) ∈ TBg := tb_of 824 (by decide +kernel) (by decide +kernel)
theorem cod_X9_readsOnes : Cond.code yX9_readsOnes cX9_readsOnes 4 (some .boolean) ∈ TBg := tb_of 828 (by decide +kernel) (by decide +kernel)
theorem cod_X9_isIn : Cond.code yX9_isIn cX9_isIn 3 (some .boolean) ∈ TBg := tb_of 831 (by decide +kernel) (by decide +kernel)
theorem cod_X9_passesAll : Cond.code yX9_passesAll cX9_passesAll 3 none ∈ TBg := tb_of 835 (by decide +kernel) (by decide +kernel)
theorem cod_X9_passes : Cond.code yX9_passes cX9_passes 3 none ∈ TBg := tb_of 839 (by decide +kernel) (by decide +kernel)
theorem cod_X9_passOne : Cond.code yX9_passOne cX9_passOne 3 (some .int) ∈ TBg := tb_of 843 (by decide +kernel) (by decide +kernel)
theorem cod_X9_comes : Cond.code yX9_comes cX9_comes 3 (some .boolean) ∈ TBg := tb_of 847 (by decide +kernel) (by decide +kernel)
theorem cod_X9_comesWord : Cond.code yX9_comesWord cX9_comesWord 2 (some .boolean) ∈ TBg := tb_of 851 (by decide +kernel) (by decide +kernel)
theorem cod_X9_comesBird : Cond.code yX9_comesBird cX9_comesBird 2 (some .boolean) ∈ TBg := tb_of 855 (by decide +kernel) (by decide +kernel)
theorem cod_X9_comesWatch : Cond.code yX9_comesWatch cX9_comesWatch 3 (some .boolean) ∈ TBg := tb_of 859 (by decide +kernel) (by decide +kernel)
theorem cod_X9_isWord : Cond.code yX9_isWord cX9_isWord 2 (some .boolean) ∈ TBg := tb_of 863 (by decide +kernel) (by decide +kernel)
theorem cod_X9_image : Cond.code yX9_image cX9_image 1 (some .int) ∈ TBg := tb_of 867 (by decide +kernel) (by decide +kernel)
theorem cod_X9_on : Cond.code yX9_on cX9_on 1 (some .int) ∈ TBg := tb_of 871 (by decide +kernel) (by decide +kernel)
theorem cod_X9_word : Cond.code yX9_word cX9_word 3 (some .int) ∈ TBg := tb_of 875 (by decide +kernel) (by decide +kernel)
theorem cod_X9_strengthOf : Cond.code yX9_strengthOf cX9_strengthOf 2 (some .int) ∈ TBg := tb_of 879 (by decide +kernel) (by decide +kernel)
theorem cod_X9_bird : Cond.code yX9_bird cX9_bird 3 (some .int) ∈ TBg := tb_of 883 (by decide +kernel) (by decide +kernel)
theorem cod_X9_isBird : Cond.code yX9_isBird cX9_isBird 2 (some .boolean) ∈ TBg := tb_of 887 (by decide +kernel) (by decide +kernel)
theorem cod_X9_eatsBy : Cond.code yX9_eatsBy cX9_eatsBy 4 (some .int) ∈ TBg := tb_of 891 (by decide +kernel) (by decide +kernel)
theorem cod_X9_mayEat : Cond.code yX9_mayEat cX9_mayEat 3 (some .boolean) ∈ TBg := tb_of 895 (by decide +kernel) (by decide +kernel)
theorem cod_X9_isGone : Cond.code yX9_isGone cX9_isGone 2 (some .boolean) ∈ TBg := tb_of 899 (by decide +kernel) (by decide +kernel)
theorem cod_X9_isRather : Cond.code yX9_isRather cX9_isRather 4 (some .boolean) ∈ TBg := tb_of 903 (by decide +kernel) (by decide +kernel)
theorem cod_X9_bitter : Cond.code yX9_bitter cX9_bitter 5 (some .int) ∈ TBg := tb_of 907 (by decide +kernel) (by decide +kernel)
theorem cod_X9_isInk : Cond.code yX9_isInk cX9_isInk 1 (some .boolean) ∈ TBg := tb_of 910 (by decide +kernel) (by decide +kernel)
theorem cod_X9_ink : Cond.code yX9_ink cX9_ink 4 (some .int) ∈ TBg := tb_of 914 (by decide +kernel) (by decide +kernel)
theorem cod_X9_watch : Cond.code yX9_watch cX9_watch 6 (some .int) ∈ TBg := tb_of 918 (by decide +kernel) (by decide +kernel)
theorem cod_X9_hour : Cond.code yX9_hour cX9_hour 1 (some .int) ∈ TBg := tb_of 922 (by decide +kernel) (by decide +kernel)
theorem cod_X9_goesHour : Cond.code yX9_goesHour cX9_goesHour 3 (some .int) ∈ TBg := tb_of 926 (by decide +kernel) (by decide +kernel)
theorem cod_X9_eats : Cond.code yX9_eats cX9_eats 3 (some .int) ∈ TBg := tb_of 930 (by decide +kernel) (by decide +kernel)
theorem cod_X9_anew : Cond.code yX9_anew cX9_anew 1 (some .int) ∈ TBg := tb_of 934 (by decide +kernel) (by decide +kernel)
theorem cod_X9_left : Cond.code yX9_left cX9_left 4 (some .int) ∈ TBg := tb_of 938 (by decide +kernel) (by decide +kernel)
theorem cod_X9_leftNow : Cond.code yX9_leftNow cX9_leftNow 1 (some .int) ∈ TBg := tb_of 942 (by decide +kernel) (by decide +kernel)
theorem cod_X9_eaten : Cond.code yX9_eaten cX9_eaten 3 (some .int) ∈ TBg := tb_of 946 (by decide +kernel) (by decide +kernel)
theorem cod_X9_goesIn : Cond.code yX9_goesIn cX9_goesIn 5 (some .int) ∈ TBg := tb_of 950 (by decide +kernel) (by decide +kernel)
theorem cod_X9_meanings : Cond.code yX9_meanings cX9_meanings 1 (some .int) ∈ TBg := tb_of 954 (by decide +kernel) (by decide +kernel)
theorem cod_X9_leftAtDusk : Cond.code yX9_leftAtDusk cX9_leftAtDusk 4 (some .int) ∈ TBg := tb_of 958 (by decide +kernel) (by decide +kernel)
theorem cod_X9_meaningsOf : Cond.code yX9_meaningsOf cX9_meaningsOf 4 (some .int) ∈ TBg := tb_of 962 (by decide +kernel) (by decide +kernel)
theorem cod_X9_remain : Cond.code yX9_remain cX9_remain 1 (some .int) ∈ TBg := tb_of 966 (by decide +kernel) (by decide +kernel)
theorem cod_X9_bits : Cond.code yX9_bits cX9_bits 3 (some .int) ∈ TBg := tb_of 969 (by decide +kernel) (by decide +kernel)
theorem cod_X9_holds : Cond.code yX9_holds cX9_holds 6 (some .int) ∈ TBg := tb_of 973 (by decide +kernel) (by decide +kernel)
theorem cod_X9_boys : Cond.code yX9_boys cX9_boys 4 (some .int) ∈ TBg := tb_of 977 (by decide +kernel) (by decide +kernel)
theorem cod_X9_areWords : Cond.code yX9_areWords cX9_areWords 2 (some .boolean) ∈ TBg := tb_of 981 (by decide +kernel) (by decide +kernel)
theorem cod_X9_watchedLeft : Cond.code yX9_watchedLeft cX9_watchedLeft 4 (some .int) ∈ TBg := tb_of 985 (by decide +kernel) (by decide +kernel)
theorem cod_X9_guard : Cond.code yX9_guard cX9_guard 5 (some .int) ∈ TBg := tb_of 989 (by decide +kernel) (by decide +kernel)
theorem cod_X9_winter : Cond.code yX9_winter cX9_winter 5 (some .int) ∈ TBg := tb_of 993 (by decide +kernel) (by decide +kernel)
theorem cod_X9_lower : Cond.code yX9_lower cX9_lower 2 (some .int) ∈ TBg := tb_of 997 (by decide +kernel) (by decide +kernel)
theorem cod_X9_becomes : Cond.code yX9_becomes cX9_becomes 4 (some .int) ∈ TBg := tb_of 1002 (by decide +kernel) (by decide +kernel)
theorem cod_X9_otherAt : Cond.code yX9_otherAt cX9_otherAt 3 (some .int) ∈ TBg := tb_of 1006 (by decide +kernel) (by decide +kernel)
theorem cod_X9_danger : Cond.code yX9_danger cX9_danger 1 (some .int) ∈ TBg := tb_of 1010 (by decide +kernel) (by decide +kernel)
theorem cod_X9_lasts : Cond.code yX9_lasts cX9_lasts 7 (some .int) ∈ TBg := tb_of 1014 (by decide +kernel) (by decide +kernel)
theorem cod_X9_mixed : Cond.code yX9_mixed cX9_mixed 8 (some .int) ∈ TBg := tb_of 1018 (by decide +kernel) (by decide +kernel)
theorem cod_X9_tastes : Cond.code yX9_tastes cX9_tastes 6 (some .int) ∈ TBg := tb_of 1022 (by decide +kernel) (by decide +kernel)
theorem cod_X9_fitting : Cond.code yX9_fitting cX9_fitting 6 (some .int) ∈ TBg := tb_of 1026 (by decide +kernel) (by decide +kernel)
theorem cod_X9_row : Cond.code yX9_row cX9_row 3 (some .int) ∈ TBg := tb_of 1030 (by decide +kernel) (by decide +kernel)
theorem cod_X9_judge : Cond.code yX9_judge cX9_judge 2 (some .int) ∈ TBg := tb_of 1034 (by decide +kernel) (by decide +kernel)
theorem cod_X9_seeds : Cond.code yX9_seeds cX9_seeds 8 (some .int) ∈ TBg := tb_of 1038 (by decide +kernel) (by decide +kernel)
theorem cod_X9_count : Cond.code yX9_count cX9_count 4 (some .int) ∈ TBg := tb_of 1045 (by decide +kernel) (by decide +kernel)
theorem im_X8_init : Cond.instanceMethod yX8_init ∈ TBg := tb_of 62 (by decide +kernel) (by decide +kernel)
theorem im_X6_init : Cond.instanceMethod yX6_init ∈ TBg := tb_of 71 (by decide +kernel) (by decide +kernel)
theorem im_X7_init : Cond.instanceMethod yX7_init ∈ TBg := tb_of 78 (by decide +kernel) (by decide +kernel)
theorem im_X0_init : Cond.instanceMethod yX0_init ∈ TBg := tb_of 85 (by decide +kernel) (by decide +kernel)
theorem im_X5_init : Cond.instanceMethod yX5_init ∈ TBg := tb_of 92 (by decide +kernel) (by decide +kernel)
theorem im_X3_init : Cond.instanceMethod yX3_init ∈ TBg := tb_of 99 (by decide +kernel) (by decide +kernel)
theorem im_X1_init : Cond.instanceMethod yX1_init ∈ TBg := tb_of 106 (by decide +kernel) (by decide +kernel)
theorem im_X2_init : Cond.instanceMethod yX2_init ∈ TBg := tb_of 113 (by decide +kernel) (by decide +kernel)
theorem im_X4_init : Cond.instanceMethod yX4_init ∈ TBg := tb_of 177 (by decide +kernel) (by decide +kernel)
theorem im_X8_letter : Cond.instanceMethod yX8_letter ∈ TBg := tb_of 215 (by decide +kernel) (by decide +kernel)
theorem im_X8_refuse : Cond.instanceMethod yX8_refuse ∈ TBg := tb_of 220 (by decide +kernel) (by decide +kernel)
theorem im_X4_isFull : Cond.instanceMethod yX4_isFull ∈ TBg := tb_of 223 (by decide +kernel) (by decide +kernel)
theorem im_X4_add : Cond.instanceMethod yX4_add ∈ TBg := tb_of 227 (by decide +kernel) (by decide +kernel)
theorem im_X8_text : Cond.instanceMethod yX8_text ∈ TBg := tb_of 232 (by decide +kernel) (by decide +kernel)
theorem im_X4_fault : Cond.instanceMethod yX4_fault ∈ TBg := tb_of 236 (by decide +kernel) (by decide +kernel)
theorem im_X4_misspeltPlace : Cond.instanceMethod yX4_misspeltPlace ∈ TBg := tb_of 241 (by decide +kernel) (by decide +kernel)
theorem im_X4_letterAt : Cond.instanceMethod yX4_letterAt ∈ TBg := tb_of 245 (by decide +kernel) (by decide +kernel)
theorem im_J0_isEmpty_aae02 : Cond.instanceMethod yJ0_isEmpty_aae02 ∈ TBg := tb_of 255 (by decide +kernel) (by decide +kernel)
theorem im_J0_length_8abf5 : Cond.instanceMethod yJ0_length_8abf5 ∈ TBg := tb_of 259 (by decide +kernel) (by decide +kernel)
theorem im_J0_coder_7d493 : Cond.instanceMethod yJ0_coder_7d493 ∈ TBg := tb_of 263 (by decide +kernel) (by decide +kernel)
theorem im_J0_charAt_5068e : Cond.instanceMethod yJ0_charAt_5068e ∈ TBg := tb_of 269 (by decide +kernel) (by decide +kernel)
theorem im_J0_isLatin1_aae02 : Cond.instanceMethod yJ0_isLatin1_aae02 ∈ TBg := tb_of 273 (by decide +kernel) (by decide +kernel)
theorem im_J0_indexOf_0f7a4 : Cond.instanceMethod yJ0_indexOf_0f7a4 ∈ TBg := tb_of 311 (by decide +kernel) (by decide +kernel)
theorem im_J0_indexOf_7cf53 : Cond.instanceMethod yJ0_indexOf_7cf53 ∈ TBg := tb_of 315 (by decide +kernel) (by decide +kernel)
theorem im_X4_unfitPlace : Cond.instanceMethod yX4_unfitPlace ∈ TBg := tb_of 371 (by decide +kernel) (by decide +kernel)
theorem im_X4_beginsStatement : Cond.instanceMethod yX4_beginsStatement ∈ TBg := tb_of 375 (by decide +kernel) (by decide +kernel)
theorem im_X4_isFit : Cond.instanceMethod yX4_isFit ∈ TBg := tb_of 379 (by decide +kernel) (by decide +kernel)
theorem im_X4_digitAt : Cond.instanceMethod yX4_digitAt ∈ TBg := tb_of 383 (by decide +kernel) (by decide +kernel)
theorem im_X4_tellTo : Cond.instanceMethod yX4_tellTo ∈ TBg := tb_of 392 (by decide +kernel) (by decide +kernel)
theorem im_X4_tellStatement : Cond.instanceMethod yX4_tellStatement ∈ TBg := tb_of 397 (by decide +kernel) (by decide +kernel)
theorem im_X2_addWord : Cond.instanceMethod yX2_addWord ∈ TBg := tb_of 400 (by decide +kernel) (by decide +kernel)
theorem im_X2_addBird : Cond.instanceMethod yX2_addBird ∈ TBg := tb_of 405 (by decide +kernel) (by decide +kernel)
theorem im_X2_setBitter : Cond.instanceMethod yX2_setBitter ∈ TBg := tb_of 409 (by decide +kernel) (by decide +kernel)
theorem im_X2_setWatched : Cond.instanceMethod yX2_setWatched ∈ TBg := tb_of 413 (by decide +kernel) (by decide +kernel)
theorem im_X2_hasWord : Cond.instanceMethod yX2_hasWord ∈ TBg := tb_of 417 (by decide +kernel) (by decide +kernel)
theorem im_X4_clear : Cond.instanceMethod yX4_clear ∈ TBg := tb_of 421 (by decide +kernel) (by decide +kernel)
theorem im_X8_word : Cond.instanceMethod yX8_word ∈ TBg := tb_of 426 (by decide +kernel) (by decide +kernel)
theorem im_X2_strength : Cond.instanceMethod yX2_strength ∈ TBg := tb_of 431 (by decide +kernel) (by decide +kernel)
theorem im_X2_isGone : Cond.instanceMethod yX2_isGone ∈ TBg := tb_of 435 (by decide +kernel) (by decide +kernel)
theorem im_X2_isWatched : Cond.instanceMethod yX2_isWatched ∈ TBg := tb_of 439 (by decide +kernel) (by decide +kernel)
theorem im_X8_bird : Cond.instanceMethod yX8_bird ∈ TBg := tb_of 443 (by decide +kernel) (by decide +kernel)
theorem im_X2_hasBird : Cond.instanceMethod yX2_hasBird ∈ TBg := tb_of 447 (by decide +kernel) (by decide +kernel)
theorem im_X2_kindOf : Cond.instanceMethod yX2_kindOf ∈ TBg := tb_of 451 (by decide +kernel) (by decide +kernel)
theorem im_X6_choice : Cond.instanceMethod yX6_choice ∈ TBg := tb_of 455 (by decide +kernel) (by decide +kernel)
theorem im_X2_mayBeEaten : Cond.instanceMethod yX2_mayBeEaten ∈ TBg := tb_of 465 (by decide +kernel) (by decide +kernel)
theorem im_X6_reaches : Cond.instanceMethod yX6_reaches ∈ TBg := tb_of 472 (by decide +kernel) (by decide +kernel)
theorem im_X1_reaches : Cond.instanceMethod yX1_reaches ∈ TBg := tb_of 477 (by decide +kernel) (by decide +kernel)
theorem im_X6_prefers : Cond.instanceMethod yX6_prefers ∈ TBg := tb_of 485 (by decide +kernel) (by decide +kernel)
theorem im_X0_prefers : Cond.instanceMethod yX0_prefers ∈ TBg := tb_of 489 (by decide +kernel) (by decide +kernel)
theorem im_X5_prefers : Cond.instanceMethod yX5_prefers ∈ TBg := tb_of 495 (by decide +kernel) (by decide +kernel)
theorem im_X7_prefers : Cond.instanceMethod yX7_prefers ∈ TBg := tb_of 498 (by decide +kernel) (by decide +kernel)
theorem im_X8_bitter : Cond.instanceMethod yX8_bitter ∈ TBg := tb_of 503 (by decide +kernel) (by decide +kernel)
theorem im_X8_ink : Cond.instanceMethod yX8_ink ∈ TBg := tb_of 509 (by decide +kernel) (by decide +kernel)
theorem im_X8_watch : Cond.instanceMethod yX8_watch ∈ TBg := tb_of 513 (by decide +kernel) (by decide +kernel)
theorem im_X8_hour : Cond.instanceMethod yX8_hour ∈ TBg := tb_of 518 (by decide +kernel) (by decide +kernel)
theorem im_X2_passHour : Cond.instanceMethod yX2_passHour ∈ TBg := tb_of 522 (by decide +kernel) (by decide +kernel)
theorem im_X2_countLeft : Cond.instanceMethod yX2_countLeft ∈ TBg := tb_of 526 (by decide +kernel) (by decide +kernel)
theorem im_X2_leftWords : Cond.instanceMethod yX2_leftWords ∈ TBg := tb_of 530 (by decide +kernel) (by decide +kernel)
theorem im_X2_allWords : Cond.instanceMethod yX2_allWords ∈ TBg := tb_of 534 (by decide +kernel) (by decide +kernel)
theorem im_X6_meals : Cond.instanceMethod yX6_meals ∈ TBg := tb_of 545 (by decide +kernel) (by decide +kernel)
theorem im_X3_meals : Cond.instanceMethod yX3_meals ∈ TBg := tb_of 551 (by decide +kernel) (by decide +kernel)
theorem im_X8_anew : Cond.instanceMethod yX8_anew ∈ TBg := tb_of 558 (by decide +kernel) (by decide +kernel)
theorem im_X8_left : Cond.instanceMethod yX8_left ∈ TBg := tb_of 562 (by decide +kernel) (by decide +kernel)
theorem im_X8_mindAsNow : Cond.instanceMethod yX8_mindAsNow ∈ TBg := tb_of 567 (by decide +kernel) (by decide +kernel)
theorem im_X2_becomeAs : Cond.instanceMethod yX2_becomeAs ∈ TBg := tb_of 570 (by decide +kernel) (by decide +kernel)
theorem im_X8_eaten : Cond.instanceMethod yX8_eaten ∈ TBg := tb_of 578 (by decide +kernel) (by decide +kernel)
theorem im_X2_hourOfGoing : Cond.instanceMethod yX2_hourOfGoing ∈ TBg := tb_of 582 (by decide +kernel) (by decide +kernel)
theorem im_X8_meanings : Cond.instanceMethod yX8_meanings ∈ TBg := tb_of 587 (by decide +kernel) (by decide +kernel)
theorem im_X2_passTillDusk : Cond.instanceMethod yX2_passTillDusk ∈ TBg := tb_of 591 (by decide +kernel) (by decide +kernel)
theorem im_X2_leftMeanings : Cond.instanceMethod yX2_leftMeanings ∈ TBg := tb_of 595 (by decide +kernel) (by decide +kernel)
theorem im_X8_remain : Cond.instanceMethod yX8_remain ∈ TBg := tb_of 599 (by decide +kernel) (by decide +kernel)
theorem im_X8_holds : Cond.instanceMethod yX8_holds ∈ TBg := tb_of 603 (by decide +kernel) (by decide +kernel)
theorem im_X2_countLeftOf : Cond.instanceMethod yX2_countLeftOf ∈ TBg := tb_of 607 (by decide +kernel) (by decide +kernel)
theorem im_X8_boys : Cond.instanceMethod yX8_boys ∈ TBg := tb_of 612 (by decide +kernel) (by decide +kernel)
theorem im_X2_hasWords : Cond.instanceMethod yX2_hasWords ∈ TBg := tb_of 616 (by decide +kernel) (by decide +kernel)
theorem im_X8_isKeptByWatching : Cond.instanceMethod yX8_isKeptByWatching ∈ TBg := tb_of 623 (by decide +kernel) (by decide +kernel)
theorem im_X8_guard : Cond.instanceMethod yX8_guard ∈ TBg := tb_of 626 (by decide +kernel) (by decide +kernel)
theorem im_X8_winter : Cond.instanceMethod yX8_winter ∈ TBg := tb_of 630 (by decide +kernel) (by decide +kernel)
theorem im_X2_keepAway : Cond.instanceMethod yX2_keepAway ∈ TBg := tb_of 635 (by decide +kernel) (by decide +kernel)
theorem im_X8_becomes : Cond.instanceMethod yX8_becomes ∈ TBg := tb_of 639 (by decide +kernel) (by decide +kernel)
theorem im_X2_placeOtherThan : Cond.instanceMethod yX2_placeOtherThan ∈ TBg := tb_of 643 (by decide +kernel) (by decide +kernel)
theorem im_X8_danger : Cond.instanceMethod yX8_danger ∈ TBg := tb_of 647 (by decide +kernel) (by decide +kernel)
theorem im_X8_lasts : Cond.instanceMethod yX8_lasts ∈ TBg := tb_of 651 (by decide +kernel) (by decide +kernel)
theorem im_X8_mixed : Cond.instanceMethod yX8_mixed ∈ TBg := tb_of 655 (by decide +kernel) (by decide +kernel)
theorem im_X8_countLeftByBitters : Cond.instanceMethod yX8_countLeftByBitters ∈ TBg := tb_of 664 (by decide +kernel) (by decide +kernel)
theorem im_X8_tastes : Cond.instanceMethod yX8_tastes ∈ TBg := tb_of 667 (by decide +kernel) (by decide +kernel)
theorem im_X8_fitting : Cond.instanceMethod yX8_fitting ∈ TBg := tb_of 671 (by decide +kernel) (by decide +kernel)
theorem im_X8_seeds : Cond.instanceMethod yX8_seeds ∈ TBg := tb_of 677 (by decide +kernel) (by decide +kernel)
theorem im_X8_row : Cond.instanceMethod yX8_row ∈ TBg := tb_of 684 (by decide +kernel) (by decide +kernel)
theorem im_X8_judge : Cond.instanceMethod yX8_judge ∈ TBg := tb_of 688 (by decide +kernel) (by decide +kernel)
theorem im_X8_image : Cond.instanceMethod yX8_image ∈ TBg := tb_of 692 (by decide +kernel) (by decide +kernel)
theorem im_X8_on : Cond.instanceMethod yX8_on ∈ TBg := tb_of 696 (by decide +kernel) (by decide +kernel)
theorem im_X8_count : Cond.instanceMethod yX8_count ∈ TBg := tb_of 700 (by decide +kernel) (by decide +kernel)
theorem im_X2_strengthLeft : Cond.instanceMethod yX2_strengthLeft ∈ TBg := tb_of 704 (by decide +kernel) (by decide +kernel)
theorem im_X9_init : Cond.instanceMethod yX9_init ∈ TBg := tb_of 710 (by decide +kernel) (by decide +kernel)
theorem im_X9_letter : Cond.instanceMethod yX9_letter ∈ TBg := tb_of 796 (by decide +kernel) (by decide +kernel)
theorem im_X9_no : Cond.instanceMethod yX9_no ∈ TBg := tb_of 804 (by decide +kernel) (by decide +kernel)
theorem im_X9_text : Cond.instanceMethod yX9_text ∈ TBg := tb_of 807 (by decide +kernel) (by decide +kernel)
theorem im_X9_statement : Cond.instanceMethod yX9_statement ∈ TBg := tb_of 812 (by decide +kernel) (by decide +kernel)
theorem im_X9_next : Cond.instanceMethod yX9_next ∈ TBg := tb_of 816 (by decide +kernel) (by decide +kernel)
theorem im_X9_readsKind : Cond.instanceMethod yX9_readsKind ∈ TBg := tb_of 820 (by decide +kernel) (by decide +kernel)
theorem im_X9_readsOnes : Cond.instanceMethod yX9_readsOnes ∈ TBg := tb_of 827 (by decide +kernel) (by decide +kernel)
theorem im_X9_passesAll : Cond.instanceMethod yX9_passesAll ∈ TBg := tb_of 834 (by decide +kernel) (by decide +kernel)
theorem im_X9_passes : Cond.instanceMethod yX9_passes ∈ TBg := tb_of 838 (by decide +kernel) (by decide +kernel)
theorem im_X9_passOne : Cond.instanceMethod yX9_passOne ∈ TBg := tb_of 842 (by decide +kernel) (by decide +kernel)
theorem im_X9_comes : Cond.instanceMethod yX9_comes ∈ TBg := tb_of 846 (by decide +kernel) (by decide +kernel)
theorem im_X9_comesWord : Cond.instanceMethod yX9_comesWord ∈ TBg := tb_of 850 (by decide +kernel) (by decide +kernel)
theorem im_X9_comesBird : Cond.instanceMethod yX9_comesBird ∈ TBg := tb_of 854 (by decide +kernel) (by decide +kernel)
theorem im_X9_comesWatch : Cond.instanceMethod yX9_comesWatch ∈ TBg := tb_of 858 (by decide +kernel) (by decide +kernel)
theorem im_X9_isWord : Cond.instanceMethod yX9_isWord ∈ TBg := tb_of 862 (by decide +kernel) (by decide +kernel)
theorem im_X9_image : Cond.instanceMethod yX9_image ∈ TBg := tb_of 865 (by decide +kernel) (by decide +kernel)
theorem im_X9_on : Cond.instanceMethod yX9_on ∈ TBg := tb_of 869 (by decide +kernel) (by decide +kernel)
theorem im_X9_word : Cond.instanceMethod yX9_word ∈ TBg := tb_of 873 (by decide +kernel) (by decide +kernel)
theorem im_X9_strengthOf : Cond.instanceMethod yX9_strengthOf ∈ TBg := tb_of 878 (by decide +kernel) (by decide +kernel)
theorem im_X9_bird : Cond.instanceMethod yX9_bird ∈ TBg := tb_of 881 (by decide +kernel) (by decide +kernel)
theorem im_X9_isBird : Cond.instanceMethod yX9_isBird ∈ TBg := tb_of 886 (by decide +kernel) (by decide +kernel)
theorem im_X9_eatsBy : Cond.instanceMethod yX9_eatsBy ∈ TBg := tb_of 890 (by decide +kernel) (by decide +kernel)
theorem im_X9_mayEat : Cond.instanceMethod yX9_mayEat ∈ TBg := tb_of 894 (by decide +kernel) (by decide +kernel)
theorem im_X9_isGone : Cond.instanceMethod yX9_isGone ∈ TBg := tb_of 898 (by decide +kernel) (by decide +kernel)
theorem im_X9_isRather : Cond.instanceMethod yX9_isRather ∈ TBg := tb_of 902 (by decide +kernel) (by decide +kernel)
theorem im_X9_bitter : Cond.instanceMethod yX9_bitter ∈ TBg := tb_of 905 (by decide +kernel) (by decide +kernel)
theorem im_X9_ink : Cond.instanceMethod yX9_ink ∈ TBg := tb_of 912 (by decide +kernel) (by decide +kernel)
theorem im_X9_watch : Cond.instanceMethod yX9_watch ∈ TBg := tb_of 916 (by decide +kernel) (by decide +kernel)
theorem im_X9_hour : Cond.instanceMethod yX9_hour ∈ TBg := tb_of 920 (by decide +kernel) (by decide +kernel)
theorem im_X9_goesHour : Cond.instanceMethod yX9_goesHour ∈ TBg := tb_of 925 (by decide +kernel) (by decide +kernel)
theorem im_X9_eats : Cond.instanceMethod yX9_eats ∈ TBg := tb_of 929 (by decide +kernel) (by decide +kernel)
theorem im_X9_anew : Cond.instanceMethod yX9_anew ∈ TBg := tb_of 932 (by decide +kernel) (by decide +kernel)
theorem im_X9_left : Cond.instanceMethod yX9_left ∈ TBg := tb_of 936 (by decide +kernel) (by decide +kernel)
theorem im_X9_leftNow : Cond.instanceMethod yX9_leftNow ∈ TBg := tb_of 941 (by decide +kernel) (by decide +kernel)
theorem im_X9_eaten : Cond.instanceMethod yX9_eaten ∈ TBg := tb_of 944 (by decide +kernel) (by decide +kernel)
theorem im_X9_goesIn : Cond.instanceMethod yX9_goesIn ∈ TBg := tb_of 949 (by decide +kernel) (by decide +kernel)
theorem im_X9_meanings : Cond.instanceMethod yX9_meanings ∈ TBg := tb_of 952 (by decide +kernel) (by decide +kernel)
theorem im_X9_leftAtDusk : Cond.instanceMethod yX9_leftAtDusk ∈ TBg := tb_of 957 (by decide +kernel) (by decide +kernel)
theorem im_X9_meaningsOf : Cond.instanceMethod yX9_meaningsOf ∈ TBg := tb_of 961 (by decide +kernel) (by decide +kernel)
theorem im_X9_remain : Cond.instanceMethod yX9_remain ∈ TBg := tb_of 964 (by decide +kernel) (by decide +kernel)
theorem im_X9_holds : Cond.instanceMethod yX9_holds ∈ TBg := tb_of 971 (by decide +kernel) (by decide +kernel)
theorem im_X9_boys : Cond.instanceMethod yX9_boys ∈ TBg := tb_of 975 (by decide +kernel) (by decide +kernel)
theorem im_X9_areWords : Cond.instanceMethod yX9_areWords ∈ TBg := tb_of 980 (by decide +kernel) (by decide +kernel)
theorem im_X9_watchedLeft : Cond.instanceMethod yX9_watchedLeft ∈ TBg := tb_of 984 (by decide +kernel) (by decide +kernel)
theorem im_X9_guard : Cond.instanceMethod yX9_guard ∈ TBg := tb_of 987 (by decide +kernel) (by decide +kernel)
theorem im_X9_winter : Cond.instanceMethod yX9_winter ∈ TBg := tb_of 991 (by decide +kernel) (by decide +kernel)
theorem im_X9_lower : Cond.instanceMethod yX9_lower ∈ TBg := tb_of 996 (by decide +kernel) (by decide +kernel)
theorem im_X9_becomes : Cond.instanceMethod yX9_becomes ∈ TBg := tb_of 1000 (by decide +kernel) (by decide +kernel)
theorem im_X9_otherAt : Cond.instanceMethod yX9_otherAt ∈ TBg := tb_of 1005 (by decide +kernel) (by decide +kernel)
theorem im_X9_danger : Cond.instanceMethod yX9_danger ∈ TBg := tb_of 1008 (by decide +kernel) (by decide +kernel)
theorem im_X9_lasts : Cond.instanceMethod yX9_lasts ∈ TBg := tb_of 1012 (by decide +kernel) (by decide +kernel)
theorem im_X9_mixed : Cond.instanceMethod yX9_mixed ∈ TBg := tb_of 1016 (by decide +kernel) (by decide +kernel)
theorem im_X9_tastes : Cond.instanceMethod yX9_tastes ∈ TBg := tb_of 1020 (by decide +kernel) (by decide +kernel)
theorem im_X9_fitting : Cond.instanceMethod yX9_fitting ∈ TBg := tb_of 1024 (by decide +kernel) (by decide +kernel)
theorem im_X9_row : Cond.instanceMethod yX9_row ∈ TBg := tb_of 1028 (by decide +kernel) (by decide +kernel)
theorem im_X9_judge : Cond.instanceMethod yX9_judge ∈ TBg := tb_of 1032 (by decide +kernel) (by decide +kernel)
theorem im_X9_seeds : Cond.instanceMethod yX9_seeds ∈ TBg := tb_of 1036 (by decide +kernel) (by decide +kernel)
theorem im_X9_count : Cond.instanceMethod yX9_count ∈ TBg := tb_of 1043 (by decide +kernel) (by decide +kernel)
theorem sta_X4_formBehind : Cond.static yX4_formBehind ∈ TBg := tb_of 248 (by decide +kernel) (by decide +kernel)
theorem sta_J1_charAt_3b067 : Cond.static yJ1_charAt_3b067 ∈ TBg := tb_of 277 (by decide +kernel) (by decide +kernel)
theorem sta_J0_checkIndex_df160 : Cond.static yJ0_checkIndex_df160 ∈ TBg := tb_of 280 (by decide +kernel) (by decide +kernel)
theorem sta_J3_checkIndex_8e157 : Cond.static yJ3_checkIndex_8e157 ∈ TBg := tb_of 285 (by decide +kernel) (by decide +kernel)
theorem sta_J2_charAt_3b067 : Cond.static yJ2_charAt_3b067 ∈ TBg := tb_of 288 (by decide +kernel) (by decide +kernel)
theorem sta_J2_checkIndex_2214a : Cond.static yJ2_checkIndex_2214a ∈ TBg := tb_of 291 (by decide +kernel) (by decide +kernel)
theorem sta_J2_length_9d52b : Cond.static yJ2_length_9d52b ∈ TBg := tb_of 294 (by decide +kernel) (by decide +kernel)
theorem sta_J2_getChar_3b067 : Cond.static yJ2_getChar_3b067 ∈ TBg := tb_of 298 (by decide +kernel) (by decide +kernel)
theorem sta_X4_isOfForm : Cond.static yX4_isOfForm ∈ TBg := tb_of 307 (by decide +kernel) (by decide +kernel)
theorem sta_J1_indexOf_4cfef : Cond.static yJ1_indexOf_4cfef ∈ TBg := tb_of 320 (by decide +kernel) (by decide +kernel)
theorem sta_J1_canEncode_9a6ad : Cond.static yJ1_canEncode_9a6ad ∈ TBg := tb_of 323 (by decide +kernel) (by decide +kernel)
theorem sta_J9_max_7cf53 : Cond.static yJ9_max_7cf53 ∈ TBg := tb_of 326 (by decide +kernel) (by decide +kernel)
theorem sta_J9_min_7cf53 : Cond.static yJ9_min_7cf53 ∈ TBg := tb_of 329 (by decide +kernel) (by decide +kernel)
theorem sta_J1_indexOfChar_4cfef : Cond.static yJ1_indexOfChar_4cfef ∈ TBg := tb_of 332 (by decide +kernel) (by decide +kernel)
theorem sta_J2_indexOf_4cfef : Cond.static yJ2_indexOf_4cfef ∈ TBg := tb_of 335 (by decide +kernel) (by decide +kernel)
theorem sta_J2_indexOfChar_4cfef : Cond.static yJ2_indexOfChar_4cfef ∈ TBg := tb_of 341 (by decide +kernel) (by decide +kernel)
theorem sta_J2_checkBoundsBeginEnd_d044e : Cond.static yJ2_checkBoundsBeginEnd_d044e ∈ TBg := tb_of 344 (by decide +kernel) (by decide +kernel)
theorem sta_J0_checkBoundsBeginEnd_23922 : Cond.static yJ0_checkBoundsBeginEnd_23922 ∈ TBg := tb_of 347 (by decide +kernel) (by decide +kernel)
theorem sta_J3_checkFromToIndex_8c36e : Cond.static yJ3_checkFromToIndex_8c36e ∈ TBg := tb_of 350 (by decide +kernel) (by decide +kernel)
theorem sta_J2_indexOfCharUnsafe_4cfef : Cond.static yJ2_indexOfCharUnsafe_4cfef ∈ TBg := tb_of 353 (by decide +kernel) (by decide +kernel)
theorem sta_J2_indexOfSupplementary_4cfef : Cond.static yJ2_indexOfSupplementary_4cfef ∈ TBg := tb_of 356 (by decide +kernel) (by decide +kernel)
theorem sta_J11_isValidCodePoint_9a6ad : Cond.static yJ11_isValidCodePoint_9a6ad ∈ TBg := tb_of 359 (by decide +kernel) (by decide +kernel)
theorem sta_J11_highSurrogate_5068e : Cond.static yJ11_highSurrogate_5068e ∈ TBg := tb_of 362 (by decide +kernel) (by decide +kernel)
theorem sta_J11_lowSurrogate_5068e : Cond.static yJ11_lowSurrogate_5068e ∈ TBg := tb_of 366 (by decide +kernel) (by decide +kernel)
theorem sta_X8_isInk : Cond.static yX8_isInk ∈ TBg := tb_of 386 (by decide +kernel) (by decide +kernel)
theorem sta_X4_areHours : Cond.static yX4_areHours ∈ TBg := tb_of 389 (by decide +kernel) (by decide +kernel)
theorem sta_J6_bitCount_0f7a4 : Cond.static yJ6_bitCount_0f7a4 ∈ TBg := tb_of 538 (by decide +kernel) (by decide +kernel)
theorem sta_X8_sumOfDigits : Cond.static yX8_sumOfDigits ∈ TBg := tb_of 660 (by decide +kernel) (by decide +kernel)
theorem sta_X9_bound : Cond.static yX9_bound ∈ TBg := tb_of 800 (by decide +kernel) (by decide +kernel)
theorem sta_X9_kindOf : Cond.static yX9_kindOf ∈ TBg := tb_of 823 (by decide +kernel) (by decide +kernel)
theorem sta_X9_isIn : Cond.static yX9_isIn ∈ TBg := tb_of 830 (by decide +kernel) (by decide +kernel)
theorem sta_X9_isInk : Cond.static yX9_isInk ∈ TBg := tb_of 909 (by decide +kernel) (by decide +kernel)
theorem sta_X9_bits : Cond.static yX9_bits ∈ TBg := tb_of 968 (by decide +kernel) (by decide +kernel)
theorem sel_X8_X8_letter_X8_letter : Cond.selects RX8 yX8_letter yX8_letter ∈ TBg := tb_of 216 (by decide +kernel) (by decide +kernel)
theorem sel_X4_X4_isFull_X4_isFull : Cond.selects RX4 yX4_isFull yX4_isFull ∈ TBg := tb_of 224 (by decide +kernel) (by decide +kernel)
theorem sel_X4_X4_add_X4_add : Cond.selects RX4 yX4_add yX4_add ∈ TBg := tb_of 228 (by decide +kernel) (by decide +kernel)
theorem sel_X8_X8_text_X8_text : Cond.selects RX8 yX8_text yX8_text ∈ TBg := tb_of 233 (by decide +kernel) (by decide +kernel)
theorem sel_X4_X4_fault_X4_fault : Cond.selects RX4 yX4_fault yX4_fault ∈ TBg := tb_of 237 (by decide +kernel) (by decide +kernel)
theorem sel_J0_J0_isEmpty_aae02_J0_isEmpty_aae02 : Cond.selects RJ0 yJ0_isEmpty_aae02 yJ0_isEmpty_aae02 ∈ TBg := tb_of 256 (by decide +kernel) (by decide +kernel)
theorem sel_J0_J0_length_8abf5_J0_length_8abf5 : Cond.selects RJ0 yJ0_length_8abf5 yJ0_length_8abf5 ∈ TBg := tb_of 260 (by decide +kernel) (by decide +kernel)
theorem sel_J0_J0_coder_7d493_J0_coder_7d493 : Cond.selects RJ0 yJ0_coder_7d493 yJ0_coder_7d493 ∈ TBg := tb_of 264 (by decide +kernel) (by decide +kernel)
theorem sel_J0_J0_charAt_5068e_J0_charAt_5068e : Cond.selects RJ0 yJ0_charAt_5068e yJ0_charAt_5068e ∈ TBg := tb_of 270 (by decide +kernel) (by decide +kernel)
theorem sel_J0_J0_isLatin1_aae02_J0_isLatin1_aae02 : Cond.selects RJ0 yJ0_isLatin1_aae02 yJ0_isLatin1_aae02 ∈ TBg := tb_of 274 (by decide +kernel) (by decide +kernel)
theorem sel_J0_J0_indexOf_0f7a4_J0_indexOf_0f7a4 : Cond.selects RJ0 yJ0_indexOf_0f7a4 yJ0_indexOf_0f7a4 ∈ TBg := tb_of 312 (by decide +kernel) (by decide +kernel)
theorem sel_J0_J0_indexOf_7cf53_J0_indexOf_7cf53 : Cond.selects RJ0 yJ0_indexOf_7cf53 yJ0_indexOf_7cf53 ∈ TBg := tb_of 316 (by decide +kernel) (by decide +kernel)
theorem sel_X4_X4_tellTo_X4_tellTo : Cond.selects RX4 yX4_tellTo yX4_tellTo ∈ TBg := tb_of 393 (by decide +kernel) (by decide +kernel)
theorem sel_X2_X2_addWord_X2_addWord : Cond.selects RX2 yX2_addWord yX2_addWord ∈ TBg := tb_of 401 (by decide +kernel) (by decide +kernel)
theorem sel_X2_X2_addBird_X2_addBird : Cond.selects RX2 yX2_addBird yX2_addBird ∈ TBg := tb_of 406 (by decide +kernel) (by decide +kernel)
theorem sel_X2_X2_setBitter_X2_setBitter : Cond.selects RX2 yX2_setBitter yX2_setBitter ∈ TBg := tb_of 410 (by decide +kernel) (by decide +kernel)
theorem sel_X2_X2_setWatched_X2_setWatched : Cond.selects RX2 yX2_setWatched yX2_setWatched ∈ TBg := tb_of 414 (by decide +kernel) (by decide +kernel)
theorem sel_X2_X2_hasWord_X2_hasWord : Cond.selects RX2 yX2_hasWord yX2_hasWord ∈ TBg := tb_of 418 (by decide +kernel) (by decide +kernel)
theorem sel_X4_X4_clear_X4_clear : Cond.selects RX4 yX4_clear yX4_clear ∈ TBg := tb_of 422 (by decide +kernel) (by decide +kernel)
theorem sel_X8_X8_word_X8_word : Cond.selects RX8 yX8_word yX8_word ∈ TBg := tb_of 427 (by decide +kernel) (by decide +kernel)
theorem sel_X2_X2_strength_X2_strength : Cond.selects RX2 yX2_strength yX2_strength ∈ TBg := tb_of 432 (by decide +kernel) (by decide +kernel)
theorem sel_X2_X2_isGone_X2_isGone : Cond.selects RX2 yX2_isGone yX2_isGone ∈ TBg := tb_of 436 (by decide +kernel) (by decide +kernel)
theorem sel_X2_X2_isWatched_X2_isWatched : Cond.selects RX2 yX2_isWatched yX2_isWatched ∈ TBg := tb_of 440 (by decide +kernel) (by decide +kernel)
theorem sel_X8_X8_bird_X8_bird : Cond.selects RX8 yX8_bird yX8_bird ∈ TBg := tb_of 444 (by decide +kernel) (by decide +kernel)
theorem sel_X2_X2_hasBird_X2_hasBird : Cond.selects RX2 yX2_hasBird yX2_hasBird ∈ TBg := tb_of 448 (by decide +kernel) (by decide +kernel)
theorem sel_X2_X2_kindOf_X2_kindOf : Cond.selects RX2 yX2_kindOf yX2_kindOf ∈ TBg := tb_of 452 (by decide +kernel) (by decide +kernel)
theorem sel_X6_X6_choice_X6_choice : Cond.selects RX6 yX6_choice yX6_choice ∈ TBg := tb_of 456 (by decide +kernel) (by decide +kernel)
theorem sel_X0_X6_choice_X6_choice : Cond.selects RX0 yX6_choice yX6_choice ∈ TBg := tb_of 458 (by decide +kernel) (by decide +kernel)
theorem sel_X1_X6_choice_X6_choice : Cond.selects RX1 yX6_choice yX6_choice ∈ TBg := tb_of 459 (by decide +kernel) (by decide +kernel)
theorem sel_X3_X6_choice_X6_choice : Cond.selects RX3 yX6_choice yX6_choice ∈ TBg := tb_of 460 (by decide +kernel) (by decide +kernel)
theorem sel_X5_X6_choice_X6_choice : Cond.selects RX5 yX6_choice yX6_choice ∈ TBg := tb_of 461 (by decide +kernel) (by decide +kernel)
theorem sel_X7_X6_choice_X6_choice : Cond.selects RX7 yX6_choice yX6_choice ∈ TBg := tb_of 462 (by decide +kernel) (by decide +kernel)
theorem sel_X2_X2_mayBeEaten_X2_mayBeEaten : Cond.selects RX2 yX2_mayBeEaten yX2_mayBeEaten ∈ TBg := tb_of 466 (by decide +kernel) (by decide +kernel)
theorem sel_X6_X6_reaches_X6_reaches : Cond.selects RX6 yX6_reaches yX6_reaches ∈ TBg := tb_of 473 (by decide +kernel) (by decide +kernel)
theorem sel_X0_X6_reaches_X6_reaches : Cond.selects RX0 yX6_reaches yX6_reaches ∈ TBg := tb_of 475 (by decide +kernel) (by decide +kernel)
theorem sel_X1_X6_reaches_X1_reaches : Cond.selects RX1 yX6_reaches yX1_reaches ∈ TBg := tb_of 476 (by decide +kernel) (by decide +kernel)
theorem sel_X3_X6_reaches_X6_reaches : Cond.selects RX3 yX6_reaches yX6_reaches ∈ TBg := tb_of 480 (by decide +kernel) (by decide +kernel)
theorem sel_X5_X6_reaches_X6_reaches : Cond.selects RX5 yX6_reaches yX6_reaches ∈ TBg := tb_of 481 (by decide +kernel) (by decide +kernel)
theorem sel_X7_X6_reaches_X6_reaches : Cond.selects RX7 yX6_reaches yX6_reaches ∈ TBg := tb_of 482 (by decide +kernel) (by decide +kernel)
theorem sel_X6_X6_prefers_X6_prefers : Cond.selects RX6 yX6_prefers yX6_prefers ∈ TBg := tb_of 486 (by decide +kernel) (by decide +kernel)
theorem sel_X0_X6_prefers_X0_prefers : Cond.selects RX0 yX6_prefers yX0_prefers ∈ TBg := tb_of 488 (by decide +kernel) (by decide +kernel)
theorem sel_X1_X6_prefers_X0_prefers : Cond.selects RX1 yX6_prefers yX0_prefers ∈ TBg := tb_of 492 (by decide +kernel) (by decide +kernel)
theorem sel_X3_X6_prefers_X6_prefers : Cond.selects RX3 yX6_prefers yX6_prefers ∈ TBg := tb_of 493 (by decide +kernel) (by decide +kernel)
theorem sel_X5_X6_prefers_X5_prefers : Cond.selects RX5 yX6_prefers yX5_prefers ∈ TBg := tb_of 494 (by decide +kernel) (by decide +kernel)
theorem sel_X7_X6_prefers_X7_prefers : Cond.selects RX7 yX6_prefers yX7_prefers ∈ TBg := tb_of 497 (by decide +kernel) (by decide +kernel)
theorem sel_X8_X8_bitter_X8_bitter : Cond.selects RX8 yX8_bitter yX8_bitter ∈ TBg := tb_of 504 (by decide +kernel) (by decide +kernel)
theorem sel_X8_X8_ink_X8_ink : Cond.selects RX8 yX8_ink yX8_ink ∈ TBg := tb_of 510 (by decide +kernel) (by decide +kernel)
theorem sel_X8_X8_watch_X8_watch : Cond.selects RX8 yX8_watch yX8_watch ∈ TBg := tb_of 514 (by decide +kernel) (by decide +kernel)
theorem sel_X8_X8_hour_X8_hour : Cond.selects RX8 yX8_hour yX8_hour ∈ TBg := tb_of 519 (by decide +kernel) (by decide +kernel)
theorem sel_X2_X2_passHour_X2_passHour : Cond.selects RX2 yX2_passHour yX2_passHour ∈ TBg := tb_of 523 (by decide +kernel) (by decide +kernel)
theorem sel_X2_X2_countLeft_X2_countLeft : Cond.selects RX2 yX2_countLeft yX2_countLeft ∈ TBg := tb_of 527 (by decide +kernel) (by decide +kernel)
theorem sel_X2_X2_leftWords_X2_leftWords : Cond.selects RX2 yX2_leftWords yX2_leftWords ∈ TBg := tb_of 531 (by decide +kernel) (by decide +kernel)
theorem sel_X2_X2_allWords_X2_allWords : Cond.selects RX2 yX2_allWords yX2_allWords ∈ TBg := tb_of 535 (by decide +kernel) (by decide +kernel)
theorem sel_X6_X6_meals_X6_meals : Cond.selects RX6 yX6_meals yX6_meals ∈ TBg := tb_of 546 (by decide +kernel) (by decide +kernel)
theorem sel_X0_X6_meals_X6_meals : Cond.selects RX0 yX6_meals yX6_meals ∈ TBg := tb_of 548 (by decide +kernel) (by decide +kernel)
theorem sel_X1_X6_meals_X6_meals : Cond.selects RX1 yX6_meals yX6_meals ∈ TBg := tb_of 549 (by decide +kernel) (by decide +kernel)
theorem sel_X3_X6_meals_X3_meals : Cond.selects RX3 yX6_meals yX3_meals ∈ TBg := tb_of 550 (by decide +kernel) (by decide +kernel)
theorem sel_X5_X6_meals_X6_meals : Cond.selects RX5 yX6_meals yX6_meals ∈ TBg := tb_of 553 (by decide +kernel) (by decide +kernel)
theorem sel_X7_X6_meals_X6_meals : Cond.selects RX7 yX6_meals yX6_meals ∈ TBg := tb_of 554 (by decide +kernel) (by decide +kernel)
theorem sel_X8_X8_anew_X8_anew : Cond.selects RX8 yX8_anew yX8_anew ∈ TBg := tb_of 559 (by decide +kernel) (by decide +kernel)
theorem sel_X8_X8_left_X8_left : Cond.selects RX8 yX8_left yX8_left ∈ TBg := tb_of 563 (by decide +kernel) (by decide +kernel)
theorem sel_X2_X2_becomeAs_X2_becomeAs : Cond.selects RX2 yX2_becomeAs yX2_becomeAs ∈ TBg := tb_of 571 (by decide +kernel) (by decide +kernel)
theorem sel_X8_X8_eaten_X8_eaten : Cond.selects RX8 yX8_eaten yX8_eaten ∈ TBg := tb_of 579 (by decide +kernel) (by decide +kernel)
theorem sel_X2_X2_hourOfGoing_X2_hourOfGoing : Cond.selects RX2 yX2_hourOfGoing yX2_hourOfGoing ∈ TBg := tb_of 583 (by decide +kernel) (by decide +kernel)
theorem sel_X8_X8_meanings_X8_meanings : Cond.selects RX8 yX8_meanings yX8_meanings ∈ TBg := tb_of 588 (by decide +kernel) (by decide +kernel)
theorem sel_X2_X2_passTillDusk_X2_passTillDusk : Cond.selects RX2 yX2_passTillDusk yX2_passTillDusk ∈ TBg := tb_of 592 (by decide +kernel) (by decide +kernel)
theorem sel_X2_X2_leftMeanings_X2_leftMeanings : Cond.selects RX2 yX2_leftMeanings yX2_leftMeanings ∈ TBg := tb_of 596 (by decide +kernel) (by decide +kernel)
theorem sel_X8_X8_remain_X8_remain : Cond.selects RX8 yX8_remain yX8_remain ∈ TBg := tb_of 600 (by decide +kernel) (by decide +kernel)
theorem sel_X8_X8_holds_X8_holds : Cond.selects RX8 yX8_holds yX8_holds ∈ TBg := tb_of 604 (by decide +kernel) (by decide +kernel)
theorem sel_X2_X2_countLeftOf_X2_countLeftOf : Cond.selects RX2 yX2_countLeftOf yX2_countLeftOf ∈ TBg := tb_of 608 (by decide +kernel) (by decide +kernel)
theorem sel_X8_X8_boys_X8_boys : Cond.selects RX8 yX8_boys yX8_boys ∈ TBg := tb_of 613 (by decide +kernel) (by decide +kernel)
theorem sel_X2_X2_hasWords_X2_hasWords : Cond.selects RX2 yX2_hasWords yX2_hasWords ∈ TBg := tb_of 617 (by decide +kernel) (by decide +kernel)
theorem sel_X8_X8_guard_X8_guard : Cond.selects RX8 yX8_guard yX8_guard ∈ TBg := tb_of 627 (by decide +kernel) (by decide +kernel)
theorem sel_X8_X8_winter_X8_winter : Cond.selects RX8 yX8_winter yX8_winter ∈ TBg := tb_of 631 (by decide +kernel) (by decide +kernel)
theorem sel_X2_X2_keepAway_X2_keepAway : Cond.selects RX2 yX2_keepAway yX2_keepAway ∈ TBg := tb_of 636 (by decide +kernel) (by decide +kernel)
theorem sel_X8_X8_becomes_X8_becomes : Cond.selects RX8 yX8_becomes yX8_becomes ∈ TBg := tb_of 640 (by decide +kernel) (by decide +kernel)
theorem sel_X2_X2_placeOtherThan_X2_placeOtherThan : Cond.selects RX2 yX2_placeOtherThan yX2_placeOtherThan ∈ TBg := tb_of 644 (by decide +kernel) (by decide +kernel)
theorem sel_X8_X8_danger_X8_danger : Cond.selects RX8 yX8_danger yX8_danger ∈ TBg := tb_of 648 (by decide +kernel) (by decide +kernel)
theorem sel_X8_X8_lasts_X8_lasts : Cond.selects RX8 yX8_lasts yX8_lasts ∈ TBg := tb_of 652 (by decide +kernel) (by decide +kernel)
theorem sel_X8_X8_mixed_X8_mixed : Cond.selects RX8 yX8_mixed yX8_mixed ∈ TBg := tb_of 656 (by decide +kernel) (by decide +kernel)
theorem sel_X8_X8_tastes_X8_tastes : Cond.selects RX8 yX8_tastes yX8_tastes ∈ TBg := tb_of 668 (by decide +kernel) (by decide +kernel)
theorem sel_X8_X8_fitting_X8_fitting : Cond.selects RX8 yX8_fitting yX8_fitting ∈ TBg := tb_of 672 (by decide +kernel) (by decide +kernel)
theorem sel_X8_X8_seeds_X8_seeds : Cond.selects RX8 yX8_seeds yX8_seeds ∈ TBg := tb_of 678 (by decide +kernel) (by decide +kernel)
theorem sel_X8_X8_row_X8_row : Cond.selects RX8 yX8_row yX8_row ∈ TBg := tb_of 685 (by decide +kernel) (by decide +kernel)
theorem sel_X8_X8_judge_X8_judge : Cond.selects RX8 yX8_judge yX8_judge ∈ TBg := tb_of 689 (by decide +kernel) (by decide +kernel)
theorem sel_X8_X8_image_X8_image : Cond.selects RX8 yX8_image yX8_image ∈ TBg := tb_of 693 (by decide +kernel) (by decide +kernel)
theorem sel_X8_X8_on_X8_on : Cond.selects RX8 yX8_on yX8_on ∈ TBg := tb_of 697 (by decide +kernel) (by decide +kernel)
theorem sel_X8_X8_count_X8_count : Cond.selects RX8 yX8_count yX8_count ∈ TBg := tb_of 701 (by decide +kernel) (by decide +kernel)
theorem sel_X2_X2_strengthLeft_X2_strengthLeft : Cond.selects RX2 yX2_strengthLeft yX2_strengthLeft ∈ TBg := tb_of 705 (by decide +kernel) (by decide +kernel)
theorem sel_X9_X9_letter_X9_letter : Cond.selects RX9 yX9_letter yX9_letter ∈ TBg := tb_of 797 (by decide +kernel) (by decide +kernel)
theorem sel_X9_X9_text_X9_text : Cond.selects RX9 yX9_text yX9_text ∈ TBg := tb_of 808 (by decide +kernel) (by decide +kernel)
theorem sel_X9_X9_image_X9_image : Cond.selects RX9 yX9_image yX9_image ∈ TBg := tb_of 866 (by decide +kernel) (by decide +kernel)
theorem sel_X9_X9_on_X9_on : Cond.selects RX9 yX9_on yX9_on ∈ TBg := tb_of 870 (by decide +kernel) (by decide +kernel)
theorem sel_X9_X9_word_X9_word : Cond.selects RX9 yX9_word yX9_word ∈ TBg := tb_of 874 (by decide +kernel) (by decide +kernel)
theorem sel_X9_X9_bird_X9_bird : Cond.selects RX9 yX9_bird yX9_bird ∈ TBg := tb_of 882 (by decide +kernel) (by decide +kernel)
theorem sel_X9_X9_bitter_X9_bitter : Cond.selects RX9 yX9_bitter yX9_bitter ∈ TBg := tb_of 906 (by decide +kernel) (by decide +kernel)
theorem sel_X9_X9_ink_X9_ink : Cond.selects RX9 yX9_ink yX9_ink ∈ TBg := tb_of 913 (by decide +kernel) (by decide +kernel)
theorem sel_X9_X9_watch_X9_watch : Cond.selects RX9 yX9_watch yX9_watch ∈ TBg := tb_of 917 (by decide +kernel) (by decide +kernel)
theorem sel_X9_X9_hour_X9_hour : Cond.selects RX9 yX9_hour yX9_hour ∈ TBg := tb_of 921 (by decide +kernel) (by decide +kernel)
theorem sel_X9_X9_anew_X9_anew : Cond.selects RX9 yX9_anew yX9_anew ∈ TBg := tb_of 933 (by decide +kernel) (by decide +kernel)
theorem sel_X9_X9_left_X9_left : Cond.selects RX9 yX9_left yX9_left ∈ TBg := tb_of 937 (by decide +kernel) (by decide +kernel)
theorem sel_X9_X9_eaten_X9_eaten : Cond.selects RX9 yX9_eaten yX9_eaten ∈ TBg := tb_of 945 (by decide +kernel) (by decide +kernel)
theorem sel_X9_X9_meanings_X9_meanings : Cond.selects RX9 yX9_meanings yX9_meanings ∈ TBg := tb_of 953 (by decide +kernel) (by decide +kernel)
theorem sel_X9_X9_remain_X9_remain : Cond.selects RX9 yX9_remain yX9_remain ∈ TBg := tb_of 965 (by decide +kernel) (by decide +kernel)
theorem sel_X9_X9_holds_X9_holds : Cond.selects RX9 yX9_holds yX9_holds ∈ TBg := tb_of 972 (by decide +kernel) (by decide +kernel)
theorem sel_X9_X9_boys_X9_boys : Cond.selects RX9 yX9_boys yX9_boys ∈ TBg := tb_of 976 (by decide +kernel) (by decide +kernel)
theorem sel_X9_X9_guard_X9_guard : Cond.selects RX9 yX9_guard yX9_guard ∈ TBg := tb_of 988 (by decide +kernel) (by decide +kernel)
theorem sel_X9_X9_winter_X9_winter : Cond.selects RX9 yX9_winter yX9_winter ∈ TBg := tb_of 992 (by decide +kernel) (by decide +kernel)
theorem sel_X9_X9_becomes_X9_becomes : Cond.selects RX9 yX9_becomes yX9_becomes ∈ TBg := tb_of 1001 (by decide +kernel) (by decide +kernel)
theorem sel_X9_X9_danger_X9_danger : Cond.selects RX9 yX9_danger yX9_danger ∈ TBg := tb_of 1009 (by decide +kernel) (by decide +kernel)
theorem sel_X9_X9_lasts_X9_lasts : Cond.selects RX9 yX9_lasts yX9_lasts ∈ TBg := tb_of 1013 (by decide +kernel) (by decide +kernel)
theorem sel_X9_X9_mixed_X9_mixed : Cond.selects RX9 yX9_mixed yX9_mixed ∈ TBg := tb_of 1017 (by decide +kernel) (by decide +kernel)
theorem sel_X9_X9_tastes_X9_tastes : Cond.selects RX9 yX9_tastes yX9_tastes ∈ TBg := tb_of 1021 (by decide +kernel) (by decide +kernel)
theorem sel_X9_X9_fitting_X9_fitting : Cond.selects RX9 yX9_fitting yX9_fitting ∈ TBg := tb_of 1025 (by decide +kernel) (by decide +kernel)
theorem sel_X9_X9_row_X9_row : Cond.selects RX9 yX9_row yX9_row ∈ TBg := tb_of 1029 (by decide +kernel) (by decide +kernel)
theorem sel_X9_X9_judge_X9_judge : Cond.selects RX9 yX9_judge yX9_judge ∈ TBg := tb_of 1033 (by decide +kernel) (by decide +kernel)
theorem sel_X9_X9_seeds_X9_seeds : Cond.selects RX9 yX9_seeds yX9_seeds ∈ TBg := tb_of 1037 (by decide +kernel) (by decide +kernel)
theorem sel_X9_X9_count_X9_count : Cond.selects RX9 yX9_count yX9_count ∈ TBg := tb_of 1044 (by decide +kernel) (by decide +kernel)
theorem sel_X8_X8_refuse_X8_refuse : Cond.selects RX8 yX8_refuse yX8_refuse ∈ TBg := tb_of 0 (by decide +kernel) (by decide +kernel)
theorem sel_X4_X4_misspeltPlace_X4_misspeltPlace : Cond.selects RX4 yX4_misspeltPlace yX4_misspeltPlace ∈ TBg := tb_of 1 (by decide +kernel) (by decide +kernel)
theorem sel_X4_X4_letterAt_X4_letterAt : Cond.selects RX4 yX4_letterAt yX4_letterAt ∈ TBg := tb_of 2 (by decide +kernel) (by decide +kernel)
theorem sel_X4_X4_unfitPlace_X4_unfitPlace : Cond.selects RX4 yX4_unfitPlace yX4_unfitPlace ∈ TBg := tb_of 3 (by decide +kernel) (by decide +kernel)
theorem sel_X4_X4_beginsStatement_X4_beginsStatement : Cond.selects RX4 yX4_beginsStatement yX4_beginsStatement ∈ TBg := tb_of 4 (by decide +kernel) (by decide +kernel)
theorem sel_X4_X4_isFit_X4_isFit : Cond.selects RX4 yX4_isFit yX4_isFit ∈ TBg := tb_of 5 (by decide +kernel) (by decide +kernel)
theorem sel_X4_X4_digitAt_X4_digitAt : Cond.selects RX4 yX4_digitAt yX4_digitAt ∈ TBg := tb_of 6 (by decide +kernel) (by decide +kernel)
theorem sel_X4_X4_tellStatement_X4_tellStatement : Cond.selects RX4 yX4_tellStatement yX4_tellStatement ∈ TBg := tb_of 7 (by decide +kernel) (by decide +kernel)
theorem sel_X8_X8_mindAsNow_X8_mindAsNow : Cond.selects RX8 yX8_mindAsNow yX8_mindAsNow ∈ TBg := tb_of 8 (by decide +kernel) (by decide +kernel)
theorem sel_X8_X8_isKeptByWatching_X8_isKeptByWatching : Cond.selects RX8 yX8_isKeptByWatching yX8_isKeptByWatching ∈ TBg := tb_of 9 (by decide +kernel) (by decide +kernel)
theorem sel_X8_X8_countLeftByBitters_X8_countLeftByBitters : Cond.selects RX8 yX8_countLeftByBitters yX8_countLeftByBitters ∈ TBg := tb_of 10 (by decide +kernel) (by decide +kernel)
theorem sel_X9_X9_no_X9_no : Cond.selects RX9 yX9_no yX9_no ∈ TBg := tb_of 11 (by decide +kernel) (by decide +kernel)
theorem sel_X9_X9_statement_X9_statement : Cond.selects RX9 yX9_statement yX9_statement ∈ TBg := tb_of 12 (by decide +kernel) (by decide +kernel)
theorem sel_X9_X9_next_X9_next : Cond.selects RX9 yX9_next yX9_next ∈ TBg := tb_of 13 (by decide +kernel) (by decide +kernel)
theorem sel_X9_X9_readsKind_X9_readsKind : Cond.selects RX9 yX9_readsKind yX9_readsKind ∈ TBg := tb_of 14 (by decide +kernel) (by decide +kernel)
theorem sel_X9_X9_readsOnes_X9_readsOnes : Cond.selects RX9 yX9_readsOnes yX9_readsOnes ∈ TBg := tb_of 15 (by decide +kernel) (by decide +kernel)
theorem sel_X9_X9_passesAll_X9_passesAll : Cond.selects RX9 yX9_passesAll yX9_passesAll ∈ TBg := tb_of 16 (by decide +kernel) (by decide +kernel)
theorem sel_X9_X9_passes_X9_passes : Cond.selects RX9 yX9_passes yX9_passes ∈ TBg := tb_of 17 (by decide +kernel) (by decide +kernel)
theorem sel_X9_X9_passOne_X9_passOne : Cond.selects RX9 yX9_passOne yX9_passOne ∈ TBg := tb_of 18 (by decide +kernel) (by decide +kernel)
theorem sel_X9_X9_comes_X9_comes : Cond.selects RX9 yX9_comes yX9_comes ∈ TBg := tb_of 19 (by decide +kernel) (by decide +kernel)
theorem sel_X9_X9_comesWord_X9_comesWord : Cond.selects RX9 yX9_comesWord yX9_comesWord ∈ TBg := tb_of 20 (by decide +kernel) (by decide +kernel)
theorem sel_X9_X9_comesBird_X9_comesBird : Cond.selects RX9 yX9_comesBird yX9_comesBird ∈ TBg := tb_of 21 (by decide +kernel) (by decide +kernel)
theorem sel_X9_X9_comesWatch_X9_comesWatch : Cond.selects RX9 yX9_comesWatch yX9_comesWatch ∈ TBg := tb_of 22 (by decide +kernel) (by decide +kernel)
theorem sel_X9_X9_isWord_X9_isWord : Cond.selects RX9 yX9_isWord yX9_isWord ∈ TBg := tb_of 23 (by decide +kernel) (by decide +kernel)
theorem sel_X9_X9_strengthOf_X9_strengthOf : Cond.selects RX9 yX9_strengthOf yX9_strengthOf ∈ TBg := tb_of 24 (by decide +kernel) (by decide +kernel)
theorem sel_X9_X9_isBird_X9_isBird : Cond.selects RX9 yX9_isBird yX9_isBird ∈ TBg := tb_of 25 (by decide +kernel) (by decide +kernel)
theorem sel_X9_X9_eatsBy_X9_eatsBy : Cond.selects RX9 yX9_eatsBy yX9_eatsBy ∈ TBg := tb_of 26 (by decide +kernel) (by decide +kernel)
theorem sel_X9_X9_mayEat_X9_mayEat : Cond.selects RX9 yX9_mayEat yX9_mayEat ∈ TBg := tb_of 27 (by decide +kernel) (by decide +kernel)
theorem sel_X9_X9_isGone_X9_isGone : Cond.selects RX9 yX9_isGone yX9_isGone ∈ TBg := tb_of 28 (by decide +kernel) (by decide +kernel)
theorem sel_X9_X9_isRather_X9_isRather : Cond.selects RX9 yX9_isRather yX9_isRather ∈ TBg := tb_of 29 (by decide +kernel) (by decide +kernel)
theorem sel_X9_X9_goesHour_X9_goesHour : Cond.selects RX9 yX9_goesHour yX9_goesHour ∈ TBg := tb_of 30 (by decide +kernel) (by decide +kernel)
theorem sel_X9_X9_eats_X9_eats : Cond.selects RX9 yX9_eats yX9_eats ∈ TBg := tb_of 31 (by decide +kernel) (by decide +kernel)
theorem sel_X9_X9_leftNow_X9_leftNow : Cond.selects RX9 yX9_leftNow yX9_leftNow ∈ TBg := tb_of 32 (by decide +kernel) (by decide +kernel)
theorem sel_X9_X9_goesIn_X9_goesIn : Cond.selects RX9 yX9_goesIn yX9_goesIn ∈ TBg := tb_of 33 (by decide +kernel) (by decide +kernel)
theorem sel_X9_X9_leftAtDusk_X9_leftAtDusk : Cond.selects RX9 yX9_leftAtDusk yX9_leftAtDusk ∈ TBg := tb_of 34 (by decide +kernel) (by decide +kernel)
theorem sel_X9_X9_meaningsOf_X9_meaningsOf : Cond.selects RX9 yX9_meaningsOf yX9_meaningsOf ∈ TBg := tb_of 35 (by decide +kernel) (by decide +kernel)
theorem sel_X9_X9_areWords_X9_areWords : Cond.selects RX9 yX9_areWords yX9_areWords ∈ TBg := tb_of 36 (by decide +kernel) (by decide +kernel)
theorem sel_X9_X9_watchedLeft_X9_watchedLeft : Cond.selects RX9 yX9_watchedLeft yX9_watchedLeft ∈ TBg := tb_of 37 (by decide +kernel) (by decide +kernel)
theorem sel_X9_X9_lower_X9_lower : Cond.selects RX9 yX9_lower yX9_lower ∈ TBg := tb_of 38 (by decide +kernel) (by decide +kernel)
theorem sel_X9_X9_otherAt_X9_otherAt : Cond.selects RX9 yX9_otherAt yX9_otherAt ∈ TBg := tb_of 39 (by decide +kernel) (by decide +kernel)
theorem ml_L_9 : Cond.methodLink RL 9 yX8_init ∈ TBg := tb_of 61 (by decide +kernel) (by decide +kernel)
theorem kI_L_9 : CIw RL 9 yX8_init cX8_init 2 0 := ⟨ml_L_9, im_X8_init, ini_X8, cod_X8_init, rfl, ⟨by decide +kernel, by decide +kernel, by decide +kernel⟩⟩
theorem ml_X8_27 : Cond.methodLink RX8 27 yX2_init ∈ TBg := tb_of 112 (by decide +kernel) (by decide +kernel)
theorem kI_X8_27 : CIw RX8 27 yX2_init cX2_init 2 1 := ⟨ml_X8_27, im_X2_init, ini_X2, cod_X2_init, rfl, ⟨by decide +kernel, by decide +kernel, by decide +kernel⟩⟩
theorem ml_L_13 : Cond.methodLink RL 13 yX8_letter ∈ TBg := tb_of 214 (by decide +kernel) (by decide +kernel)
theorem kV_L_13 : CVw RL 13 yX8_letter cX8_letter 2 (some .int) 1 := ⟨ml_L_13, im_X8_letter, sel_X8_X8_letter_X8_letter, ini_X8, cod_X8_letter, ⟨by decide +kernel, by decide +kernel, by decide +kernel⟩⟩
theorem ml_X8_56 : Cond.methodLink RX8 56 yX8_refuse ∈ TBg := tb_of 218 (by decide +kernel) (by decide +kernel)
theorem kV_X8_56 : CVw RX8 56 yX8_refuse cX8_refuse 3 (some .int) 1 := ⟨ml_X8_56, im_X8_refuse, sel_X8_X8_refuse_X8_refuse, ini_X8, cod_X8_refuse, ⟨by decide +kernel, by decide +kernel, by decide +kernel⟩⟩
theorem ml_X8_60 : Cond.methodLink RX8 60 yX4_isFull ∈ TBg := tb_of 222 (by decide +kernel) (by decide +kernel)
theorem kV_X8_60 : CVw RX8 60 yX4_isFull cX4_isFull 1 (some .boolean) 0 := ⟨ml_X8_60, im_X4_isFull, sel_X4_X4_isFull_X4_isFull, ini_X4, cod_X4_isFull, ⟨by decide +kernel, by decide +kernel, by decide +kernel⟩⟩
theorem ml_X8_64 : Cond.methodLink RX8 64 yX4_add ∈ TBg := tb_of 226 (by decide +kernel) (by decide +kernel)
theorem kV_X8_64 : CVw RX8 64 yX4_add cX4_add 2 (some .int) 1 := ⟨ml_X8_64, im_X4_add, sel_X4_X4_add_X4_add, ini_X4, cod_X4_add, ⟨by decide +kernel, by decide +kernel, by decide +kernel⟩⟩
theorem ml_X4_19 : Cond.methodLink RX4 19 yX4_isFull ∈ TBg := tb_of 230 (by decide +kernel) (by decide +kernel)
theorem kV_X4_19 : CVw RX4 19 yX4_isFull cX4_isFull 1 (some .boolean) 0 := ⟨ml_X4_19, im_X4_isFull, sel_X4_X4_isFull_X4_isFull, ini_X4, cod_X4_isFull, ⟨by decide +kernel, by decide +kernel, by decide +kernel⟩⟩
theorem ml_L_18 : Cond.methodLink RL 18 yX8_text ∈ TBg := tb_of 231 (by decide +kernel) (by decide +kernel)
theorem kV_L_18 : CVw RL 18 yX8_text cX8_text 2 (some .int) 0 := ⟨ml_L_18, im_X8_text, sel_X8_X8_text_X8_text, ini_X8, cod_X8_text, ⟨by decide +kernel, by decide +kernel, by decide +kernel⟩⟩
theorem ml_X8_75 : Cond.methodLink RX8 75 yX4_fault ∈ TBg := tb_of 235 (by decide +kernel) (by decide +kernel)
theorem kV_X8_75 : CVw RX8 75 yX4_fault cX4_fault 5 (some .int) 2 := ⟨ml_X8_75, im_X4_fault, sel_X4_X4_fault_X4_fault, ini_X4, cod_X4_fault, ⟨by decide +kernel, by decide +kernel, by decide +kernel⟩⟩
theorem ml_X4_23 : Cond.methodLink RX4 23 yX4_misspeltPlace ∈ TBg := tb_of 239 (by decide +kernel) (by decide +kernel)
theorem kV_X4_23 : CVw RX4 23 yX4_misspeltPlace cX4_misspeltPlace 4 (some .int) 0 := ⟨ml_X4_23, im_X4_misspeltPlace, sel_X4_X4_misspeltPlace_X4_misspeltPlace, ini_X4, cod_X4_misspeltPlace, ⟨by decide +kernel, by decide +kernel, by decide +kernel⟩⟩
theorem ml_X4_39 : Cond.methodLink RX4 39 yX4_letterAt ∈ TBg := tb_of 243 (by decide +kernel) (by decide +kernel)
theorem kV_X4_39 : CVw RX4 39 yX4_letterAt cX4_letterAt 2 (some .char) 1 := ⟨ml_X4_39, im_X4_letterAt, sel_X4_X4_letterAt_X4_letterAt, ini_X4, cod_X4_letterAt, ⟨by decide +kernel, by decide +kernel, by decide +kernel⟩⟩
theorem ml_X4_43 : Cond.methodLink RX4 43 yX4_formBehind ∈ TBg := tb_of 247 (by decide +kernel) (by decide +kernel)
theorem kS_X4_43 : CSw RX4 43 yX4_formBehind cX4_formBehind 1 (some (.object "java/lang/String")) 1 := ⟨ml_X4_43, sta_X4_formBehind, ini_X4, cod_X4_formBehind, ⟨by decide +kernel, by decide +kernel, by decide +kernel⟩⟩
theorem ml_X4_47 : Cond.methodLink RX4 47 yJ0_isEmpty_aae02 ∈ TBg := tb_of 254 (by decide +kernel) (by decide +kernel)
theorem kV_X4_47 : CVw RX4 47 yJ0_isEmpty_aae02 cJ0_isEmpty_aae02 1 (some .boolean) 0 := ⟨ml_X4_47, im_J0_isEmpty_aae02, sel_J0_J0_isEmpty_aae02_J0_isEmpty_aae02, ini_J0, cod_J0_isEmpty_aae02, ⟨by decide +kernel, by decide +kernel, by decide +kernel⟩⟩
theorem ml_X4_52 : Cond.methodLink RX4 52 yJ0_length_8abf5 ∈ TBg := tb_of 258 (by decide +kernel) (by decide +kernel)
theorem kV_X4_52 : CVw RX4 52 yJ0_length_8abf5 cJ0_length_8abf5 1 (some .int) 0 := ⟨ml_X4_52, im_J0_length_8abf5, sel_J0_J0_length_8abf5_J0_length_8abf5, ini_J0, cod_J0_length_8abf5, ⟨by decide +kernel, by decide +kernel, by decide +kernel⟩⟩
theorem ml_J0_335 : Cond.methodLink RJ0 335 yJ0_coder_7d493 ∈ TBg := tb_of 262 (by decide +kernel) (by decide +kernel)
theorem kV_J0_335 : CVw RJ0 335 yJ0_coder_7d493 cJ0_coder_7d493 1 (some .byte) 0 := ⟨ml_J0_335, im_J0_coder_7d493, sel_J0_J0_coder_7d493_J0_coder_7d493, ini_J0, cod_J0_coder_7d493, ⟨by decide +kernel, by decide +kernel, by decide +kernel⟩⟩
theorem ml_X4_55 : Cond.methodLink RX4 55 yJ0_charAt_5068e ∈ TBg := tb_of 268 (by decide +kernel) (by decide +kernel)
theorem kV_X4_55 : CVw RX4 55 yJ0_charAt_5068e cJ0_charAt_5068e 2 (some .char) 1 := ⟨ml_X4_55, im_J0_charAt_5068e, sel_J0_J0_charAt_5068e_J0_charAt_5068e, ini_J0, cod_J0_charAt_5068e, ⟨by decide +kernel, by decide +kernel, by decide +kernel⟩⟩
theorem ml_J0_492 : Cond.methodLink RJ0 492 yJ0_isLatin1_aae02 ∈ TBg := tb_of 272 (by decide +kernel) (by decide +kernel)
theorem kV_J0_492 : CVw RJ0 492 yJ0_isLatin1_aae02 cJ0_isLatin1_aae02 1 (some .boolean) 0 := ⟨ml_J0_492, im_J0_isLatin1_aae02, sel_J0_J0_isLatin1_aae02_J0_isLatin1_aae02, ini_J0, cod_J0_isLatin1_aae02, ⟨by decide +kernel, by decide +kernel, by decide +kernel⟩⟩
theorem ml_J0_495 : Cond.methodLink RJ0 495 yJ1_charAt_3b067 ∈ TBg := tb_of 276 (by decide +kernel) (by decide +kernel)
theorem kS_J0_495 : CSw RJ0 495 yJ1_charAt_3b067 cJ1_charAt_3b067 2 (some .char) 2 := ⟨ml_J0_495, sta_J1_charAt_3b067, ini_J1, cod_J1_charAt_3b067, ⟨by decide +kernel, by decide +kernel, by decide +kernel⟩⟩
theorem ml_J1_9 : Cond.methodLink RJ1 9 yJ0_checkIndex_df160 ∈ TBg := tb_of 279 (by decide +kernel) (by decide +kernel)
theorem kS_J1_9 : CSw RJ1 9 yJ0_checkIndex_df160 cJ0_checkIndex_df160 2 none 2 := ⟨ml_J1_9, sta_J0_checkIndex_df160, ini_J0, cod_J0_checkIndex_df160, ⟨by decide +kernel, by decide +kernel, by decide +kernel⟩⟩
theorem ml_J0_1059 : Cond.methodLink RJ0 1059 yJ3_checkIndex_8e157 ∈ TBg := tb_of 284 (by decide +kernel) (by decide +kernel)
theorem kS_J0_1059 : CSw RJ0 1059 yJ3_checkIndex_8e157 cJ3_checkIndex_8e157 3 (some .int) 3 := ⟨ml_J0_1059, sta_J3_checkIndex_8e157, ini_J3, cod_J3_checkIndex_8e157, ⟨by decide +kernel, by decide +kernel, by decide +kernel⟩⟩
theorem ml_J0_498 : Cond.methodLink RJ0 498 yJ2_charAt_3b067 ∈ TBg := tb_of 287 (by decide +kernel) (by decide +kernel)
theorem kS_J0_498 : CSw RJ0 498 yJ2_charAt_3b067 cJ2_charAt_3b067 2 (some .char) 2 := ⟨ml_J0_498, sta_J2_charAt_3b067, ini_J2, cod_J2_charAt_3b067, ⟨by decide +kernel, by decide +kernel, by decide +kernel⟩⟩
theorem ml_J2_67 : Cond.methodLink RJ2 67 yJ2_checkIndex_2214a ∈ TBg := tb_of 290 (by decide +kernel) (by decide +kernel)
theorem kS_J2_67 : CSw RJ2 67 yJ2_checkIndex_2214a cJ2_checkIndex_2214a 2 none 2 := ⟨ml_J2_67, sta_J2_checkIndex_2214a, ini_J2, cod_J2_checkIndex_2214a, ⟨by decide +kernel, by decide +kernel, by decide +kernel⟩⟩
theorem ml_J2_48 : Cond.methodLink RJ2 48 yJ2_length_9d52b ∈ TBg := tb_of 293 (by decide +kernel) (by decide +kernel)
theorem kS_J2_48 : CSw RJ2 48 yJ2_length_9d52b cJ2_length_9d52b 1 (some .int) 1 := ⟨ml_J2_48, sta_J2_length_9d52b, ini_J2, cod_J2_length_9d52b, ⟨by decide +kernel, by decide +kernel, by decide +kernel⟩⟩
theorem ml_J2_414 : Cond.methodLink RJ2 414 yJ0_checkIndex_df160 ∈ TBg := tb_of 296 (by decide +kernel) (by decide +kernel)
theorem kS_J2_414 : CSw RJ2 414 yJ0_checkIndex_df160 cJ0_checkIndex_df160 2 none 2 := ⟨ml_J2_414, sta_J0_checkIndex_df160, ini_J0, cod_J0_checkIndex_df160, ⟨by decide +kernel, by decide +kernel, by decide +kernel⟩⟩
theorem ml_J2_71 : Cond.methodLink RJ2 71 yJ2_getChar_3b067 ∈ TBg := tb_of 297 (by decide +kernel) (by decide +kernel)
theorem kS_J2_71 : CSw RJ2 71 yJ2_getChar_3b067 cJ2_getChar_3b067 2 (some .char) 2 := ⟨ml_J2_71, sta_J2_getChar_3b067, ini_J2, cod_J2_getChar_3b067, ⟨by decide +kernel, by decide +kernel, by decide +kernel⟩⟩
theorem ml_X4_58 : Cond.methodLink RX4 58 yX4_isOfForm ∈ TBg := tb_of 306 (by decide +kernel) (by decide +kernel)
theorem kS_X4_58 : CSw RX4 58 yX4_isOfForm cX4_isOfForm 2 (some .boolean) 2 := ⟨ml_X4_58, sta_X4_isOfForm, ini_X4, cod_X4_isOfForm, ⟨by decide +kernel, by decide +kernel, by decide +kernel⟩⟩
theorem ml_X4_85 : Cond.methodLink RX4 85 yJ0_indexOf_0f7a4 ∈ TBg := tb_of 310 (by decide +kernel) (by decide +kernel)
theorem kV_X4_85 : CVw RX4 85 yJ0_indexOf_0f7a4 cJ0_indexOf_0f7a4 2 (some .int) 1 := ⟨ml_X4_85, im_J0_indexOf_0f7a4, sel_J0_J0_indexOf_0f7a4_J0_indexOf_0f7a4, ini_J0, cod_J0_indexOf_0f7a4, ⟨by decide +kernel, by decide +kernel, by decide +kernel⟩⟩
theorem ml_J0_633 : Cond.methodLink RJ0 633 yJ0_indexOf_7cf53 ∈ TBg := tb_of 314 (by decide +kernel) (by decide +kernel)
theorem kV_J0_633 : CVw RJ0 633 yJ0_indexOf_7cf53 cJ0_indexOf_7cf53 3 (some .int) 2 := ⟨ml_J0_633, im_J0_indexOf_7cf53, sel_J0_J0_indexOf_7cf53_J0_indexOf_7cf53, ini_J0, cod_J0_indexOf_7cf53, ⟨by decide +kernel, by decide +kernel, by decide +kernel⟩⟩
theorem ml_J0_505 : Cond.methodLink RJ0 505 yJ0_length_8abf5 ∈ TBg := tb_of 318 (by decide +kernel) (by decide +kernel)
theorem kV_J0_505 : CVw RJ0 505 yJ0_length_8abf5 cJ0_length_8abf5 1 (some .int) 0 := ⟨ml_J0_505, im_J0_length_8abf5, sel_J0_J0_length_8abf5_J0_length_8abf5, ini_J0, cod_J0_length_8abf5, ⟨by decide +kernel, by decide +kernel, by decide +kernel⟩⟩
theorem ml_J0_637 : Cond.methodLink RJ0 637 yJ1_indexOf_4cfef ∈ TBg := tb_of 319 (by decide +kernel) (by decide +kernel)
theorem kS_J0_637 : CSw RJ0 637 yJ1_indexOf_4cfef cJ1_indexOf_4cfef 4 (some .int) 4 := ⟨ml_J0_637, sta_J1_indexOf_4cfef, ini_J1, cod_J1_indexOf_4cfef, ⟨by decide +kernel, by decide +kernel, by decide +kernel⟩⟩
theorem ml_J1_88 : Cond.methodLink RJ1 88 yJ1_canEncode_9a6ad ∈ TBg := tb_of 322 (by decide +kernel) (by decide +kernel)
theorem kS_J1_88 : CSw RJ1 88 yJ1_canEncode_9a6ad cJ1_canEncode_9a6ad 1 (some .boolean) 1 := ⟨ml_J1_88, sta_J1_canEncode_9a6ad, ini_J1, cod_J1_canEncode_9a6ad, ⟨by decide +kernel, by decide +kernel, by decide +kernel⟩⟩
theorem ml_J1_92 : Cond.methodLink RJ1 92 yJ9_max_7cf53 ∈ TBg := tb_of 325 (by decide +kernel) (by decide +kernel)
theorem kS_J1_92 : CSw RJ1 92 yJ9_max_7cf53 cJ9_max_7cf53 2 (some .int) 2 := ⟨ml_J1_92, sta_J9_max_7cf53, ini_J9, cod_J9_max_7cf53, ⟨by decide +kernel, by decide +kernel, by decide +kernel⟩⟩
theorem ml_J1_38 : Cond.methodLink RJ1 38 yJ9_min_7cf53 ∈ TBg := tb_of 328 (by decide +kernel) (by decide +kernel)
theorem kS_J1_38 : CSw RJ1 38 yJ9_min_7cf53 cJ9_min_7cf53 2 (some .int) 2 := ⟨ml_J1_38, sta_J9_min_7cf53, ini_J9, cod_J9_min_7cf53, ⟨by decide +kernel, by decide +kernel, by decide +kernel⟩⟩
theorem ml_J1_95 : Cond.methodLink RJ1 95 yJ1_indexOfChar_4cfef ∈ TBg := tb_of 331 (by decide +kernel) (by decide +kernel)
theorem kS_J1_95 : CSw RJ1 95 yJ1_indexOfChar_4cfef cJ1_indexOfChar_4cfef 6 (some .int) 4 := ⟨ml_J1_95, sta_J1_indexOfChar_4cfef, ini_J1, cod_J1_indexOfChar_4cfef, ⟨by decide +kernel, by decide +kernel, by decide +kernel⟩⟩
theorem ml_J0_640 : Cond.methodLink RJ0 640 yJ2_indexOf_4cfef ∈ TBg := tb_of 334 (by decide +kernel) (by decide +kernel)
theorem kS_J0_640 : CSw RJ0 640 yJ2_indexOf_4cfef cJ2_indexOf_4cfef 4 (some .int) 4 := ⟨ml_J0_640, sta_J2_indexOf_4cfef, ini_J2, cod_J2_indexOf_4cfef, ⟨by decide +kernel, by decide +kernel, by decide +kernel⟩⟩
theorem ml_J2_224 : Cond.methodLink RJ2 224 yJ9_max_7cf53 ∈ TBg := tb_of 337 (by decide +kernel) (by decide +kernel)
theorem kS_J2_224 : CSw RJ2 224 yJ9_max_7cf53 cJ9_max_7cf53 2 (some .int) 2 := ⟨ml_J2_224, sta_J9_max_7cf53, ini_J9, cod_J9_max_7cf53, ⟨by decide +kernel, by decide +kernel, by decide +kernel⟩⟩
theorem ml_J2_183 : Cond.methodLink RJ2 183 yJ9_min_7cf53 ∈ TBg := tb_of 338 (by decide +kernel) (by decide +kernel)
theorem kS_J2_183 : CSw RJ2 183 yJ9_min_7cf53 cJ9_min_7cf53 2 (some .int) 2 := ⟨ml_J2_183, sta_J9_min_7cf53, ini_J9, cod_J9_min_7cf53, ⟨by decide +kernel, by decide +kernel, by decide +kernel⟩⟩
theorem ml_J2_228 : Cond.methodLink RJ2 228 yJ2_indexOfChar_4cfef ∈ TBg := tb_of 340 (by decide +kernel) (by decide +kernel)
theorem kS_J2_228 : CSw RJ2 228 yJ2_indexOfChar_4cfef cJ2_indexOfChar_4cfef 4 (some .int) 4 := ⟨ml_J2_228, sta_J2_indexOfChar_4cfef, ini_J2, cod_J2_indexOfChar_4cfef, ⟨by decide +kernel, by decide +kernel, by decide +kernel⟩⟩
theorem ml_J2_96 : Cond.methodLink RJ2 96 yJ2_checkBoundsBeginEnd_d044e ∈ TBg := tb_of 343 (by decide +kernel) (by decide +kernel)
theorem kS_J2_96 : CSw RJ2 96 yJ2_checkBoundsBeginEnd_d044e cJ2_checkBoundsBeginEnd_d044e 3 none 3 := ⟨ml_J2_96, sta_J2_checkBoundsBeginEnd_d044e, ini_J2, cod_J2_checkBoundsBeginEnd_d044e, ⟨by decide +kernel, by decide +kernel, by decide +kernel⟩⟩
theorem ml_J2_241 : Cond.methodLink RJ2 241 yJ0_checkBoundsBeginEnd_23922 ∈ TBg := tb_of 346 (by decide +kernel) (by decide +kernel)
theorem kS_J2_241 : CSw RJ2 241 yJ0_checkBoundsBeginEnd_23922 cJ0_checkBoundsBeginEnd_23922 3 none 3 := ⟨ml_J2_241, sta_J0_checkBoundsBeginEnd_23922, ini_J0, cod_J0_checkBoundsBeginEnd_23922, ⟨by decide +kernel, by decide +kernel, by decide +kernel⟩⟩
theorem ml_J0_1062 : Cond.methodLink RJ0 1062 yJ3_checkFromToIndex_8c36e ∈ TBg := tb_of 349 (by decide +kernel) (by decide +kernel)
theorem kS_J0_1062 : CSw RJ0 1062 yJ3_checkFromToIndex_8c36e cJ3_checkFromToIndex_8c36e 4 (some .int) 4 := ⟨ml_J0_1062, sta_J3_checkFromToIndex_8c36e, ini_J3, cod_J3_checkFromToIndex_8c36e, ⟨by decide +kernel, by decide +kernel, by decide +kernel⟩⟩
theorem ml_J2_244 : Cond.methodLink RJ2 244 yJ2_indexOfCharUnsafe_4cfef ∈ TBg := tb_of 352 (by decide +kernel) (by decide +kernel)
theorem kS_J2_244 : CSw RJ2 244 yJ2_indexOfCharUnsafe_4cfef cJ2_indexOfCharUnsafe_4cfef 5 (some .int) 4 := ⟨ml_J2_244, sta_J2_indexOfCharUnsafe_4cfef, ini_J2, cod_J2_indexOfCharUnsafe_4cfef, ⟨by decide +kernel, by decide +kernel, by decide +kernel⟩⟩
theorem ml_J2_232 : Cond.methodLink RJ2 232 yJ2_indexOfSupplementary_4cfef ∈ TBg := tb_of 355 (by decide +kernel) (by decide +kernel)
theorem kS_J2_232 : CSw RJ2 232 yJ2_indexOfSupplementary_4cfef cJ2_indexOfSupplementary_4cfef 7 (some .int) 4 := ⟨ml_J2_232, sta_J2_indexOfSupplementary_4cfef, ini_J2, cod_J2_indexOfSupplementary_4cfef, ⟨by decide +kernel, by decide +kernel, by decide +kernel⟩⟩
theorem ml_J2_164 : Cond.methodLink RJ2 164 yJ11_isValidCodePoint_9a6ad ∈ TBg := tb_of 358 (by decide +kernel) (by decide +kernel)
theorem kS_J2_164 : CSw RJ2 164 yJ11_isValidCodePoint_9a6ad cJ11_isValidCodePoint_9a6ad 2 (some .boolean) 1 := ⟨ml_J2_164, sta_J11_isValidCodePoint_9a6ad, ini_J11, cod_J11_isValidCodePoint_9a6ad, ⟨by decide +kernel, by decide +kernel, by decide +kernel⟩⟩
theorem ml_J2_157 : Cond.methodLink RJ2 157 yJ11_highSurrogate_5068e ∈ TBg := tb_of 361 (by decide +kernel) (by decide +kernel)
theorem kS_J2_157 : CSw RJ2 157 yJ11_highSurrogate_5068e cJ11_highSurrogate_5068e 1 (some .char) 1 := ⟨ml_J2_157, sta_J11_highSurrogate_5068e, ini_J11, cod_J11_highSurrogate_5068e, ⟨by decide +kernel, by decide +kernel, by decide +kernel⟩⟩
theorem ml_J2_161 : Cond.methodLink RJ2 161 yJ11_lowSurrogate_5068e ∈ TBg := tb_of 365 (by decide +kernel) (by decide +kernel)
theorem kS_J2_161 : CSw RJ2 161 yJ11_lowSurrogate_5068e cJ11_lowSurrogate_5068e 1 (some .char) 1 := ⟨ml_J2_161, sta_J11_lowSurrogate_5068e, ini_J11, cod_J11_lowSurrogate_5068e, ⟨by decide +kernel, by decide +kernel, by decide +kernel⟩⟩
theorem ml_X4_27 : Cond.methodLink RX4 27 yX4_unfitPlace ∈ TBg := tb_of 369 (by decide +kernel) (by decide +kernel)
theorem kV_X4_27 : CVw RX4 27 yX4_unfitPlace cX4_unfitPlace 6 (some .int) 2 := ⟨ml_X4_27, im_X4_unfitPlace, sel_X4_X4_unfitPlace_X4_unfitPlace, ini_X4, cod_X4_unfitPlace, ⟨by decide +kernel, by decide +kernel, by decide +kernel⟩⟩
theorem ml_X4_31 : Cond.methodLink RX4 31 yX4_beginsStatement ∈ TBg := tb_of 373 (by decide +kernel) (by decide +kernel)
theorem kV_X4_31 : CVw RX4 31 yX4_beginsStatement cX4_beginsStatement 2 (some .boolean) 1 := ⟨ml_X4_31, im_X4_beginsStatement, sel_X4_X4_beginsStatement_X4_beginsStatement, ini_X4, cod_X4_beginsStatement, ⟨by decide +kernel, by decide +kernel, by decide +kernel⟩⟩
theorem ml_X4_62 : Cond.methodLink RX4 62 yX4_isFit ∈ TBg := tb_of 377 (by decide +kernel) (by decide +kernel)
theorem kV_X4_62 : CVw RX4 62 yX4_isFit cX4_isFit 4 (some .boolean) 3 := ⟨ml_X4_62, im_X4_isFit, sel_X4_X4_isFit_X4_isFit, ini_X4, cod_X4_isFit, ⟨by decide +kernel, by decide +kernel, by decide +kernel⟩⟩
theorem ml_X4_66 : Cond.methodLink RX4 66 yX4_digitAt ∈ TBg := tb_of 381 (by decide +kernel) (by decide +kernel)
theorem kV_X4_66 : CVw RX4 66 yX4_digitAt cX4_digitAt 2 (some .int) 1 := ⟨ml_X4_66, im_X4_digitAt, sel_X4_X4_digitAt_X4_digitAt, ini_X4, cod_X4_digitAt, ⟨by decide +kernel, by decide +kernel, by decide +kernel⟩⟩
theorem ml_X4_73 : Cond.methodLink RX4 73 yX4_areHours ∈ TBg := tb_of 388 (by decide +kernel) (by decide +kernel)
theorem kS_X4_73 : CSw RX4 73 yX4_areHours cX4_areHours 2 (some .boolean) 2 := ⟨ml_X4_73, sta_X4_areHours, ini_X4, cod_X4_areHours, ⟨by decide +kernel, by decide +kernel, by decide +kernel⟩⟩
theorem ml_X8_79 : Cond.methodLink RX8 79 yX4_tellTo ∈ TBg := tb_of 391 (by decide +kernel) (by decide +kernel)
theorem kV_X8_79 : CVw RX8 79 yX4_tellTo cX4_tellTo 4 (some .int) 1 := ⟨ml_X8_79, im_X4_tellTo, sel_X4_X4_tellTo_X4_tellTo, ini_X4, cod_X4_tellTo, ⟨by decide +kernel, by decide +kernel, by decide +kernel⟩⟩
theorem ml_X4_35 : Cond.methodLink RX4 35 yX4_tellStatement ∈ TBg := tb_of 395 (by decide +kernel) (by decide +kernel)
theorem kV_X4_35 : CVw RX4 35 yX4_tellStatement cX4_tellStatement 7 none 2 := ⟨ml_X4_35, im_X4_tellStatement, sel_X4_X4_tellStatement_X4_tellStatement, ini_X4, cod_X4_tellStatement, ⟨by decide +kernel, by decide +kernel, by decide +kernel⟩⟩
theorem ml_X4_77 : Cond.methodLink RX4 77 yX2_addWord ∈ TBg := tb_of 399 (by decide +kernel) (by decide +kernel)
theorem kV_X4_77 : CVw RX4 77 yX2_addWord cX2_addWord 4 none 3 := ⟨ml_X4_77, im_X2_addWord, sel_X2_X2_addWord_X2_addWord, ini_X2, cod_X2_addWord, ⟨by decide +kernel, by decide +kernel, by decide +kernel⟩⟩
theorem ml_X4_88 : Cond.methodLink RX4 88 yX2_addBird ∈ TBg := tb_of 404 (by decide +kernel) (by decide +kernel)
theorem kV_X4_88 : CVw RX4 88 yX2_addBird cX2_addBird 5 none 4 := ⟨ml_X4_88, im_X2_addBird, sel_X2_X2_addBird_X2_addBird, ini_X2, cod_X2_addBird, ⟨by decide +kernel, by decide +kernel, by decide +kernel⟩⟩
theorem ml_X4_92 : Cond.methodLink RX4 92 yX2_setBitter ∈ TBg := tb_of 408 (by decide +kernel) (by decide +kernel)
theorem kV_X4_92 : CVw RX4 92 yX2_setBitter cX2_setBitter 3 none 2 := ⟨ml_X4_92, im_X2_setBitter, sel_X2_X2_setBitter_X2_setBitter, ini_X2, cod_X2_setBitter, ⟨by decide +kernel, by decide +kernel, by decide +kernel⟩⟩
theorem ml_X4_96 : Cond.methodLink RX4 96 yX2_setWatched ∈ TBg := tb_of 412 (by decide +kernel) (by decide +kernel)
theorem kV_X4_96 : CVw RX4 96 yX2_setWatched cX2_setWatched 5 none 3 := ⟨ml_X4_96, im_X2_setWatched, sel_X2_X2_setWatched_X2_setWatched, ini_X2, cod_X2_setWatched, ⟨by decide +kernel, by decide +kernel, by decide +kernel⟩⟩
theorem ml_X2_70 : Cond.methodLink RX2 70 yX2_hasWord ∈ TBg := tb_of 416 (by decide +kernel) (by decide +kernel)
theorem kV_X2_70 : CVw RX2 70 yX2_hasWord cX2_hasWord 2 (some .boolean) 1 := ⟨ml_X2_70, im_X2_hasWord, sel_X2_X2_hasWord_X2_hasWord, ini_X2, cod_X2_hasWord, ⟨by decide +kernel, by decide +kernel, by decide +kernel⟩⟩
theorem ml_X8_83 : Cond.methodLink RX8 83 yX4_clear ∈ TBg := tb_of 420 (by decide +kernel) (by decide +kernel)
theorem kV_X8_83 : CVw RX8 83 yX4_clear cX4_clear 1 none 0 := ⟨ml_X8_83, im_X4_clear, sel_X4_X4_clear_X4_clear, ini_X4, cod_X4_clear, ⟨by decide +kernel, by decide +kernel, by decide +kernel⟩⟩
theorem ml_L_23 : Cond.methodLink RL 23 yX8_word ∈ TBg := tb_of 425 (by decide +kernel) (by decide +kernel)
theorem kV_L_23 : CVw RL 23 yX8_word cX8_word 3 (some .int) 2 := ⟨ml_L_23, im_X8_word, sel_X8_X8_word_X8_word, ini_X8, cod_X8_word, ⟨by decide +kernel, by decide +kernel, by decide +kernel⟩⟩
theorem ml_X8_86 : Cond.methodLink RX8 86 yX2_hasWord ∈ TBg := tb_of 429 (by decide +kernel) (by decide +kernel)
theorem kV_X8_86 : CVw RX8 86 yX2_hasWord cX2_hasWord 2 (some .boolean) 1 := ⟨ml_X8_86, im_X2_hasWord, sel_X2_X2_hasWord_X2_hasWord, ini_X2, cod_X2_hasWord, ⟨by decide +kernel, by decide +kernel, by decide +kernel⟩⟩
theorem ml_X8_99 : Cond.methodLink RX8 99 yX2_strength ∈ TBg := tb_of 430 (by decide +kernel) (by decide +kernel)
theorem kV_X8_99 : CVw RX8 99 yX2_strength cX2_strength 3 (some .int) 1 := ⟨ml_X8_99, im_X2_strength, sel_X2_X2_strength_X2_strength, ini_X2, cod_X2_strength, ⟨by decide +kernel, by decide +kernel, by decide +kernel⟩⟩
theorem ml_X8_102 : Cond.methodLink RX8 102 yX2_isGone ∈ TBg := tb_of 434 (by decide +kernel) (by decide +kernel)
theorem kV_X8_102 : CVw RX8 102 yX2_isGone cX2_isGone 2 (some .boolean) 1 := ⟨ml_X8_102, im_X2_isGone, sel_X2_X2_isGone_X2_isGone, ini_X2, cod_X2_isGone, ⟨by decide +kernel, by decide +kernel, by decide +kernel⟩⟩
theorem ml_X8_108 : Cond.methodLink RX8 108 yX2_isWatched ∈ TBg := tb_of 438 (by decide +kernel) (by decide +kernel)
theorem kV_X8_108 : CVw RX8 108 yX2_isWatched cX2_isWatched 3 (some .boolean) 2 := ⟨ml_X8_108, im_X2_isWatched, sel_X2_X2_isWatched_X2_isWatched, ini_X2, cod_X2_isWatched, ⟨by decide +kernel, by decide +kernel, by decide +kernel⟩⟩
theorem ml_L_28 : Cond.methodLink RL 28 yX8_bird ∈ TBg := tb_of 442 (by decide +kernel) (by decide +kernel)
theorem kV_L_28 : CVw RL 28 yX8_bird cX8_bird 3 (some .int) 2 := ⟨ml_L_28, im_X8_bird, sel_X8_X8_bird_X8_bird, ini_X8, cod_X8_bird, ⟨by decide +kernel, by decide +kernel, by decide +kernel⟩⟩
theorem ml_X8_112 : Cond.methodLink RX8 112 yX2_hasBird ∈ TBg := tb_of 446 (by decide +kernel) (by decide +kernel)
theorem kV_X8_112 : CVw RX8 112 yX2_hasBird cX2_hasBird 2 (some .boolean) 1 := ⟨ml_X8_112, im_X2_hasBird, sel_X2_X2_hasBird_X2_hasBird, ini_X2, cod_X2_hasBird, ⟨by decide +kernel, by decide +kernel, by decide +kernel⟩⟩
theorem ml_X8_127 : Cond.methodLink RX8 127 yX2_kindOf ∈ TBg := tb_of 450 (by decide +kernel) (by decide +kernel)
theorem kV_X8_127 : CVw RX8 127 yX2_kindOf cX2_kindOf 2 (some (.object "EatenByDusk$Sparrow")) 1 := ⟨ml_X8_127, im_X2_kindOf, sel_X2_X2_kindOf_X2_kindOf, ini_X2, cod_X2_kindOf, ⟨by decide +kernel, by decide +kernel, by decide +kernel⟩⟩
theorem ml_X8_131 : Cond.methodLink RX8 131 yX6_choice ∈ TBg := tb_of 454 (by decide +kernel) (by decide +kernel)
theorem sm_X8_131 : Cond.sameMethod yX6_choice.cls yX6_choice.cls yX6_choice.name yX6_choice.desc ∈ TBg := tb_of 457 (by decide +kernel) (by decide +kernel)
theorem kU_X8_131_X0 : CUw RX8 131 RX0 yX6_choice yX6_choice cX6_choice 5 (some .int) 2 := ⟨ml_X8_131, sm_X8_131, sel_X0_X6_choice_X6_choice, im_X6_choice, ini_X6, cod_X6_choice, im_X6_choice, ⟨_, _, _, cod_X6_choice⟩, ⟨by decide +kernel, by decide +kernel, by decide +kernel⟩⟩
theorem kU_X8_131_X1 : CUw RX8 131 RX1 yX6_choice yX6_choice cX6_choice 5 (some .int) 2 := ⟨ml_X8_131, sm_X8_131, sel_X1_X6_choice_X6_choice, im_X6_choice, ini_X6, cod_X6_choice, im_X6_choice, ⟨_, _, _, cod_X6_choice⟩, ⟨by decide +kernel, by decide +kernel, by decide +kernel⟩⟩
theorem kU_X8_131_X3 : CUw RX8 131 RX3 yX6_choice yX6_choice cX6_choice 5 (some .int) 2 := ⟨ml_X8_131, sm_X8_131, sel_X3_X6_choice_X6_choice, im_X6_choice, ini_X6, cod_X6_choice, im_X6_choice, ⟨_, _, _, cod_X6_choice⟩, ⟨by decide +kernel, by decide +kernel, by decide +kernel⟩⟩
theorem kU_X8_131_X5 : CUw RX8 131 RX5 yX6_choice yX6_choice cX6_choice 5 (some .int) 2 := ⟨ml_X8_131, sm_X8_131, sel_X5_X6_choice_X6_choice, im_X6_choice, ini_X6, cod_X6_choice, im_X6_choice, ⟨_, _, _, cod_X6_choice⟩, ⟨by decide +kernel, by decide +kernel, by decide +kernel⟩⟩
theorem kU_X8_131_X6 : CUw RX8 131 RX6 yX6_choice yX6_choice cX6_choice 5 (some .int) 2 := ⟨ml_X8_131, sm_X8_131, sel_X6_X6_choice_X6_choice, im_X6_choice, ini_X6, cod_X6_choice, im_X6_choice, ⟨_, _, _, cod_X6_choice⟩, ⟨by decide +kernel, by decide +kernel, by decide +kernel⟩⟩
theorem kU_X8_131_X7 : CUw RX8 131 RX7 yX6_choice yX6_choice cX6_choice 5 (some .int) 2 := ⟨ml_X8_131, sm_X8_131, sel_X7_X6_choice_X6_choice, im_X6_choice, ini_X6, cod_X6_choice, im_X6_choice, ⟨_, _, _, cod_X6_choice⟩, ⟨by decide +kernel, by decide +kernel, by decide +kernel⟩⟩
theorem ml_X6_15 : Cond.methodLink RX6 15 yX2_mayBeEaten ∈ TBg := tb_of 464 (by decide +kernel) (by decide +kernel)
theorem kV_X6_15 : CVw RX6 15 yX2_mayBeEaten cX2_mayBeEaten 3 (some .boolean) 2 := ⟨ml_X6_15, im_X2_mayBeEaten, sel_X2_X2_mayBeEaten_X2_mayBeEaten, ini_X2, cod_X2_mayBeEaten, ⟨by decide +kernel, by decide +kernel, by decide +kernel⟩⟩
theorem ml_X2_73 : Cond.methodLink RX2 73 yX2_isGone ∈ TBg := tb_of 468 (by decide +kernel) (by decide +kernel)
theorem kV_X2_73 : CVw RX2 73 yX2_isGone cX2_isGone 2 (some .boolean) 1 := ⟨ml_X2_73, im_X2_isGone, sel_X2_X2_isGone_X2_isGone, ini_X2, cod_X2_isGone, ⟨by decide +kernel, by decide +kernel, by decide +kernel⟩⟩
theorem ml_X2_76 : Cond.methodLink RX2 76 yX2_isWatched ∈ TBg := tb_of 469 (by decide +kernel) (by decide +kernel)
theorem kV_X2_76 : CVw RX2 76 yX2_isWatched cX2_isWatched 3 (some .boolean) 2 := ⟨ml_X2_76, im_X2_isWatched, sel_X2_X2_isWatched_X2_isWatched, ini_X2, cod_X2_isWatched, ⟨by decide +kernel, by decide +kernel, by decide +kernel⟩⟩
theorem ml_X2_80 : Cond.methodLink RX2 80 yX2_strength ∈ TBg := tb_of 470 (by decide +kernel) (by decide +kernel)
theorem kV_X2_80 : CVw RX2 80 yX2_strength cX2_strength 3 (some .int) 1 := ⟨ml_X2_80, im_X2_strength, sel_X2_X2_strength_X2_strength, ini_X2, cod_X2_strength, ⟨by decide +kernel, by decide +kernel, by decide +kernel⟩⟩
theorem ml_X6_19 : Cond.methodLink RX6 19 yX6_reaches ∈ TBg := tb_of 471 (by decide +kernel) (by decide +kernel)
theorem sm_X6_19 : Cond.sameMethod yX6_reaches.cls yX6_reaches.cls yX6_reaches.name yX6_reaches.desc ∈ TBg := tb_of 474 (by decide +kernel) (by decide +kernel)
theorem kU_X6_19_X0 : CUw RX6 19 RX0 yX6_reaches yX6_reaches cX6_reaches 3 (some .boolean) 2 := ⟨ml_X6_19, sm_X6_19, sel_X0_X6_reaches_X6_reaches, im_X6_reaches, ini_X6, cod_X6_reaches, im_X6_reaches, ⟨_, _, _, cod_X6_reaches⟩, ⟨by decide +kernel, by decide +kernel, by decide +kernel⟩⟩
theorem kU_X6_19_X1 : CUw RX6 19 RX1 yX6_reaches yX1_reaches cX1_reaches 3 (some .boolean) 2 := ⟨ml_X6_19, sm_X6_19, sel_X1_X6_reaches_X1_reaches, im_X1_reaches, ini_X1, cod_X1_reaches, im_X6_reaches, ⟨_, _, _, cod_X6_reaches⟩, ⟨by decide +kernel, by decide +kernel, by decide +kernel⟩⟩
theorem kU_X6_19_X3 : CUw RX6 19 RX3 yX6_reaches yX6_reaches cX6_reaches 3 (some .boolean) 2 := ⟨ml_X6_19, sm_X6_19, sel_X3_X6_reaches_X6_reaches, im_X6_reaches, ini_X6, cod_X6_reaches, im_X6_reaches, ⟨_, _, _, cod_X6_reaches⟩, ⟨by decide +kernel, by decide +kernel, by decide +kernel⟩⟩
theorem kU_X6_19_X5 : CUw RX6 19 RX5 yX6_reaches yX6_reaches cX6_reaches 3 (some .boolean) 2 := ⟨ml_X6_19, sm_X6_19, sel_X5_X6_reaches_X6_reaches, im_X6_reaches, ini_X6, cod_X6_reaches, im_X6_reaches, ⟨_, _, _, cod_X6_reaches⟩, ⟨by decide +kernel, by decide +kernel, by decide +kernel⟩⟩
theorem kU_X6_19_X6 : CUw RX6 19 RX6 yX6_reaches yX6_reaches cX6_reaches 3 (some .boolean) 2 := ⟨ml_X6_19, sm_X6_19, sel_X6_X6_reaches_X6_reaches, im_X6_reaches, ini_X6, cod_X6_reaches, im_X6_reaches, ⟨_, _, _, cod_X6_reaches⟩, ⟨by decide +kernel, by decide +kernel, by decide +kernel⟩⟩
theorem kU_X6_19_X7 : CUw RX6 19 RX7 yX6_reaches yX6_reaches cX6_reaches 3 (some .boolean) 2 := ⟨ml_X6_19, sm_X6_19, sel_X7_X6_reaches_X6_reaches, im_X6_reaches, ini_X6, cod_X6_reaches, im_X6_reaches, ⟨_, _, _, cod_X6_reaches⟩, ⟨by decide +kernel, by decide +kernel, by decide +kernel⟩⟩
theorem ml_X1_7 : Cond.methodLink RX1 7 yX2_isGone ∈ TBg := tb_of 479 (by decide +kernel) (by decide +kernel)
theorem kV_X1_7 : CVw RX1 7 yX2_isGone cX2_isGone 2 (some .boolean) 1 := ⟨ml_X1_7, im_X2_isGone, sel_X2_X2_isGone_X2_isGone, ini_X2, cod_X2_isGone, ⟨by decide +kernel, by decide +kernel, by decide +kernel⟩⟩
theorem ml_X6_25 : Cond.methodLink RX6 25 yX6_prefers ∈ TBg := tb_of 484 (by decide +kernel) (by decide +kernel)
theorem sm_X6_25 : Cond.sameMethod yX6_prefers.cls yX6_prefers.cls yX6_prefers.name yX6_prefers.desc ∈ TBg := tb_of 487 (by decide +kernel) (by decide +kernel)
theorem kU_X6_25_X0 : CUw RX6 25 RX0 yX6_prefers yX0_prefers cX0_prefers 4 (some .boolean) 3 := ⟨ml_X6_25, sm_X6_25, sel_X0_X6_prefers_X0_prefers, im_X0_prefers, ini_X0, cod_X0_prefers, im_X6_prefers, ⟨_, _, _, cod_X6_prefers⟩, ⟨by decide +kernel, by decide +kernel, by decide +kernel⟩⟩
theorem kU_X6_25_X1 : CUw RX6 25 RX1 yX6_prefers yX0_prefers cX0_prefers 4 (some .boolean) 3 := ⟨ml_X6_25, sm_X6_25, sel_X1_X6_prefers_X0_prefers, im_X0_prefers, ini_X0, cod_X0_prefers, im_X6_prefers, ⟨_, _, _, cod_X6_prefers⟩, ⟨by decide +kernel, by decide +kernel, by decide +kernel⟩⟩
theorem kU_X6_25_X3 : CUw RX6 25 RX3 yX6_prefers yX6_prefers cX6_prefers 4 (some .boolean) 3 := ⟨ml_X6_25, sm_X6_25, sel_X3_X6_prefers_X6_prefers, im_X6_prefers, ini_X6, cod_X6_prefers, im_X6_prefers, ⟨_, _, _, cod_X6_prefers⟩, ⟨by decide +kernel, by decide +kernel, by decide +kernel⟩⟩
theorem kU_X6_25_X5 : CUw RX6 25 RX5 yX6_prefers yX5_prefers cX5_prefers 4 (some .boolean) 3 := ⟨ml_X6_25, sm_X6_25, sel_X5_X6_prefers_X5_prefers, im_X5_prefers, ini_X5, cod_X5_prefers, im_X6_prefers, ⟨_, _, _, cod_X6_prefers⟩, ⟨by decide +kernel, by decide +kernel, by decide +kernel⟩⟩
theorem kU_X6_25_X6 : CUw RX6 25 RX6 yX6_prefers yX6_prefers cX6_prefers 4 (some .boolean) 3 := ⟨ml_X6_25, sm_X6_25, sel_X6_X6_prefers_X6_prefers, im_X6_prefers, ini_X6, cod_X6_prefers, im_X6_prefers, ⟨_, _, _, cod_X6_prefers⟩, ⟨by decide +kernel, by decide +kernel, by decide +kernel⟩⟩
theorem kU_X6_25_X7 : CUw RX6 25 RX7 yX6_prefers yX7_prefers cX7_prefers 4 (some .boolean) 3 := ⟨ml_X6_25, sm_X6_25, sel_X7_X6_prefers_X7_prefers, im_X7_prefers, ini_X7, cod_X7_prefers, im_X6_prefers, ⟨_, _, _, cod_X6_prefers⟩, ⟨by decide +kernel, by decide +kernel, by decide +kernel⟩⟩
theorem ml_X0_7 : Cond.methodLink RX0 7 yX2_strength ∈ TBg := tb_of 491 (by decide +kernel) (by decide +kernel)
theorem kV_X0_7 : CVw RX0 7 yX2_strength cX2_strength 3 (some .int) 1 := ⟨ml_X0_7, im_X2_strength, sel_X2_X2_strength_X2_strength, ini_X2, cod_X2_strength, ⟨by decide +kernel, by decide +kernel, by decide +kernel⟩⟩
theorem ml_X6_29 : Cond.methodLink RX6 29 yX2_strength ∈ TBg := tb_of 501 (by decide +kernel) (by decide +kernel)
theorem kV_X6_29 : CVw RX6 29 yX2_strength cX2_strength 3 (some .int) 1 := ⟨ml_X6_29, im_X2_strength, sel_X2_X2_strength_X2_strength, ini_X2, cod_X2_strength, ⟨by decide +kernel, by decide +kernel, by decide +kernel⟩⟩
theorem ml_L_32 : Cond.methodLink RL 32 yX8_bitter ∈ TBg := tb_of 502 (by decide +kernel) (by decide +kernel)
theorem kV_L_32 : CVw RL 32 yX8_bitter cX8_bitter 4 (some .int) 2 := ⟨ml_L_32, im_X8_bitter, sel_X8_X8_bitter_X8_bitter, ini_X8, cod_X8_bitter, ⟨by decide +kernel, by decide +kernel, by decide +kernel⟩⟩
theorem ml_X8_135 : Cond.methodLink RX8 135 yX8_isInk ∈ TBg := tb_of 506 (by decide +kernel) (by decide +kernel)
theorem kS_X8_135 : CSw RX8 135 yX8_isInk cX8_isInk 1 (some .boolean) 1 := ⟨ml_X8_135, sta_X8_isInk, ini_X8, cod_X8_isInk, ⟨by decide +kernel, by decide +kernel, by decide +kernel⟩⟩
theorem ml_X8_141 : Cond.methodLink RX8 141 yX2_setBitter ∈ TBg := tb_of 507 (by decide +kernel) (by decide +kernel)
theorem kV_X8_141 : CVw RX8 141 yX2_setBitter cX2_setBitter 3 none 2 := ⟨ml_X8_141, im_X2_setBitter, sel_X2_X2_setBitter_X2_setBitter, ini_X2, cod_X2_setBitter, ⟨by decide +kernel, by decide +kernel, by decide +kernel⟩⟩
theorem ml_L_36 : Cond.methodLink RL 36 yX8_ink ∈ TBg := tb_of 508 (by decide +kernel) (by decide +kernel)
theorem kV_L_36 : CVw RL 36 yX8_ink cX8_ink 4 (some .int) 2 := ⟨ml_L_36, im_X8_ink, sel_X8_X8_ink_X8_ink, ini_X8, cod_X8_ink, ⟨by decide +kernel, by decide +kernel, by decide +kernel⟩⟩
theorem ml_L_40 : Cond.methodLink RL 40 yX8_watch ∈ TBg := tb_of 512 (by decide +kernel) (by decide +kernel)
theorem kV_L_40 : CVw RL 40 yX8_watch cX8_watch 5 (some .int) 3 := ⟨ml_L_40, im_X8_watch, sel_X8_X8_watch_X8_watch, ini_X8, cod_X8_watch, ⟨by decide +kernel, by decide +kernel, by decide +kernel⟩⟩
theorem ml_X8_145 : Cond.methodLink RX8 145 yX2_setWatched ∈ TBg := tb_of 516 (by decide +kernel) (by decide +kernel)
theorem kV_X8_145 : CVw RX8 145 yX2_setWatched cX2_setWatched 5 none 3 := ⟨ml_X8_145, im_X2_setWatched, sel_X2_X2_setWatched_X2_setWatched, ini_X2, cod_X2_setWatched, ⟨by decide +kernel, by decide +kernel, by decide +kernel⟩⟩
theorem ml_L_45 : Cond.methodLink RL 45 yX8_hour ∈ TBg := tb_of 517 (by decide +kernel) (by decide +kernel)
theorem kV_L_45 : CVw RL 45 yX8_hour cX8_hour 1 (some .int) 0 := ⟨ml_L_45, im_X8_hour, sel_X8_X8_hour_X8_hour, ini_X8, cod_X8_hour, ⟨by decide +kernel, by decide +kernel, by decide +kernel⟩⟩
theorem ml_X8_149 : Cond.methodLink RX8 149 yX2_passHour ∈ TBg := tb_of 521 (by decide +kernel) (by decide +kernel)
theorem kV_X8_149 : CVw RX8 149 yX2_passHour cX2_passHour 7 (some .int) 0 := ⟨ml_X8_149, im_X2_passHour, sel_X2_X2_passHour_X2_passHour, ini_X2, cod_X2_passHour, ⟨by decide +kernel, by decide +kernel, by decide +kernel⟩⟩
theorem ml_X2_84 : Cond.methodLink RX2 84 yX2_countLeft ∈ TBg := tb_of 525 (by decide +kernel) (by decide +kernel)
theorem kV_X2_84 : CVw RX2 84 yX2_countLeft cX2_countLeft 1 (some .int) 0 := ⟨ml_X2_84, im_X2_countLeft, sel_X2_X2_countLeft_X2_countLeft, ini_X2, cod_X2_countLeft, ⟨by decide +kernel, by decide +kernel, by decide +kernel⟩⟩
theorem ml_X2_103 : Cond.methodLink RX2 103 yX2_leftWords ∈ TBg := tb_of 529 (by decide +kernel) (by decide +kernel)
theorem kV_X2_103 : CVw RX2 103 yX2_leftWords cX2_leftWords 1 (some .int) 0 := ⟨ml_X2_103, im_X2_leftWords, sel_X2_X2_leftWords_X2_leftWords, ini_X2, cod_X2_leftWords, ⟨by decide +kernel, by decide +kernel, by decide +kernel⟩⟩
theorem ml_X2_62 : Cond.methodLink RX2 62 yX2_allWords ∈ TBg := tb_of 533 (by decide +kernel) (by decide +kernel)
theorem kV_X2_62 : CVw RX2 62 yX2_allWords cX2_allWords 1 (some .int) 0 := ⟨ml_X2_62, im_X2_allWords, sel_X2_X2_allWords_X2_allWords, ini_X2, cod_X2_allWords, ⟨by decide +kernel, by decide +kernel, by decide +kernel⟩⟩
theorem ml_X2_106 : Cond.methodLink RX2 106 yJ6_bitCount_0f7a4 ∈ TBg := tb_of 537 (by decide +kernel) (by decide +kernel)
theorem kS_X2_106 : CSw RX2 106 yJ6_bitCount_0f7a4 cJ6_bitCount_0f7a4 1 (some .int) 1 := ⟨ml_X2_106, sta_J6_bitCount_0f7a4, ini_J6, cod_J6_bitCount_0f7a4, ⟨by decide +kernel, by decide +kernel, by decide +kernel⟩⟩
theorem ml_X2_87 : Cond.methodLink RX2 87 yX2_kindOf ∈ TBg := tb_of 543 (by decide +kernel) (by decide +kernel)
theorem kV_X2_87 : CVw RX2 87 yX2_kindOf cX2_kindOf 2 (some (.object "EatenByDusk$Sparrow")) 1 := ⟨ml_X2_87, im_X2_kindOf, sel_X2_X2_kindOf_X2_kindOf, ini_X2, cod_X2_kindOf, ⟨by decide +kernel, by decide +kernel, by decide +kernel⟩⟩
theorem ml_X2_91 : Cond.methodLink RX2 91 yX6_meals ∈ TBg := tb_of 544 (by decide +kernel) (by decide +kernel)
theorem sm_X2_91 : Cond.sameMethod yX6_meals.cls yX6_meals.cls yX6_meals.name yX6_meals.desc ∈ TBg := tb_of 547 (by decide +kernel) (by decide +kernel)
theorem kU_X2_91_X0 : CUw RX2 91 RX0 yX6_meals yX6_meals cX6_meals 1 (some .int) 0 := ⟨ml_X2_91, sm_X2_91, sel_X0_X6_meals_X6_meals, im_X6_meals, ini_X6, cod_X6_meals, im_X6_meals, ⟨_, _, _, cod_X6_meals⟩, ⟨by decide +kernel, by decide +kernel, by decide +kernel⟩⟩
theorem kU_X2_91_X1 : CUw RX2 91 RX1 yX6_meals yX6_meals cX6_meals 1 (some .int) 0 := ⟨ml_X2_91, sm_X2_91, sel_X1_X6_meals_X6_meals, im_X6_meals, ini_X6, cod_X6_meals, im_X6_meals, ⟨_, _, _, cod_X6_meals⟩, ⟨by decide +kernel, by decide +kernel, by decide +kernel⟩⟩
theorem kU_X2_91_X3 : CUw RX2 91 RX3 yX6_meals yX3_meals cX3_meals 1 (some .int) 0 := ⟨ml_X2_91, sm_X2_91, sel_X3_X6_meals_X3_meals, im_X3_meals, ini_X3, cod_X3_meals, im_X6_meals, ⟨_, _, _, cod_X6_meals⟩, ⟨by decide +kernel, by decide +kernel, by decide +kernel⟩⟩
theorem kU_X2_91_X5 : CUw RX2 91 RX5 yX6_meals yX6_meals cX6_meals 1 (some .int) 0 := ⟨ml_X2_91, sm_X2_91, sel_X5_X6_meals_X6_meals, im_X6_meals, ini_X6, cod_X6_meals, im_X6_meals, ⟨_, _, _, cod_X6_meals⟩, ⟨by decide +kernel, by decide +kernel, by decide +kernel⟩⟩
theorem kU_X2_91_X6 : CUw RX2 91 RX6 yX6_meals yX6_meals cX6_meals 1 (some .int) 0 := ⟨ml_X2_91, sm_X2_91, sel_X6_X6_meals_X6_meals, im_X6_meals, ini_X6, cod_X6_meals, im_X6_meals, ⟨_, _, _, cod_X6_meals⟩, ⟨by decide +kernel, by decide +kernel, by decide +kernel⟩⟩
theorem kU_X2_91_X7 : CUw RX2 91 RX7 yX6_meals yX6_meals cX6_meals 1 (some .int) 0 := ⟨ml_X2_91, sm_X2_91, sel_X7_X6_meals_X6_meals, im_X6_meals, ini_X6, cod_X6_meals, im_X6_meals, ⟨_, _, _, cod_X6_meals⟩, ⟨by decide +kernel, by decide +kernel, by decide +kernel⟩⟩
theorem ml_X2_96 : Cond.methodLink RX2 96 yX6_choice ∈ TBg := tb_of 556 (by decide +kernel) (by decide +kernel)
theorem sm_X2_96 : Cond.sameMethod yX6_choice.cls yX6_choice.cls yX6_choice.name yX6_choice.desc ∈ TBg := tb_of 457 (by decide +kernel) (by decide +kernel)
theorem kU_X2_96_X0 : CUw RX2 96 RX0 yX6_choice yX6_choice cX6_choice 5 (some .int) 2 := ⟨ml_X2_96, sm_X2_96, sel_X0_X6_choice_X6_choice, im_X6_choice, ini_X6, cod_X6_choice, im_X6_choice, ⟨_, _, _, cod_X6_choice⟩, ⟨by decide +kernel, by decide +kernel, by decide +kernel⟩⟩
theorem kU_X2_96_X1 : CUw RX2 96 RX1 yX6_choice yX6_choice cX6_choice 5 (some .int) 2 := ⟨ml_X2_96, sm_X2_96, sel_X1_X6_choice_X6_choice, im_X6_choice, ini_X6, cod_X6_choice, im_X6_choice, ⟨_, _, _, cod_X6_choice⟩, ⟨by decide +kernel, by decide +kernel, by decide +kernel⟩⟩
theorem kU_X2_96_X3 : CUw RX2 96 RX3 yX6_choice yX6_choice cX6_choice 5 (some .int) 2 := ⟨ml_X2_96, sm_X2_96, sel_X3_X6_choice_X6_choice, im_X6_choice, ini_X6, cod_X6_choice, im_X6_choice, ⟨_, _, _, cod_X6_choice⟩, ⟨by decide +kernel, by decide +kernel, by decide +kernel⟩⟩
theorem kU_X2_96_X5 : CUw RX2 96 RX5 yX6_choice yX6_choice cX6_choice 5 (some .int) 2 := ⟨ml_X2_96, sm_X2_96, sel_X5_X6_choice_X6_choice, im_X6_choice, ini_X6, cod_X6_choice, im_X6_choice, ⟨_, _, _, cod_X6_choice⟩, ⟨by decide +kernel, by decide +kernel, by decide +kernel⟩⟩
theorem kU_X2_96_X6 : CUw RX2 96 RX6 yX6_choice yX6_choice cX6_choice 5 (some .int) 2 := ⟨ml_X2_96, sm_X2_96, sel_X6_X6_choice_X6_choice, im_X6_choice, ini_X6, cod_X6_choice, im_X6_choice, ⟨_, _, _, cod_X6_choice⟩, ⟨by decide +kernel, by decide +kernel, by decide +kernel⟩⟩
theorem kU_X2_96_X7 : CUw RX2 96 RX7 yX6_choice yX6_choice cX6_choice 5 (some .int) 2 := ⟨ml_X2_96, sm_X2_96, sel_X7_X6_choice_X6_choice, im_X6_choice, ini_X6, cod_X6_choice, im_X6_choice, ⟨_, _, _, cod_X6_choice⟩, ⟨by decide +kernel, by decide +kernel, by decide +kernel⟩⟩
theorem ml_L_49 : Cond.methodLink RL 49 yX8_anew ∈ TBg := tb_of 557 (by decide +kernel) (by decide +kernel)
theorem kV_L_49 : CVw RL 49 yX8_anew cX8_anew 1 (some .int) 0 := ⟨ml_L_49, im_X8_anew, sel_X8_X8_anew_X8_anew, ini_X8, cod_X8_anew, ⟨by decide +kernel, by decide +kernel, by decide +kernel⟩⟩
theorem ml_L_53 : Cond.methodLink RL 53 yX8_left ∈ TBg := tb_of 561 (by decide +kernel) (by decide +kernel)
theorem kV_L_53 : CVw RL 53 yX8_left cX8_left 4 (some .int) 1 := ⟨ml_L_53, im_X8_left, sel_X8_X8_left_X8_left, ini_X8, cod_X8_left, ⟨by decide +kernel, by decide +kernel, by decide +kernel⟩⟩
theorem ml_X8_156 : Cond.methodLink RX8 156 yX8_mindAsNow ∈ TBg := tb_of 565 (by decide +kernel) (by decide +kernel)
theorem kV_X8_156 : CVw RX8 156 yX8_mindAsNow cX8_mindAsNow 1 (some (.object "EatenByDusk$Garden")) 0 := ⟨ml_X8_156, im_X8_mindAsNow, sel_X8_X8_mindAsNow_X8_mindAsNow, ini_X8, cod_X8_mindAsNow, ⟨by decide +kernel, by decide +kernel, by decide +kernel⟩⟩
theorem ml_X8_228 : Cond.methodLink RX8 228 yX2_becomeAs ∈ TBg := tb_of 569 (by decide +kernel) (by decide +kernel)
theorem kV_X8_228 : CVw RX8 228 yX2_becomeAs cX2_becomeAs 2 none 1 := ⟨ml_X8_228, im_X2_becomeAs, sel_X2_X2_becomeAs_X2_becomeAs, ini_X2, cod_X2_becomeAs, ⟨by decide +kernel, by decide +kernel, by decide +kernel⟩⟩
theorem ml_X8_160 : Cond.methodLink RX8 160 yX2_leftWords ∈ TBg := tb_of 576 (by decide +kernel) (by decide +kernel)
theorem kV_X8_160 : CVw RX8 160 yX2_leftWords cX2_leftWords 1 (some .int) 0 := ⟨ml_X8_160, im_X2_leftWords, sel_X2_X2_leftWords_X2_leftWords, ini_X2, cod_X2_leftWords, ⟨by decide +kernel, by decide +kernel, by decide +kernel⟩⟩
theorem ml_L_57 : Cond.methodLink RL 57 yX8_eaten ∈ TBg := tb_of 577 (by decide +kernel) (by decide +kernel)
theorem kV_L_57 : CVw RL 57 yX8_eaten cX8_eaten 3 (some .int) 1 := ⟨ml_L_57, im_X8_eaten, sel_X8_X8_eaten_X8_eaten, ini_X8, cod_X8_eaten, ⟨by decide +kernel, by decide +kernel, by decide +kernel⟩⟩
theorem ml_X8_163 : Cond.methodLink RX8 163 yX2_hourOfGoing ∈ TBg := tb_of 581 (by decide +kernel) (by decide +kernel)
theorem kV_X8_163 : CVw RX8 163 yX2_hourOfGoing cX2_hourOfGoing 3 (some .int) 1 := ⟨ml_X8_163, im_X2_hourOfGoing, sel_X2_X2_hourOfGoing_X2_hourOfGoing, ini_X2, cod_X2_hourOfGoing, ⟨by decide +kernel, by decide +kernel, by decide +kernel⟩⟩
theorem ml_X2_100 : Cond.methodLink RX2 100 yX2_passHour ∈ TBg := tb_of 585 (by decide +kernel) (by decide +kernel)
theorem kV_X2_100 : CVw RX2 100 yX2_passHour cX2_passHour 7 (some .int) 0 := ⟨ml_X2_100, im_X2_passHour, sel_X2_X2_passHour_X2_passHour, ini_X2, cod_X2_passHour, ⟨by decide +kernel, by decide +kernel, by decide +kernel⟩⟩
theorem ml_L_61 : Cond.methodLink RL 61 yX8_meanings ∈ TBg := tb_of 586 (by decide +kernel) (by decide +kernel)
theorem kV_L_61 : CVw RL 61 yX8_meanings cX8_meanings 2 (some .int) 0 := ⟨ml_L_61, im_X8_meanings, sel_X8_X8_meanings_X8_meanings, ini_X8, cod_X8_meanings, ⟨by decide +kernel, by decide +kernel, by decide +kernel⟩⟩
theorem ml_X8_166 : Cond.methodLink RX8 166 yX2_passTillDusk ∈ TBg := tb_of 590 (by decide +kernel) (by decide +kernel)
theorem kV_X8_166 : CVw RX8 166 yX2_passTillDusk cX2_passTillDusk 2 (some .int) 0 := ⟨ml_X8_166, im_X2_passTillDusk, sel_X2_X2_passTillDusk_X2_passTillDusk, ini_X2, cod_X2_passTillDusk, ⟨by decide +kernel, by decide +kernel, by decide +kernel⟩⟩
theorem ml_X8_169 : Cond.methodLink RX8 169 yX2_leftMeanings ∈ TBg := tb_of 594 (by decide +kernel) (by decide +kernel)
theorem kV_X8_169 : CVw RX8 169 yX2_leftMeanings cX2_leftMeanings 3 (some .int) 0 := ⟨ml_X8_169, im_X2_leftMeanings, sel_X2_X2_leftMeanings_X2_leftMeanings, ini_X2, cod_X2_leftMeanings, ⟨by decide +kernel, by decide +kernel, by decide +kernel⟩⟩
theorem ml_L_65 : Cond.methodLink RL 65 yX8_remain ∈ TBg := tb_of 598 (by decide +kernel) (by decide +kernel)
theorem kV_L_65 : CVw RL 65 yX8_remain cX8_remain 1 (some .int) 0 := ⟨ml_L_65, im_X8_remain, sel_X8_X8_remain_X8_remain, ini_X8, cod_X8_remain, ⟨by decide +kernel, by decide +kernel, by decide +kernel⟩⟩
theorem ml_L_69 : Cond.methodLink RL 69 yX8_holds ∈ TBg := tb_of 602 (by decide +kernel) (by decide +kernel)
theorem kV_L_69 : CVw RL 69 yX8_holds cX8_holds 4 (some .int) 1 := ⟨ml_L_69, im_X8_holds, sel_X8_X8_holds_X8_holds, ini_X8, cod_X8_holds, ⟨by decide +kernel, by decide +kernel, by decide +kernel⟩⟩
theorem ml_X8_172 : Cond.methodLink RX8 172 yX2_countLeftOf ∈ TBg := tb_of 606 (by decide +kernel) (by decide +kernel)
theorem kV_X8_172 : CVw RX8 172 yX2_countLeftOf cX2_countLeftOf 4 (some .int) 1 := ⟨ml_X8_172, im_X2_countLeftOf, sel_X2_X2_countLeftOf_X2_countLeftOf, ini_X2, cod_X2_countLeftOf, ⟨by decide +kernel, by decide +kernel, by decide +kernel⟩⟩
theorem ml_X8_175 : Cond.methodLink RX8 175 yJ9_min_7cf53 ∈ TBg := tb_of 610 (by decide +kernel) (by decide +kernel)
theorem kS_X8_175 : CSw RX8 175 yJ9_min_7cf53 cJ9_min_7cf53 2 (some .int) 2 := ⟨ml_X8_175, sta_J9_min_7cf53, ini_J9, cod_J9_min_7cf53, ⟨by decide +kernel, by decide +kernel, by decide +kernel⟩⟩
theorem ml_L_73 : Cond.methodLink RL 73 yX8_boys ∈ TBg := tb_of 611 (by decide +kernel) (by decide +kernel)
theorem kV_L_73 : CVw RL 73 yX8_boys cX8_boys 6 (some .int) 1 := ⟨ml_L_73, im_X8_boys, sel_X8_X8_boys_X8_boys, ini_X8, cod_X8_boys, ⟨by decide +kernel, by decide +kernel, by decide +kernel⟩⟩
theorem ml_X8_180 : Cond.methodLink RX8 180 yX2_hasWords ∈ TBg := tb_of 615 (by decide +kernel) (by decide +kernel)
theorem kV_X8_180 : CVw RX8 180 yX2_hasWords cX2_hasWords 2 (some .boolean) 1 := ⟨ml_X8_180, im_X2_hasWords, sel_X2_X2_hasWords_X2_hasWords, ini_X2, cod_X2_hasWords, ⟨by decide +kernel, by decide +kernel, by decide +kernel⟩⟩
theorem ml_X8_183 : Cond.methodLink RX8 183 yJ6_bitCount_0f7a4 ∈ TBg := tb_of 619 (by decide +kernel) (by decide +kernel)
theorem kS_X8_183 : CSw RX8 183 yJ6_bitCount_0f7a4 cJ6_bitCount_0f7a4 1 (some .int) 1 := ⟨ml_X8_183, sta_J6_bitCount_0f7a4, ini_J6, cod_J6_bitCount_0f7a4, ⟨by decide +kernel, by decide +kernel, by decide +kernel⟩⟩
theorem ml_X8_188 : Cond.methodLink RX8 188 yX2_allWords ∈ TBg := tb_of 620 (by decide +kernel) (by decide +kernel)
theorem kV_X8_188 : CVw RX8 188 yX2_allWords cX2_allWords 1 (some .int) 0 := ⟨ml_X8_188, im_X2_allWords, sel_X2_X2_allWords_X2_allWords, ini_X2, cod_X2_allWords, ⟨by decide +kernel, by decide +kernel, by decide +kernel⟩⟩
theorem ml_X8_191 : Cond.methodLink RX8 191 yX8_isKeptByWatching ∈ TBg := tb_of 621 (by decide +kernel) (by decide +kernel)
theorem kV_X8_191 : CVw RX8 191 yX8_isKeptByWatching cX8_isKeptByWatching 5 (some .boolean) 2 := ⟨ml_X8_191, im_X8_isKeptByWatching, sel_X8_X8_isKeptByWatching_X8_isKeptByWatching, ini_X8, cod_X8_isKeptByWatching, ⟨by decide +kernel, by decide +kernel, by decide +kernel⟩⟩
theorem ml_L_77 : Cond.methodLink RL 77 yX8_guard ∈ TBg := tb_of 625 (by decide +kernel) (by decide +kernel)
theorem kV_L_77 : CVw RL 77 yX8_guard cX8_guard 6 (some .int) 0 := ⟨ml_L_77, im_X8_guard, sel_X8_X8_guard_X8_guard, ini_X8, cod_X8_guard, ⟨by decide +kernel, by decide +kernel, by decide +kernel⟩⟩
theorem ml_L_81 : Cond.methodLink RL 81 yX8_winter ∈ TBg := tb_of 629 (by decide +kernel) (by decide +kernel)
theorem kV_L_81 : CVw RL 81 yX8_winter cX8_winter 4 (some .int) 1 := ⟨ml_L_81, im_X8_winter, sel_X8_X8_winter_X8_winter, ini_X8, cod_X8_winter, ⟨by decide +kernel, by decide +kernel, by decide +kernel⟩⟩
theorem ml_X8_198 : Cond.methodLink RX8 198 yX2_keepAway ∈ TBg := tb_of 634 (by decide +kernel) (by decide +kernel)
theorem kV_X8_198 : CVw RX8 198 yX2_keepAway cX2_keepAway 2 none 1 := ⟨ml_X8_198, im_X2_keepAway, sel_X2_X2_keepAway_X2_keepAway, ini_X2, cod_X2_keepAway, ⟨by decide +kernel, by decide +kernel, by decide +kernel⟩⟩
theorem ml_L_85 : Cond.methodLink RL 85 yX8_becomes ∈ TBg := tb_of 638 (by decide +kernel) (by decide +kernel)
theorem kV_L_85 : CVw RL 85 yX8_becomes cX8_becomes 4 (some .int) 0 := ⟨ml_L_85, im_X8_becomes, sel_X8_X8_becomes_X8_becomes, ini_X8, cod_X8_becomes, ⟨by decide +kernel, by decide +kernel, by decide +kernel⟩⟩
theorem ml_X8_205 : Cond.methodLink RX8 205 yX2_placeOtherThan ∈ TBg := tb_of 642 (by decide +kernel) (by decide +kernel)
theorem kV_X8_205 : CVw RX8 205 yX2_placeOtherThan cX2_placeOtherThan 5 (some .int) 2 := ⟨ml_X8_205, im_X2_placeOtherThan, sel_X2_X2_placeOtherThan_X2_placeOtherThan, ini_X2, cod_X2_placeOtherThan, ⟨by decide +kernel, by decide +kernel, by decide +kernel⟩⟩
theorem ml_L_89 : Cond.methodLink RL 89 yX8_danger ∈ TBg := tb_of 646 (by decide +kernel) (by decide +kernel)
theorem kV_L_89 : CVw RL 89 yX8_danger cX8_danger 3 (some .int) 0 := ⟨ml_L_89, im_X8_danger, sel_X8_X8_danger_X8_danger, ini_X8, cod_X8_danger, ⟨by decide +kernel, by decide +kernel, by decide +kernel⟩⟩
theorem ml_L_93 : Cond.methodLink RL 93 yX8_lasts ∈ TBg := tb_of 650 (by decide +kernel) (by decide +kernel)
theorem kV_L_93 : CVw RL 93 yX8_lasts cX8_lasts 7 (some .int) 1 := ⟨ml_L_93, im_X8_lasts, sel_X8_X8_lasts_X8_lasts, ini_X8, cod_X8_lasts, ⟨by decide +kernel, by decide +kernel, by decide +kernel⟩⟩
theorem ml_L_97 : Cond.methodLink RL 97 yX8_mixed ∈ TBg := tb_of 654 (by decide +kernel) (by decide +kernel)
theorem kV_L_97 : CVw RL 97 yX8_mixed cX8_mixed 7 (some .int) 2 := ⟨ml_L_97, im_X8_mixed, sel_X8_X8_mixed_X8_mixed, ini_X8, cod_X8_mixed, ⟨by decide +kernel, by decide +kernel, by decide +kernel⟩⟩
theorem ml_X8_209 : Cond.methodLink RX8 209 yX2_countLeft ∈ TBg := tb_of 658 (by decide +kernel) (by decide +kernel)
theorem kV_X8_209 : CVw RX8 209 yX2_countLeft cX2_countLeft 1 (some .int) 0 := ⟨ml_X8_209, im_X2_countLeft, sel_X2_X2_countLeft_X2_countLeft, ini_X2, cod_X2_countLeft, ⟨by decide +kernel, by decide +kernel, by decide +kernel⟩⟩
theorem ml_X8_212 : Cond.methodLink RX8 212 yX8_sumOfDigits ∈ TBg := tb_of 659 (by decide +kernel) (by decide +kernel)
theorem kS_X8_212 : CSw RX8 212 yX8_sumOfDigits cX8_sumOfDigits 1 (some .int) 1 := ⟨ml_X8_212, sta_X8_sumOfDigits, ini_X8, cod_X8_sumOfDigits, ⟨by decide +kernel, by decide +kernel, by decide +kernel⟩⟩
theorem ml_X8_215 : Cond.methodLink RX8 215 yX8_countLeftByBitters ∈ TBg := tb_of 662 (by decide +kernel) (by decide +kernel)
theorem kV_X8_215 : CVw RX8 215 yX8_countLeftByBitters cX8_countLeftByBitters 3 (some .int) 1 := ⟨ml_X8_215, im_X8_countLeftByBitters, sel_X8_X8_countLeftByBitters_X8_countLeftByBitters, ini_X8, cod_X8_countLeftByBitters, ⟨by decide +kernel, by decide +kernel, by decide +kernel⟩⟩
theorem ml_L_101 : Cond.methodLink RL 101 yX8_tastes ∈ TBg := tb_of 666 (by decide +kernel) (by decide +kernel)
theorem kV_L_101 : CVw RL 101 yX8_tastes cX8_tastes 6 (some .int) 2 := ⟨ml_L_101, im_X8_tastes, sel_X8_X8_tastes_X8_tastes, ini_X8, cod_X8_tastes, ⟨by decide +kernel, by decide +kernel, by decide +kernel⟩⟩
theorem ml_L_105 : Cond.methodLink RL 105 yX8_fitting ∈ TBg := tb_of 670 (by decide +kernel) (by decide +kernel)
theorem kV_L_105 : CVw RL 105 yX8_fitting cX8_fitting 6 (some .int) 2 := ⟨ml_L_105, im_X8_fitting, sel_X8_X8_fitting_X8_fitting, ini_X8, cod_X8_fitting, ⟨by decide +kernel, by decide +kernel, by decide +kernel⟩⟩
theorem ml_X8_220 : Cond.methodLink RX8 220 yJ0_length_8abf5 ∈ TBg := tb_of 675 (by decide +kernel) (by decide +kernel)
theorem kV_X8_220 : CVw RX8 220 yJ0_length_8abf5 cJ0_length_8abf5 1 (some .int) 0 := ⟨ml_X8_220, im_J0_length_8abf5, sel_J0_J0_length_8abf5_J0_length_8abf5, ini_J0, cod_J0_length_8abf5, ⟨by decide +kernel, by decide +kernel, by decide +kernel⟩⟩
theorem ml_L_117 : Cond.methodLink RL 117 yX8_seeds ∈ TBg := tb_of 676 (by decide +kernel) (by decide +kernel)
theorem kV_L_117 : CVw RL 117 yX8_seeds cX8_seeds 8 (some .int) 2 := ⟨ml_L_117, im_X8_seeds, sel_X8_X8_seeds_X8_seeds, ini_X8, cod_X8_seeds, ⟨by decide +kernel, by decide +kernel, by decide +kernel⟩⟩
theorem ml_L_109 : Cond.methodLink RL 109 yX8_row ∈ TBg := tb_of 683 (by decide +kernel) (by decide +kernel)
theorem kV_L_109 : CVw RL 109 yX8_row cX8_row 2 (some .int) 1 := ⟨ml_L_109, im_X8_row, sel_X8_X8_row_X8_row, ini_X8, cod_X8_row, ⟨by decide +kernel, by decide +kernel, by decide +kernel⟩⟩
theorem ml_L_113 : Cond.methodLink RL 113 yX8_judge ∈ TBg := tb_of 687 (by decide +kernel) (by decide +kernel)
theorem kV_L_113 : CVw RL 113 yX8_judge cX8_judge 2 (some .int) 0 := ⟨ml_L_113, im_X8_judge, sel_X8_X8_judge_X8_judge, ini_X8, cod_X8_judge, ⟨by decide +kernel, by decide +kernel, by decide +kernel⟩⟩
theorem ml_L_121 : Cond.methodLink RL 121 yX8_image ∈ TBg := tb_of 691 (by decide +kernel) (by decide +kernel)
theorem kV_L_121 : CVw RL 121 yX8_image cX8_image 1 (some .int) 0 := ⟨ml_L_121, im_X8_image, sel_X8_X8_image_X8_image, ini_X8, cod_X8_image, ⟨by decide +kernel, by decide +kernel, by decide +kernel⟩⟩
theorem ml_L_125 : Cond.methodLink RL 125 yX8_on ∈ TBg := tb_of 695 (by decide +kernel) (by decide +kernel)
theorem kV_L_125 : CVw RL 125 yX8_on cX8_on 1 (some .int) 0 := ⟨ml_L_125, im_X8_on, sel_X8_X8_on_X8_on, ini_X8, cod_X8_on, ⟨by decide +kernel, by decide +kernel, by decide +kernel⟩⟩
theorem ml_L_129 : Cond.methodLink RL 129 yX8_count ∈ TBg := tb_of 699 (by decide +kernel) (by decide +kernel)
theorem kV_L_129 : CVw RL 129 yX8_count cX8_count 2 (some .int) 1 := ⟨ml_L_129, im_X8_count, sel_X8_X8_count_X8_count, ini_X8, cod_X8_count, ⟨by decide +kernel, by decide +kernel, by decide +kernel⟩⟩
theorem ml_X8_236 : Cond.methodLink RX8 236 yX2_strengthLeft ∈ TBg := tb_of 703 (by decide +kernel) (by decide +kernel)
theorem kV_X8_236 : CVw RX8 236 yX2_strengthLeft cX2_strengthLeft 3 (some .int) 0 := ⟨ml_X8_236, im_X2_strengthLeft, sel_X2_X2_strengthLeft_X2_strengthLeft, ini_X2, cod_X2_strengthLeft, ⟨by decide +kernel, by decide +kernel, by decide +kernel⟩⟩
theorem ml_L_12 : Cond.methodLink RL 12 yX9_init ∈ TBg := tb_of 709 (by decide +kernel) (by decide +kernel)
theorem kI_L_12 : CIw RL 12 yX9_init cX9_init 1 0 := ⟨ml_L_12, im_X9_init, ini_X9, cod_X9_init, rfl, ⟨by decide +kernel, by decide +kernel, by decide +kernel⟩⟩
theorem ml_L_17 : Cond.methodLink RL 17 yX9_letter ∈ TBg := tb_of 795 (by decide +kernel) (by decide +kernel)
theorem kV_L_17 : CVw RL 17 yX9_letter cX9_letter 3 (some .int) 1 := ⟨ml_L_17, im_X9_letter, sel_X9_X9_letter_X9_letter, ini_X9, cod_X9_letter, ⟨by decide +kernel, by decide +kernel, by decide +kernel⟩⟩
theorem ml_X9_66 : Cond.methodLink RX9 66 yX9_bound ∈ TBg := tb_of 799 (by decide +kernel) (by decide +kernel)
theorem kS_X9_66 : CSw RX9 66 yX9_bound cX9_bound 3 (some .int) 3 := ⟨ml_X9_66, sta_X9_bound, ini_X9, cod_X9_bound, ⟨by decide +kernel, by decide +kernel, by decide +kernel⟩⟩
theorem ml_X9_73 : Cond.methodLink RX9 73 yX9_no ∈ TBg := tb_of 802 (by decide +kernel) (by decide +kernel)
theorem kV_X9_73 : CVw RX9 73 yX9_no cX9_no 2 (some .int) 1 := ⟨ml_X9_73, im_X9_no, sel_X9_X9_no_X9_no, ini_X9, cod_X9_no, ⟨by decide +kernel, by decide +kernel, by decide +kernel⟩⟩
theorem ml_L_22 : Cond.methodLink RL 22 yX9_text ∈ TBg := tb_of 806 (by decide +kernel) (by decide +kernel)
theorem kV_L_22 : CVw RL 22 yX9_text cX9_text 3 (some .int) 0 := ⟨ml_L_22, im_X9_text, sel_X9_X9_text_X9_text, ini_X9, cod_X9_text, ⟨by decide +kernel, by decide +kernel, by decide +kernel⟩⟩
theorem ml_X9_114 : Cond.methodLink RX9 114 yX9_statement ∈ TBg := tb_of 810 (by decide +kernel) (by decide +kernel)
theorem kV_X9_114 : CVw RX9 114 yX9_statement cX9_statement 4 (some .boolean) 0 := ⟨ml_X9_114, im_X9_statement, sel_X9_X9_statement_X9_statement, ini_X9, cod_X9_statement, ⟨by decide +kernel, by decide +kernel, by decide +kernel⟩⟩
theorem ml_X9_80 : Cond.methodLink RX9 80 yX9_next ∈ TBg := tb_of 814 (by decide +kernel) (by decide +kernel)
theorem kV_X9_80 : CVw RX9 80 yX9_next cX9_next 1 (some .int) 0 := ⟨ml_X9_80, im_X9_next, sel_X9_X9_next_X9_next, ini_X9, cod_X9_next, ⟨by decide +kernel, by decide +kernel, by decide +kernel⟩⟩
theorem ml_X9_94 : Cond.methodLink RX9 94 yX9_readsKind ∈ TBg := tb_of 818 (by decide +kernel) (by decide +kernel)
theorem kV_X9_94 : CVw RX9 94 yX9_readsKind cX9_readsKind 2 (some .boolean) 1 := ⟨ml_X9_94, im_X9_readsKind, sel_X9_X9_readsKind_X9_readsKind, ini_X9, cod_X9_readsKind, ⟨by decide +kernel, by decide +kernel, by decide +kernel⟩⟩
theorem ml_X9_84 : Cond.methodLink RX9 84 yX9_kindOf ∈ TBg := tb_of 822 (by decide +kernel) (by decide +kernel)
theorem kS_X9_84 : CSw RX9 84 yX9_kindOf cX9_kindOf 1 (some .int) 1 := ⟨ml_X9_84, sta_X9_kindOf, ini_X9, cod_X9_kindOf, ⟨by decide +kernel, by decide +kernel, by decide +kernel⟩⟩
theorem ml_X9_98 : Cond.methodLink RX9 98 yX9_readsOnes ∈ TBg := tb_of 825 (by decide +kernel) (by decide +kernel)
theorem kV_X9_98 : CVw RX9 98 yX9_readsOnes cX9_readsOnes 4 (some .boolean) 2 := ⟨ml_X9_98, im_X9_readsOnes, sel_X9_X9_readsOnes_X9_readsOnes, ini_X9, cod_X9_readsOnes, ⟨by decide +kernel, by decide +kernel, by decide +kernel⟩⟩
theorem ml_X9_87 : Cond.methodLink RX9 87 yX9_isIn ∈ TBg := tb_of 829 (by decide +kernel) (by decide +kernel)
theorem kS_X9_87 : CSw RX9 87 yX9_isIn cX9_isIn 3 (some .boolean) 3 := ⟨ml_X9_87, sta_X9_isIn, ini_X9, cod_X9_isIn, ⟨by decide +kernel, by decide +kernel, by decide +kernel⟩⟩
theorem ml_X9_118 : Cond.methodLink RX9 118 yX9_passesAll ∈ TBg := tb_of 832 (by decide +kernel) (by decide +kernel)
theorem kV_X9_118 : CVw RX9 118 yX9_passesAll cX9_passesAll 3 none 2 := ⟨ml_X9_118, im_X9_passesAll, sel_X9_X9_passesAll_X9_passesAll, ini_X9, cod_X9_passesAll, ⟨by decide +kernel, by decide +kernel, by decide +kernel⟩⟩
theorem ml_X9_132 : Cond.methodLink RX9 132 yX9_passes ∈ TBg := tb_of 836 (by decide +kernel) (by decide +kernel)
theorem kV_X9_132 : CVw RX9 132 yX9_passes cX9_passes 3 none 1 := ⟨ml_X9_132, im_X9_passes, sel_X9_X9_passes_X9_passes, ini_X9, cod_X9_passes, ⟨by decide +kernel, by decide +kernel, by decide +kernel⟩⟩
theorem ml_X9_136 : Cond.methodLink RX9 136 yX9_passOne ∈ TBg := tb_of 840 (by decide +kernel) (by decide +kernel)
theorem kV_X9_136 : CVw RX9 136 yX9_passOne cX9_passOne 3 (some .int) 1 := ⟨ml_X9_136, im_X9_passOne, sel_X9_X9_passOne_X9_passOne, ini_X9, cod_X9_passOne, ⟨by decide +kernel, by decide +kernel, by decide +kernel⟩⟩
theorem ml_X9_122 : Cond.methodLink RX9 122 yX9_comes ∈ TBg := tb_of 844 (by decide +kernel) (by decide +kernel)
theorem kV_X9_122 : CVw RX9 122 yX9_comes cX9_comes 3 (some .boolean) 1 := ⟨ml_X9_122, im_X9_comes, sel_X9_X9_comes_X9_comes, ini_X9, cod_X9_comes, ⟨by decide +kernel, by decide +kernel, by decide +kernel⟩⟩
theorem ml_X9_105 : Cond.methodLink RX9 105 yX9_comesWord ∈ TBg := tb_of 848 (by decide +kernel) (by decide +kernel)
theorem kV_X9_105 : CVw RX9 105 yX9_comesWord cX9_comesWord 2 (some .boolean) 1 := ⟨ml_X9_105, im_X9_comesWord, sel_X9_X9_comesWord_X9_comesWord, ini_X9, cod_X9_comesWord, ⟨by decide +kernel, by decide +kernel, by decide +kernel⟩⟩
theorem ml_X9_108 : Cond.methodLink RX9 108 yX9_comesBird ∈ TBg := tb_of 852 (by decide +kernel) (by decide +kernel)
theorem kV_X9_108 : CVw RX9 108 yX9_comesBird cX9_comesBird 2 (some .boolean) 1 := ⟨ml_X9_108, im_X9_comesBird, sel_X9_X9_comesBird_X9_comesBird, ini_X9, cod_X9_comesBird, ⟨by decide +kernel, by decide +kernel, by decide +kernel⟩⟩
theorem ml_X9_111 : Cond.methodLink RX9 111 yX9_comesWatch ∈ TBg := tb_of 856 (by decide +kernel) (by decide +kernel)
theorem kV_X9_111 : CVw RX9 111 yX9_comesWatch cX9_comesWatch 3 (some .boolean) 1 := ⟨ml_X9_111, im_X9_comesWatch, sel_X9_X9_comesWatch_X9_comesWatch, ini_X9, cod_X9_comesWatch, ⟨by decide +kernel, by decide +kernel, by decide +kernel⟩⟩
theorem ml_X9_102 : Cond.methodLink RX9 102 yX9_isWord ∈ TBg := tb_of 860 (by decide +kernel) (by decide +kernel)
theorem kV_X9_102 : CVw RX9 102 yX9_isWord cX9_isWord 2 (some .boolean) 1 := ⟨ml_X9_102, im_X9_isWord, sel_X9_X9_isWord_X9_isWord, ini_X9, cod_X9_isWord, ⟨by decide +kernel, by decide +kernel, by decide +kernel⟩⟩
theorem ml_L_124 : Cond.methodLink RL 124 yX9_image ∈ TBg := tb_of 864 (by decide +kernel) (by decide +kernel)
theorem kV_L_124 : CVw RL 124 yX9_image cX9_image 1 (some .int) 0 := ⟨ml_L_124, im_X9_image, sel_X9_X9_image_X9_image, ini_X9, cod_X9_image, ⟨by decide +kernel, by decide +kernel, by decide +kernel⟩⟩
theorem ml_L_128 : Cond.methodLink RL 128 yX9_on ∈ TBg := tb_of 868 (by decide +kernel) (by decide +kernel)
theorem kV_L_128 : CVw RL 128 yX9_on cX9_on 1 (some .int) 0 := ⟨ml_L_128, im_X9_on, sel_X9_X9_on_X9_on, ini_X9, cod_X9_on, ⟨by decide +kernel, by decide +kernel, by decide +kernel⟩⟩
theorem ml_L_27 : Cond.methodLink RL 27 yX9_word ∈ TBg := tb_of 872 (by decide +kernel) (by decide +kernel)
theorem kV_L_27 : CVw RL 27 yX9_word cX9_word 3 (some .int) 2 := ⟨ml_L_27, im_X9_word, sel_X9_X9_word_X9_word, ini_X9, cod_X9_word, ⟨by decide +kernel, by decide +kernel, by decide +kernel⟩⟩
theorem ml_X9_151 : Cond.methodLink RX9 151 yX9_strengthOf ∈ TBg := tb_of 876 (by decide +kernel) (by decide +kernel)
theorem kV_X9_151 : CVw RX9 151 yX9_strengthOf cX9_strengthOf 2 (some .int) 1 := ⟨ml_X9_151, im_X9_strengthOf, sel_X9_X9_strengthOf_X9_strengthOf, ini_X9, cod_X9_strengthOf, ⟨by decide +kernel, by decide +kernel, by decide +kernel⟩⟩
theorem ml_L_31 : Cond.methodLink RL 31 yX9_bird ∈ TBg := tb_of 880 (by decide +kernel) (by decide +kernel)
theorem kV_L_31 : CVw RL 31 yX9_bird cX9_bird 3 (some .int) 2 := ⟨ml_L_31, im_X9_bird, sel_X9_X9_bird_X9_bird, ini_X9, cod_X9_bird, ⟨by decide +kernel, by decide +kernel, by decide +kernel⟩⟩
theorem ml_X9_172 : Cond.methodLink RX9 172 yX9_isBird ∈ TBg := tb_of 884 (by decide +kernel) (by decide +kernel)
theorem kV_X9_172 : CVw RX9 172 yX9_isBird cX9_isBird 2 (some .boolean) 1 := ⟨ml_X9_172, im_X9_isBird, sel_X9_X9_isBird_X9_isBird, ini_X9, cod_X9_isBird, ⟨by decide +kernel, by decide +kernel, by decide +kernel⟩⟩
theorem ml_X9_160 : Cond.methodLink RX9 160 yX9_eatsBy ∈ TBg := tb_of 888 (by decide +kernel) (by decide +kernel)
theorem kV_X9_160 : CVw RX9 160 yX9_eatsBy cX9_eatsBy 4 (some .int) 1 := ⟨ml_X9_160, im_X9_eatsBy, sel_X9_X9_eatsBy_X9_eatsBy, ini_X9, cod_X9_eatsBy, ⟨by decide +kernel, by decide +kernel, by decide +kernel⟩⟩
theorem ml_X9_154 : Cond.methodLink RX9 154 yX9_mayEat ∈ TBg := tb_of 892 (by decide +kernel) (by decide +kernel)
theorem kV_X9_154 : CVw RX9 154 yX9_mayEat cX9_mayEat 3 (some .boolean) 2 := ⟨ml_X9_154, im_X9_mayEat, sel_X9_X9_mayEat_X9_mayEat, ini_X9, cod_X9_mayEat, ⟨by decide +kernel, by decide +kernel, by decide +kernel⟩⟩
theorem ml_X9_148 : Cond.methodLink RX9 148 yX9_isGone ∈ TBg := tb_of 896 (by decide +kernel) (by decide +kernel)
theorem kV_X9_148 : CVw RX9 148 yX9_isGone cX9_isGone 2 (some .boolean) 1 := ⟨ml_X9_148, im_X9_isGone, sel_X9_X9_isGone_X9_isGone, ini_X9, cod_X9_isGone, ⟨by decide +kernel, by decide +kernel, by decide +kernel⟩⟩
theorem ml_X9_157 : Cond.methodLink RX9 157 yX9_isRather ∈ TBg := tb_of 900 (by decide +kernel) (by decide +kernel)
theorem kV_X9_157 : CVw RX9 157 yX9_isRather cX9_isRather 4 (some .boolean) 3 := ⟨ml_X9_157, im_X9_isRather, sel_X9_X9_isRather_X9_isRather, ini_X9, cod_X9_isRather, ⟨by decide +kernel, by decide +kernel, by decide +kernel⟩⟩
theorem ml_L_35 : Cond.methodLink RL 35 yX9_bitter ∈ TBg := tb_of 904 (by decide +kernel) (by decide +kernel)
theorem kV_L_35 : CVw RL 35 yX9_bitter cX9_bitter 5 (some .int) 2 := ⟨ml_L_35, im_X9_bitter, sel_X9_X9_bitter_X9_bitter, ini_X9, cod_X9_bitter, ⟨by decide +kernel, by decide +kernel, by decide +kernel⟩⟩
theorem ml_X9_175 : Cond.methodLink RX9 175 yX9_isInk ∈ TBg := tb_of 908 (by decide +kernel) (by decide +kernel)
theorem kS_X9_175 : CSw RX9 175 yX9_isInk cX9_isInk 1 (some .boolean) 1 := ⟨ml_X9_175, sta_X9_isInk, ini_X9, cod_X9_isInk, ⟨by decide +kernel, by decide +kernel, by decide +kernel⟩⟩
theorem ml_L_39 : Cond.methodLink RL 39 yX9_ink ∈ TBg := tb_of 911 (by decide +kernel) (by decide +kernel)
theorem kV_L_39 : CVw RL 39 yX9_ink cX9_ink 4 (some .int) 2 := ⟨ml_L_39, im_X9_ink, sel_X9_X9_ink_X9_ink, ini_X9, cod_X9_ink, ⟨by decide +kernel, by decide +kernel, by decide +kernel⟩⟩
theorem ml_L_44 : Cond.methodLink RL 44 yX9_watch ∈ TBg := tb_of 915 (by decide +kernel) (by decide +kernel)
theorem kV_L_44 : CVw RL 44 yX9_watch cX9_watch 6 (some .int) 3 := ⟨ml_L_44, im_X9_watch, sel_X9_X9_watch_X9_watch, ini_X9, cod_X9_watch, ⟨by decide +kernel, by decide +kernel, by decide +kernel⟩⟩
theorem ml_L_48 : Cond.methodLink RL 48 yX9_hour ∈ TBg := tb_of 919 (by decide +kernel) (by decide +kernel)
theorem kV_L_48 : CVw RL 48 yX9_hour cX9_hour 1 (some .int) 0 := ⟨ml_L_48, im_X9_hour, sel_X9_X9_hour_X9_hour, ini_X9, cod_X9_hour, ⟨by decide +kernel, by decide +kernel, by decide +kernel⟩⟩
theorem ml_X9_166 : Cond.methodLink RX9 166 yX9_goesHour ∈ TBg := tb_of 923 (by decide +kernel) (by decide +kernel)
theorem kV_X9_166 : CVw RX9 166 yX9_goesHour cX9_goesHour 3 (some .int) 0 := ⟨ml_X9_166, im_X9_goesHour, sel_X9_X9_goesHour_X9_goesHour, ini_X9, cod_X9_goesHour, ⟨by decide +kernel, by decide +kernel, by decide +kernel⟩⟩
theorem ml_X9_163 : Cond.methodLink RX9 163 yX9_eats ∈ TBg := tb_of 927 (by decide +kernel) (by decide +kernel)
theorem kV_X9_163 : CVw RX9 163 yX9_eats cX9_eats 3 (some .int) 1 := ⟨ml_X9_163, im_X9_eats, sel_X9_X9_eats_X9_eats, ini_X9, cod_X9_eats, ⟨by decide +kernel, by decide +kernel, by decide +kernel⟩⟩
theorem ml_L_52 : Cond.methodLink RL 52 yX9_anew ∈ TBg := tb_of 931 (by decide +kernel) (by decide +kernel)
theorem kV_L_52 : CVw RL 52 yX9_anew cX9_anew 1 (some .int) 0 := ⟨ml_L_52, im_X9_anew, sel_X9_X9_anew_X9_anew, ini_X9, cod_X9_anew, ⟨by decide +kernel, by decide +kernel, by decide +kernel⟩⟩
theorem ml_L_56 : Cond.methodLink RL 56 yX9_left ∈ TBg := tb_of 935 (by decide +kernel) (by decide +kernel)
theorem kV_L_56 : CVw RL 56 yX9_left cX9_left 4 (some .int) 1 := ⟨ml_L_56, im_X9_left, sel_X9_X9_left_X9_left, ini_X9, cod_X9_left, ⟨by decide +kernel, by decide +kernel, by decide +kernel⟩⟩
theorem ml_X9_169 : Cond.methodLink RX9 169 yX9_leftNow ∈ TBg := tb_of 939 (by decide +kernel) (by decide +kernel)
theorem kV_X9_169 : CVw RX9 169 yX9_leftNow cX9_leftNow 1 (some .int) 0 := ⟨ml_X9_169, im_X9_leftNow, sel_X9_X9_leftNow_X9_leftNow, ini_X9, cod_X9_leftNow, ⟨by decide +kernel, by decide +kernel, by decide +kernel⟩⟩
theorem ml_L_60 : Cond.methodLink RL 60 yX9_eaten ∈ TBg := tb_of 943 (by decide +kernel) (by decide +kernel)
theorem kV_L_60 : CVw RL 60 yX9_eaten cX9_eaten 3 (some .int) 1 := ⟨ml_L_60, im_X9_eaten, sel_X9_X9_eaten_X9_eaten, ini_X9, cod_X9_eaten, ⟨by decide +kernel, by decide +kernel, by decide +kernel⟩⟩
theorem ml_X9_178 : Cond.methodLink RX9 178 yX9_goesIn ∈ TBg := tb_of 947 (by decide +kernel) (by decide +kernel)
theorem kV_X9_178 : CVw RX9 178 yX9_goesIn cX9_goesIn 5 (some .int) 1 := ⟨ml_X9_178, im_X9_goesIn, sel_X9_X9_goesIn_X9_goesIn, ini_X9, cod_X9_goesIn, ⟨by decide +kernel, by decide +kernel, by decide +kernel⟩⟩
theorem ml_L_64 : Cond.methodLink RL 64 yX9_meanings ∈ TBg := tb_of 951 (by decide +kernel) (by decide +kernel)
theorem kV_L_64 : CVw RL 64 yX9_meanings cX9_meanings 1 (some .int) 0 := ⟨ml_L_64, im_X9_meanings, sel_X9_X9_meanings_X9_meanings, ini_X9, cod_X9_meanings, ⟨by decide +kernel, by decide +kernel, by decide +kernel⟩⟩
theorem ml_X9_181 : Cond.methodLink RX9 181 yX9_leftAtDusk ∈ TBg := tb_of 955 (by decide +kernel) (by decide +kernel)
theorem kV_X9_181 : CVw RX9 181 yX9_leftAtDusk cX9_leftAtDusk 4 (some .int) 0 := ⟨ml_X9_181, im_X9_leftAtDusk, sel_X9_X9_leftAtDusk_X9_leftAtDusk, ini_X9, cod_X9_leftAtDusk, ⟨by decide +kernel, by decide +kernel, by decide +kernel⟩⟩
theorem ml_X9_184 : Cond.methodLink RX9 184 yX9_meaningsOf ∈ TBg := tb_of 959 (by decide +kernel) (by decide +kernel)
theorem kV_X9_184 : CVw RX9 184 yX9_meaningsOf cX9_meaningsOf 4 (some .int) 1 := ⟨ml_X9_184, im_X9_meaningsOf, sel_X9_X9_meaningsOf_X9_meaningsOf, ini_X9, cod_X9_meaningsOf, ⟨by decide +kernel, by decide +kernel, by decide +kernel⟩⟩
theorem ml_L_68 : Cond.methodLink RL 68 yX9_remain ∈ TBg := tb_of 963 (by decide +kernel) (by decide +kernel)
theorem kV_L_68 : CVw RL 68 yX9_remain cX9_remain 1 (some .int) 0 := ⟨ml_L_68, im_X9_remain, sel_X9_X9_remain_X9_remain, ini_X9, cod_X9_remain, ⟨by decide +kernel, by decide +kernel, by decide +kernel⟩⟩
theorem ml_X9_187 : Cond.methodLink RX9 187 yX9_bits ∈ TBg := tb_of 967 (by decide +kernel) (by decide +kernel)
theorem kS_X9_187 : CSw RX9 187 yX9_bits cX9_bits 3 (some .int) 1 := ⟨ml_X9_187, sta_X9_bits, ini_X9, cod_X9_bits, ⟨by decide +kernel, by decide +kernel, by decide +kernel⟩⟩
theorem ml_L_72 : Cond.methodLink RL 72 yX9_holds ∈ TBg := tb_of 970 (by decide +kernel) (by decide +kernel)
theorem kV_L_72 : CVw RL 72 yX9_holds cX9_holds 6 (some .int) 1 := ⟨ml_L_72, im_X9_holds, sel_X9_X9_holds_X9_holds, ini_X9, cod_X9_holds, ⟨by decide +kernel, by decide +kernel, by decide +kernel⟩⟩
theorem ml_L_76 : Cond.methodLink RL 76 yX9_boys ∈ TBg := tb_of 974 (by decide +kernel) (by decide +kernel)
theorem kV_L_76 : CVw RL 76 yX9_boys cX9_boys 4 (some .int) 1 := ⟨ml_L_76, im_X9_boys, sel_X9_X9_boys_X9_boys, ini_X9, cod_X9_boys, ⟨by decide +kernel, by decide +kernel, by decide +kernel⟩⟩
theorem ml_X9_190 : Cond.methodLink RX9 190 yX9_areWords ∈ TBg := tb_of 978 (by decide +kernel) (by decide +kernel)
theorem kV_X9_190 : CVw RX9 190 yX9_areWords cX9_areWords 2 (some .boolean) 1 := ⟨ml_X9_190, im_X9_areWords, sel_X9_X9_areWords_X9_areWords, ini_X9, cod_X9_areWords, ⟨by decide +kernel, by decide +kernel, by decide +kernel⟩⟩
theorem ml_X9_193 : Cond.methodLink RX9 193 yX9_watchedLeft ∈ TBg := tb_of 982 (by decide +kernel) (by decide +kernel)
theorem kV_X9_193 : CVw RX9 193 yX9_watchedLeft cX9_watchedLeft 4 (some .int) 2 := ⟨ml_X9_193, im_X9_watchedLeft, sel_X9_X9_watchedLeft_X9_watchedLeft, ini_X9, cod_X9_watchedLeft, ⟨by decide +kernel, by decide +kernel, by decide +kernel⟩⟩
theorem ml_L_80 : Cond.methodLink RL 80 yX9_guard ∈ TBg := tb_of 986 (by decide +kernel) (by decide +kernel)
theorem kV_L_80 : CVw RL 80 yX9_guard cX9_guard 5 (some .int) 0 := ⟨ml_L_80, im_X9_guard, sel_X9_X9_guard_X9_guard, ini_X9, cod_X9_guard, ⟨by decide +kernel, by decide +kernel, by decide +kernel⟩⟩
theorem ml_L_84 : Cond.methodLink RL 84 yX9_winter ∈ TBg := tb_of 990 (by decide +kernel) (by decide +kernel)
theorem kV_L_84 : CVw RL 84 yX9_winter cX9_winter 5 (some .int) 1 := ⟨ml_L_84, im_X9_winter, sel_X9_X9_winter_X9_winter, ini_X9, cod_X9_winter, ⟨by decide +kernel, by decide +kernel, by decide +kernel⟩⟩
theorem ml_X9_197 : Cond.methodLink RX9 197 yX9_lower ∈ TBg := tb_of 994 (by decide +kernel) (by decide +kernel)
theorem kV_X9_197 : CVw RX9 197 yX9_lower cX9_lower 2 (some .int) 1 := ⟨ml_X9_197, im_X9_lower, sel_X9_X9_lower_X9_lower, ini_X9, cod_X9_lower, ⟨by decide +kernel, by decide +kernel, by decide +kernel⟩⟩
theorem ml_L_88 : Cond.methodLink RL 88 yX9_becomes ∈ TBg := tb_of 999 (by decide +kernel) (by decide +kernel)
theorem kV_L_88 : CVw RL 88 yX9_becomes cX9_becomes 4 (some .int) 0 := ⟨ml_L_88, im_X9_becomes, sel_X9_X9_becomes_X9_becomes, ini_X9, cod_X9_becomes, ⟨by decide +kernel, by decide +kernel, by decide +kernel⟩⟩
theorem ml_X9_203 : Cond.methodLink RX9 203 yX9_otherAt ∈ TBg := tb_of 1003 (by decide +kernel) (by decide +kernel)
theorem kV_X9_203 : CVw RX9 203 yX9_otherAt cX9_otherAt 3 (some .int) 0 := ⟨ml_X9_203, im_X9_otherAt, sel_X9_X9_otherAt_X9_otherAt, ini_X9, cod_X9_otherAt, ⟨by decide +kernel, by decide +kernel, by decide +kernel⟩⟩
theorem ml_L_92 : Cond.methodLink RL 92 yX9_danger ∈ TBg := tb_of 1007 (by decide +kernel) (by decide +kernel)
theorem kV_L_92 : CVw RL 92 yX9_danger cX9_danger 1 (some .int) 0 := ⟨ml_L_92, im_X9_danger, sel_X9_X9_danger_X9_danger, ini_X9, cod_X9_danger, ⟨by decide +kernel, by decide +kernel, by decide +kernel⟩⟩
theorem ml_L_96 : Cond.methodLink RL 96 yX9_lasts ∈ TBg := tb_of 1011 (by decide +kernel) (by decide +kernel)
theorem kV_L_96 : CVw RL 96 yX9_lasts cX9_lasts 7 (some .int) 1 := ⟨ml_L_96, im_X9_lasts, sel_X9_X9_lasts_X9_lasts, ini_X9, cod_X9_lasts, ⟨by decide +kernel, by decide +kernel, by decide +kernel⟩⟩
theorem ml_L_100 : Cond.methodLink RL 100 yX9_mixed ∈ TBg := tb_of 1015 (by decide +kernel) (by decide +kernel)
theorem kV_L_100 : CVw RL 100 yX9_mixed cX9_mixed 8 (some .int) 2 := ⟨ml_L_100, im_X9_mixed, sel_X9_X9_mixed_X9_mixed, ini_X9, cod_X9_mixed, ⟨by decide +kernel, by decide +kernel, by decide +kernel⟩⟩
theorem ml_L_104 : Cond.methodLink RL 104 yX9_tastes ∈ TBg := tb_of 1019 (by decide +kernel) (by decide +kernel)
theorem kV_L_104 : CVw RL 104 yX9_tastes cX9_tastes 6 (some .int) 2 := ⟨ml_L_104, im_X9_tastes, sel_X9_X9_tastes_X9_tastes, ini_X9, cod_X9_tastes, ⟨by decide +kernel, by decide +kernel, by decide +kernel⟩⟩
theorem ml_L_108 : Cond.methodLink RL 108 yX9_fitting ∈ TBg := tb_of 1023 (by decide +kernel) (by decide +kernel)
theorem kV_L_108 : CVw RL 108 yX9_fitting cX9_fitting 6 (some .int) 2 := ⟨ml_L_108, im_X9_fitting, sel_X9_X9_fitting_X9_fitting, ini_X9, cod_X9_fitting, ⟨by decide +kernel, by decide +kernel, by decide +kernel⟩⟩
theorem ml_L_112 : Cond.methodLink RL 112 yX9_row ∈ TBg := tb_of 1027 (by decide +kernel) (by decide +kernel)
theorem kV_L_112 : CVw RL 112 yX9_row cX9_row 3 (some .int) 1 := ⟨ml_L_112, im_X9_row, sel_X9_X9_row_X9_row, ini_X9, cod_X9_row, ⟨by decide +kernel, by decide +kernel, by decide +kernel⟩⟩
theorem ml_L_116 : Cond.methodLink RL 116 yX9_judge ∈ TBg := tb_of 1031 (by decide +kernel) (by decide +kernel)
theorem kV_L_116 : CVw RL 116 yX9_judge cX9_judge 2 (some .int) 0 := ⟨ml_L_116, im_X9_judge, sel_X9_X9_judge_X9_judge, ini_X9, cod_X9_judge, ⟨by decide +kernel, by decide +kernel, by decide +kernel⟩⟩
theorem ml_L_120 : Cond.methodLink RL 120 yX9_seeds ∈ TBg := tb_of 1035 (by decide +kernel) (by decide +kernel)
theorem kV_L_120 : CVw RL 120 yX9_seeds cX9_seeds 8 (some .int) 2 := ⟨ml_L_120, im_X9_seeds, sel_X9_X9_seeds_X9_seeds, ini_X9, cod_X9_seeds, ⟨by decide +kernel, by decide +kernel, by decide +kernel⟩⟩
theorem ml_L_132 : Cond.methodLink RL 132 yX9_count ∈ TBg := tb_of 1042 (by decide +kernel) (by decide +kernel)
theorem kV_L_132 : CVw RL 132 yX9_count cX9_count 4 (some .int) 1 := ⟨ml_L_132, im_X9_count, sel_X9_X9_count_X9_count, ini_X9, cod_X9_count, ⟨by decide +kernel, by decide +kernel, by decide +kernel⟩⟩
theorem kNI_X8_9 : CNIw RX8 9 yX6_init RX8 cX6_init 1 0 := ⟨by simp [nestW], im_X6_init, ini_X6, cod_X6_init, rfl, ⟨by decide +kernel, by decide +kernel, by decide +kernel⟩⟩
theorem kNI_X8_12 : CNIw RX8 12 yX7_init RX8 cX7_init 1 0 := ⟨by simp [nestW], im_X7_init, ini_X7, cod_X7_init, rfl, ⟨by decide +kernel, by decide +kernel, by decide +kernel⟩⟩
theorem kNI_X7_1 : CNIw RX7 1 yX6_init RX8 cX6_init 1 0 := ⟨by simp [nestW], im_X6_init, ini_X6, cod_X6_init, rfl, ⟨by decide +kernel, by decide +kernel, by decide +kernel⟩⟩
theorem kNI_X8_15 : CNIw RX8 15 yX0_init RX8 cX0_init 1 0 := ⟨by simp [nestW], im_X0_init, ini_X0, cod_X0_init, rfl, ⟨by decide +kernel, by decide +kernel, by decide +kernel⟩⟩
theorem kNI_X0_1 : CNIw RX0 1 yX6_init RX8 cX6_init 1 0 := ⟨by simp [nestW], im_X6_init, ini_X6, cod_X6_init, rfl, ⟨by decide +kernel, by decide +kernel, by decide +kernel⟩⟩
theorem kNI_X8_18 : CNIw RX8 18 yX5_init RX8 cX5_init 1 0 := ⟨by simp [nestW], im_X5_init, ini_X5, cod_X5_init, rfl, ⟨by decide +kernel, by decide +kernel, by decide +kernel⟩⟩
theorem kNI_X5_1 : CNIw RX5 1 yX7_init RX8 cX7_init 1 0 := ⟨by simp [nestW], im_X7_init, ini_X7, cod_X7_init, rfl, ⟨by decide +kernel, by decide +kernel, by decide +kernel⟩⟩
theorem kNI_X8_21 : CNIw RX8 21 yX3_init RX8 cX3_init 1 0 := ⟨by simp [nestW], im_X3_init, ini_X3, cod_X3_init, rfl, ⟨by decide +kernel, by decide +kernel, by decide +kernel⟩⟩
theorem kNI_X3_1 : CNIw RX3 1 yX6_init RX8 cX6_init 1 0 := ⟨by simp [nestW], im_X6_init, ini_X6, cod_X6_init, rfl, ⟨by decide +kernel, by decide +kernel, by decide +kernel⟩⟩
theorem kNI_X8_24 : CNIw RX8 24 yX1_init RX8 cX1_init 1 0 := ⟨by simp [nestW], im_X1_init, ini_X1, cod_X1_init, rfl, ⟨by decide +kernel, by decide +kernel, by decide +kernel⟩⟩
theorem kNI_X1_1 : CNIw RX1 1 yX0_init RX8 cX0_init 1 0 := ⟨by simp [nestW], im_X0_init, ini_X0, cod_X0_init, rfl, ⟨by decide +kernel, by decide +kernel, by decide +kernel⟩⟩
theorem kNI_X8_44 : CNIw RX8 44 yX4_init RX8 cX4_init 1 0 := ⟨by simp [nestW], im_X4_init, ini_X4, cod_X4_init, rfl, ⟨by decide +kernel, by decide +kernel, by decide +kernel⟩⟩
theorem kNS_X4_70 : CNSw RX4 70 yX8_isInk RX8 cX8_isInk 1 (some .boolean) 1 := ⟨by simp [nestW], sta_X8_isInk, ini_X8, cod_X8_isInk, ⟨by decide +kernel, by decide +kernel, by decide +kernel⟩⟩
theorem kNS_X2_66 : CNSw RX2 66 yX8_isInk RX8 cX8_isInk 1 (some .boolean) 1 := ⟨by simp [nestW], sta_X8_isInk, ini_X8, cod_X8_isInk, ⟨by decide +kernel, by decide +kernel, by decide +kernel⟩⟩
theorem in_X0 : ∀ w ∈ u_ws RX0 TX0 0, w ∈ TBg := fun w h => List.mem_filter.mpr ⟨(by decide +kernel : ∀ w ∈ u_ws RX0 TX0 0, w ∈ lw_tbl) w h, (by decide +kernel : ∀ w ∈ u_ws RX0 TX0 0, goodWord w = true) w h⟩
theorem in_X1 : ∀ w ∈ u_ws RX1 TX1 0, w ∈ TBg := fun w h => List.mem_filter.mpr ⟨(by decide +kernel : ∀ w ∈ u_ws RX1 TX1 0, w ∈ lw_tbl) w h, (by decide +kernel : ∀ w ∈ u_ws RX1 TX1 0, goodWord w = true) w h⟩
theorem in_X2 : ∀ w ∈ u_ws RX2 TX2 14, w ∈ TBg := fun w h => List.mem_filter.mpr ⟨(by decide +kernel : ∀ w ∈ u_ws RX2 TX2 14, w ∈ lw_tbl) w h, (by decide +kernel : ∀ w ∈ u_ws RX2 TX2 14, goodWord w = true) w h⟩
theorem in_X3 : ∀ w ∈ u_ws RX3 TX3 0, w ∈ TBg := fun w h => List.mem_filter.mpr ⟨(by decide +kernel : ∀ w ∈ u_ws RX3 TX3 0, w ∈ lw_tbl) w h, (by decide +kernel : ∀ w ∈ u_ws RX3 TX3 0, goodWord w = true) w h⟩
theorem in_X4 : ∀ w ∈ u_ws RX4 TX4 2, w ∈ TBg := fun w h => List.mem_filter.mpr ⟨(by decide +kernel : ∀ w ∈ u_ws RX4 TX4 2, w ∈ lw_tbl) w h, (by decide +kernel : ∀ w ∈ u_ws RX4 TX4 2, goodWord w = true) w h⟩
theorem in_X5 : ∀ w ∈ u_ws RX5 TX5 0, w ∈ TBg := fun w h => List.mem_filter.mpr ⟨(by decide +kernel : ∀ w ∈ u_ws RX5 TX5 0, w ∈ lw_tbl) w h, (by decide +kernel : ∀ w ∈ u_ws RX5 TX5 0, goodWord w = true) w h⟩
theorem in_X6 : ∀ w ∈ u_ws RX6 TX6 0, w ∈ TBg := fun w h => List.mem_filter.mpr ⟨(by decide +kernel : ∀ w ∈ u_ws RX6 TX6 0, w ∈ lw_tbl) w h, (by decide +kernel : ∀ w ∈ u_ws RX6 TX6 0, goodWord w = true) w h⟩
theorem in_X7 : ∀ w ∈ u_ws RX7 TX7 0, w ∈ TBg := fun w h => List.mem_filter.mpr ⟨(by decide +kernel : ∀ w ∈ u_ws RX7 TX7 0, w ∈ lw_tbl) w h, (by decide +kernel : ∀ w ∈ u_ws RX7 TX7 0, goodWord w = true) w h⟩
theorem in_X8 : ∀ w ∈ u_ws RX8 TX8 8, w ∈ TBg := fun w h => List.mem_filter.mpr ⟨(by decide +kernel : ∀ w ∈ u_ws RX8 TX8 8, w ∈ lw_tbl) w h, (by decide +kernel : ∀ w ∈ u_ws RX8 TX8 8, goodWord w = true) w h⟩
theorem in_X9 : ∀ w ∈ u_ws RX9 TX9 27, w ∈ TBg := fun w h => List.mem_filter.mpr ⟨(by decide +kernel : ∀ w ∈ u_ws RX9 TX9 27, w ∈ lw_tbl) w h, (by decide +kernel : ∀ w ∈ u_ws RX9 TX9 27, goodWord w = true) w h⟩
theorem arr_173 : Cond.arrayClass .int ∈ TBg := tb_of 173 (by decide +kernel) (by decide +kernel)
theorem arr_188 : Cond.arrayClass .char ∈ TBg := tb_of 188 (by decide +kernel) (by decide +kernel)
theorem arr_424 : Cond.arrayClass .byte ∈ TBg := tb_of 424 (by decide +kernel) (by decide +kernel)
theorem ko_X8_1 : Cond.methodLink RX8 1 objectInit ∈ TBg ∧ Cond.instanceMethod objectInit ∈ TBg ∧ Cond.code objectInit ⟨#[0xb1]⟩ 1 none ∈ TBg := ⟨tb_of 64 (by decide +kernel) (by decide +kernel), tb_of 65 (by decide +kernel) (by decide +kernel), tb_of 66 (by decide +kernel) (by decide +kernel)⟩
theorem ko_X6_3 : Cond.methodLink RX6 3 objectInit ∈ TBg ∧ Cond.instanceMethod objectInit ∈ TBg ∧ Cond.code objectInit ⟨#[0xb1]⟩ 1 none ∈ TBg := ⟨tb_of 73 (by decide +kernel) (by decide +kernel), tb_of 65 (by decide +kernel) (by decide +kernel), tb_of 66 (by decide +kernel) (by decide +kernel)⟩
theorem ko_X2_3 : Cond.methodLink RX2 3 objectInit ∈ TBg ∧ Cond.instanceMethod objectInit ∈ TBg ∧ Cond.code objectInit ⟨#[0xb1]⟩ 1 none ∈ TBg := ⟨tb_of 115 (by decide +kernel) (by decide +kernel), tb_of 65 (by decide +kernel) (by decide +kernel), tb_of 66 (by decide +kernel) (by decide +kernel)⟩
theorem ko_X4_3 : Cond.methodLink RX4 3 objectInit ∈ TBg ∧ Cond.instanceMethod objectInit ∈ TBg ∧ Cond.code objectInit ⟨#[0xb1]⟩ 1 none ∈ TBg := ⟨tb_of 179 (by decide +kernel) (by decide +kernel), tb_of 65 (by decide +kernel) (by decide +kernel), tb_of 66 (by decide +kernel) (by decide +kernel)⟩
theorem km_J1_92 : Cond.methodLink RJ1 92 Lib.Math.max.name ∈ TBg ∧ Cond.static Lib.Math.max.name ∈ TBg ∧ Cond.initialized "java/lang/Math" ∈ TBg ∧ Cond.code Lib.Math.max.name Lib.Math.max.code 2 (some .int) ∈ TBg := ⟨tb_of 325 (by decide +kernel) (by decide +kernel), tb_of 326 (by decide +kernel) (by decide +kernel), tb_of 55 (by decide +kernel) (by decide +kernel), tb_of 327 (by decide +kernel) (by decide +kernel)⟩
theorem km_J1_38 : Cond.methodLink RJ1 38 Lib.Math.min.name ∈ TBg ∧ Cond.static Lib.Math.min.name ∈ TBg ∧ Cond.initialized "java/lang/Math" ∈ TBg ∧ Cond.code Lib.Math.min.name Lib.Math.min.code 2 (some .int) ∈ TBg := ⟨tb_of 328 (by decide +kernel) (by decide +kernel), tb_of 329 (by decide +kernel) (by decide +kernel), tb_of 55 (by decide +kernel) (by decide +kernel), tb_of 330 (by decide +kernel) (by decide +kernel)⟩
theorem km_J2_224 : Cond.methodLink RJ2 224 Lib.Math.max.name ∈ TBg ∧ Cond.static Lib.Math.max.name ∈ TBg ∧ Cond.initialized "java/lang/Math" ∈ TBg ∧ Cond.code Lib.Math.max.name Lib.Math.max.code 2 (some .int) ∈ TBg := ⟨tb_of 337 (by decide +kernel) (by decide +kernel), tb_of 326 (by decide +kernel) (by decide +kernel), tb_of 55 (by decide +kernel) (by decide +kernel), tb_of 327 (by decide +kernel) (by decide +kernel)⟩
theorem km_J2_183 : Cond.methodLink RJ2 183 Lib.Math.min.name ∈ TBg ∧ Cond.static Lib.Math.min.name ∈ TBg ∧ Cond.initialized "java/lang/Math" ∈ TBg ∧ Cond.code Lib.Math.min.name Lib.Math.min.code 2 (some .int) ∈ TBg := ⟨tb_of 338 (by decide +kernel) (by decide +kernel), tb_of 329 (by decide +kernel) (by decide +kernel), tb_of 55 (by decide +kernel) (by decide +kernel), tb_of 330 (by decide +kernel) (by decide +kernel)⟩
theorem kac_X2_43 : Cond.methodLink RX2 43 arraycopyName ∈ TBg ∧ Cond.native arraycopyName ∈ TBg ∧ Cond.static arraycopyName ∈ TBg ∧ Cond.initialized "java/lang/System" ∈ TBg := ⟨tb_of 573 (by decide +kernel) (by decide +kernel), tb_of 575 (by decide +kernel) (by decide +kernel), tb_of 574 (by decide +kernel) (by decide +kernel), tb_of 58 (by decide +kernel) (by decide +kernel)⟩
theorem km_X8_175 : Cond.methodLink RX8 175 Lib.Math.min.name ∈ TBg ∧ Cond.static Lib.Math.min.name ∈ TBg ∧ Cond.initialized "java/lang/Math" ∈ TBg ∧ Cond.code Lib.Math.min.name Lib.Math.min.code 2 (some .int) ∈ TBg := ⟨tb_of 610 (by decide +kernel) (by decide +kernel), tb_of 329 (by decide +kernel) (by decide +kernel), tb_of 55 (by decide +kernel) (by decide +kernel), tb_of 330 (by decide +kernel) (by decide +kernel)⟩
theorem ko_X9_1 : Cond.methodLink RX9 1 objectInit ∈ TBg ∧ Cond.instanceMethod objectInit ∈ TBg ∧ Cond.code objectInit ⟨#[0xb1]⟩ 1 none ∈ TBg := ⟨tb_of 712 (by decide +kernel) (by decide +kernel), tb_of 65 (by decide +kernel) (by decide +kernel), tb_of 66 (by decide +kernel) (by decide +kernel)⟩
end
section
/-! STATE: what the cells hold, as numbers. A garden g : field -> place -> number; fields 0 sweet 1 ink 2 meaning 3 kind 4 taste 5 from 6 till 7 bitter 8 watched, 9: 0 words 1 birds 2 gone 3 hour. What else the class holds, y: field 0: 0 image taken 1 letters 2 row length; 1 the letters, 2 the row, 3 refusals. -/
abbrev Gd : Type := Nat → Nat → Nat
def gs (g : Gd) (f i v : Nat) : Gd := fun f' i' => if f' = f ∧ i' = i then v else g f' i'
theorem gs_eq (g : Gd) (f i v : Nat) : gs g f i v f i = v := by simp [gs]
theorem gs_f {g : Gd} {f i v f' j : Nat} (h : f' ≠ f) : gs g f i v f' j = g f' j := by simp [gs, h]
theorem gs_i {g : Gd} {f i v j : Nat} (h : j ≠ i) : gs g f i v f j = g f j := by simp [gs, h]
theorem upd_gs (g : Gd) (f i v : Nat) : upd (fun j => nI (g f j)) i (nI v) = fun j => nI (gs g f i v f j) := by
  funext j
  unfold upd gs
  by_cases h : j = i <;> simp [h]
/-- a garden's cells at the addresses a, the array of kinds at ka -/
def wg (E : Ev) (ka : Nat) (a : Nat → Nat) (g : Gd) : va_W := [
  (a 0, .inr (2, [.ref ka, .ref (a 1), .ref (a 2), .ref (a 3), .int (nI (g 9 0)), .ref (a 4), .ref (a 5), .ref (a 6), .ref (a 7), .int (nI (g 9 1)), .ref (a 8), .ref (a 9), .int (nI (g 9 2)), .int (nI (g 9 3))])),
  (a 1, .inl (E.2.1.1, 10, .inl (fun j => nI (g 0 j)))),
  (a 2, .inl (E.2.1.1, 10, .inl (fun j => nI (g 1 j)))),
  (a 3, .inl (E.2.1.1, 10, .inl (fun j => nI (g 2 j)))),
  (a 4, .inl (E.2.1.1, 4, .inl (fun j => nI (g 3 j)))),
  (a 5, .inl (E.2.1.1, 4, .inl (fun j => nI (g 4 j)))),
  (a 6, .inl (E.2.1.1, 4, .inl (fun j => nI (g 5 j)))),
  (a 7, .inl (E.2.1.1, 4, .inl (fun j => nI (g 6 j)))),
  (a 8, .inl (E.2.1.1, 3, .inl (fun j => nI (g 7 j)))),
  (a 9, .inl (E.2.1.1, 8, .inl (fun j => nI (g 8 j))))]
/-- the kinds: s t c o g f -/
def wk (E : Ev) (kk : Nat → Nat) : va_W := [
  (kk 6, .inl (E.2.1.2.2, 6, .inr (.inr (.inr (.inr (fun j => some (kk j))))))),
  (kk 0, .inr (6, [])), (kk 1, .inr (7, [])), (kk 2, .inr (0, [])), (kk 3, .inr (5, [])), (kk 4, .inr (3, [])), (kk 5, .inr (1, []))]
/-- the letters -/
def wl (E : Ev) (al : Nat → Nat) (y : Gd) : va_W := [
  (al 0, .inr (4, [.ref (al 1), .int (nI (y 0 1))])),
  (al 1, .inl (E.2.1.2.1, 80, .inl (fun j => nI (y 1 j))))]
/-- the class's own object, its row, its refusals -/
def wx (E : Ev) (ax : Nat → Nat) (an am ai al : Nat) (y : Gd) : va_W := [
  (ax 0, .inr (8, [.ref an, .ref am, .ref ai, .int (nI (y 0 0)), .ref al, .ref (ax 1), .int (nI (y 0 2)), .ref (ax 2)])),
  (ax 1, .inl (E.2.1.1, 10, .inl (fun j => nI (y 2 j)))),
  (ax 2, .inl (E.2.1.1, 6, .inl (fun j => nI (y 3 j))))]
/-- one field as another garden's -/
def gcp (g g2 : Gd) (f : Nat) : Gd := fun f' i => if f' = f then g2 f' i else g f' i
/-- behind the first n cells -/
theorem so {s w w' : va_W} {c : Nat × va_E} (n k : Nat) (h : s.length = n) (h2 : w.set k c = w') : (s ++ w).set (n + k) c = s ++ w' := by
  subst h; subst h2
  rw [List.set_append_right (h := by omega)]
  congr 2
  omega
/-- in the first part -/
theorem sf {s s' w : va_W} {c : Nat × va_E} (k : Nat) (h : k < s.length) (h2 : s.set k c = s') : (s ++ w).set k c = s' ++ w := by
  subst h2
  rw [List.set_append_left (h := h)]
theorem wg_set0 {E : Ev} {ka : Nat} {a : Nat → Nat} {g : Gd} (i v : Nat) : (wg E ka a g).set 1 (a 1, .inl (E.2.1.1, 10, .inl (upd (fun j => nI (g 0 j)) i (nI v)))) = wg E ka a (gs g 0 i v) := by rw [upd_gs]; rfl
theorem wg_set1 {E : Ev} {ka : Nat} {a : Nat → Nat} {g : Gd} (i v : Nat) : (wg E ka a g).set 2 (a 2, .inl (E.2.1.1, 10, .inl (upd (fun j => nI (g 1 j)) i (nI v)))) = wg E ka a (gs g 1 i v) := by rw [upd_gs]; rfl
theorem wg_set2 {E : Ev} {ka : Nat} {a : Nat → Nat} {g : Gd} (i v : Nat) : (wg E ka a g).set 3 (a 3, .inl (E.2.1.1, 10, .inl (upd (fun j => nI (g 2 j)) i (nI v)))) = wg E ka a (gs g 2 i v) := by rw [upd_gs]; rfl
theorem wg_set3 {E : Ev} {ka : Nat} {a : Nat → Nat} {g : Gd} (i v : Nat) : (wg E ka a g).set 4 (a 4, .inl (E.2.1.1, 4, .inl (upd (fun j => nI (g 3 j)) i (nI v)))) = wg E ka a (gs g 3 i v) := by rw [upd_gs]; rfl
theorem wg_set4 {E : Ev} {ka : Nat} {a : Nat → Nat} {g : Gd} (i v : Nat) : (wg E ka a g).set 5 (a 5, .inl (E.2.1.1, 4, .inl (upd (fun j => nI (g 4 j)) i (nI v)))) = wg E ka a (gs g 4 i v) := by rw [upd_gs]; rfl
theorem wg_set5 {E : Ev} {ka : Nat} {a : Nat → Nat} {g : Gd} (i v : Nat) : (wg E ka a g).set 6 (a 6, .inl (E.2.1.1, 4, .inl (upd (fun j => nI (g 5 j)) i (nI v)))) = wg E ka a (gs g 5 i v) := by rw [upd_gs]; rfl
theorem wg_set6 {E : Ev} {ka : Nat} {a : Nat → Nat} {g : Gd} (i v : Nat) : (wg E ka a g).set 7 (a 7, .inl (E.2.1.1, 4, .inl (upd (fun j => nI (g 6 j)) i (nI v)))) = wg E ka a (gs g 6 i v) := by rw [upd_gs]; rfl
theorem wg_set7 {E : Ev} {ka : Nat} {a : Nat → Nat} {g : Gd} (i v : Nat) : (wg E ka a g).set 8 (a 8, .inl (E.2.1.1, 3, .inl (upd (fun j => nI (g 7 j)) i (nI v)))) = wg E ka a (gs g 7 i v) := by rw [upd_gs]; rfl
theorem wg_set8 {E : Ev} {ka : Nat} {a : Nat → Nat} {g : Gd} (i v : Nat) : (wg E ka a g).set 9 (a 9, .inl (E.2.1.1, 8, .inl (upd (fun j => nI (g 8 j)) i (nI v)))) = wg E ka a (gs g 8 i v) := by rw [upd_gs]; rfl
theorem wg_put0 {E : Ev} {ka : Nat} {a : Nat → Nat} {g : Gd} (v : Nat) : (wg E ka a g).set 0 (a 0, .inr (2, ([.ref ka, .ref (a 1), .ref (a 2), .ref (a 3), .int (nI (g 9 0)), .ref (a 4), .ref (a 5), .ref (a 6), .ref (a 7), .int (nI (g 9 1)), .ref (a 8), .ref (a 9), .int (nI (g 9 2)), .int (nI (g 9 3))] : List Value).set 4 (.int (nI v)))) = wg E ka a (gs g 9 0 v) := rfl
theorem wg_put1 {E : Ev} {ka : Nat} {a : Nat → Nat} {g : Gd} (v : Nat) : (wg E ka a g).set 0 (a 0, .inr (2, ([.ref ka, .ref (a 1), .ref (a 2), .ref (a 3), .int (nI (g 9 0)), .ref (a 4), .ref (a 5), .ref (a 6), .ref (a 7), .int (nI (g 9 1)), .ref (a 8), .ref (a 9), .int (nI (g 9 2)), .int (nI (g 9 3))] : List Value).set 9 (.int (nI v)))) = wg E ka a (gs g 9 1 v) := rfl
theorem wg_put2 {E : Ev} {ka : Nat} {a : Nat → Nat} {g : Gd} (v : Nat) : (wg E ka a g).set 0 (a 0, .inr (2, ([.ref ka, .ref (a 1), .ref (a 2), .ref (a 3), .int (nI (g 9 0)), .ref (a 4), .ref (a 5), .ref (a 6), .ref (a 7), .int (nI (g 9 1)), .ref (a 8), .ref (a 9), .int (nI (g 9 2)), .int (nI (g 9 3))] : List Value).set 12 (.int (nI v)))) = wg E ka a (gs g 9 2 v) := rfl
theorem wg_put3 {E : Ev} {ka : Nat} {a : Nat → Nat} {g : Gd} (v : Nat) : (wg E ka a g).set 0 (a 0, .inr (2, ([.ref ka, .ref (a 1), .ref (a 2), .ref (a 3), .int (nI (g 9 0)), .ref (a 4), .ref (a 5), .ref (a 6), .ref (a 7), .int (nI (g 9 1)), .ref (a 8), .ref (a 9), .int (nI (g 9 2)), .int (nI (g 9 3))] : List Value).set 13 (.int (nI v)))) = wg E ka a (gs g 9 3 v) := rfl
theorem wl_set1 {E : Ev} {al : Nat → Nat} {y : Gd} (i v : Nat) : (wl E al y).set 1 (al 1, .inl (E.2.1.2.1, 80, .inl (upd (fun j => nI (y 1 j)) i (nI v)))) = wl E al (gs y 1 i v) := by rw [upd_gs]; rfl
theorem wl_put1 {E : Ev} {al : Nat → Nat} {y : Gd} (v : Nat) : (wl E al y).set 0 (al 0, .inr (4, ([.ref (al 1), .int (nI (y 0 1))] : List Value).set 1 (.int (nI v)))) = wl E al (gs y 0 1 v) := rfl
theorem wx_set2 {E : Ev} {ax : Nat → Nat} {an am ai al : Nat} {y : Gd} (i v : Nat) : (wx E ax an am ai al y).set 1 (ax 1, .inl (E.2.1.1, 10, .inl (upd (fun j => nI (y 2 j)) i (nI v)))) = wx E ax an am ai al (gs y 2 i v) := by rw [upd_gs]; rfl
theorem wx_set3 {E : Ev} {ax : Nat → Nat} {an am ai al : Nat} {y : Gd} (i v : Nat) : (wx E ax an am ai al y).set 2 (ax 2, .inl (E.2.1.1, 6, .inl (upd (fun j => nI (y 3 j)) i (nI v)))) = wx E ax an am ai al (gs y 3 i v) := by rw [upd_gs]; rfl
theorem wx_put0 {E : Ev} {ax : Nat → Nat} {an am ai al : Nat} {y : Gd} (v : Nat) : (wx E ax an am ai al y).set 0 (ax 0, .inr (8, ([.ref an, .ref am, .ref ai, .int (nI (y 0 0)), .ref al, .ref (ax 1), .int (nI (y 0 2)), .ref (ax 2)] : List Value).set 3 (.int (nI v)))) = wx E ax an am ai al (gs y 0 0 v) := rfl
theorem wx_put2 {E : Ev} {ax : Nat → Nat} {an am ai al : Nat} {y : Gd} (v : Nat) : (wx E ax an am ai al y).set 0 (ax 0, .inr (8, ([.ref an, .ref am, .ref ai, .int (nI (y 0 0)), .ref al, .ref (ax 1), .int (nI (y 0 2)), .ref (ax 2)] : List Value).set 6 (.int (nI v)))) = wx E ax an am ai al (gs y 0 2 v) := rfl
theorem wl_other {E : Ev} {al : Nat → Nat} {y : Gd} {f i v : Nat} (h : f ≠ 1) (h2 : ¬ (f = 0 ∧ i = 1)) : wl E al (gs y f i v) = wl E al y := by
  unfold wl
  have e1 : gs y f i v 0 1 = y 0 1 := by unfold gs; rw [if_neg (fun z => h2 ⟨z.1.symm, z.2.symm⟩)]
  have e2 : ∀ j, gs y f i v 1 j = y 1 j := fun j => gs_f (Ne.symm h)
  simp only [e1, e2]
theorem wx_other {E : Ev} {ax : Nat → Nat} {an am ai al : Nat} {y : Gd} {f i v : Nat} (h : f = 1 ∨ (f = 0 ∧ i = 1)) : wx E ax an am ai al (gs y f i v) = wx E ax an am ai al y := by
  unfold wx
  have e0 : gs y f i v 0 0 = y 0 0 := by unfold gs; rw [if_neg (by omega)]
  have e1 : gs y f i v 0 2 = y 0 2 := by unfold gs; rw [if_neg (by omega)]
  have e2 : ∀ j, gs y f i v 2 j = y 2 j := fun j => gs_f (by omega)
  have e3 : ∀ j, gs y f i v 3 j = y 3 j := fun j => gs_f (by omega)
  simp only [e0, e1, e2, e3]
/-! calls whose contract says the answer and the world -/
section CALLD
variable {l : Launch} {E : Ev} {own : String} {cc : ByteArray} {nL : Nat} {ret : Option FieldType} {rm : Room} {ini : Bool} {Xt : State → Prop} {QQ : Qe} {w0 : va_W} {ce sl pc : Nat} {lv lv' : List (Nat × Value)} {st : List Value} {w w2 : va_W}
theorem wf_callVD {i n a ci mL : Nat} {y : MethodName} {b : ByteArray} {ret2 : Option FieldType} {rm2 : Room} {As rest : List Value} {fs : List Value} {T : u_T} {N : Nat} {r : Value} (q0 : Nat) (hM : CT l E y b mL ret2 rm2 (.ref a :: As) w (IS (some r) w2)) (hk : CVw own i y b mL ret2 n) (hn : As.length = n) (hR : rm2.frames + 1 ≤ rm.frames ∧ 8 + (mL + 11) + rm2.locals ≤ rm.locals) (hcs : rm2.cells = 0 ∧ rm2.slots = 0 ∧ ce ≤ rm.cells ∧ sl ≤ rm.slots) (hcat : (rest.map fun v => v.category).sum ≤ 8) (he : w[q0]? = some (a, .inr (ci, fs))) (hc : vwCl[ci]? = some (y.cls, T, N)) (hst : st = As.reverse ++ .ref a :: rest) (d : decode cc pc = .ok (.invokevirtual i, 3))
    (k : WF l E own cc nL ret rm ini Xt QQ w0 ce sl (pc + 3) lv (r :: rest) w2) : WF l E own cc nL ret rm ini Xt QQ w0 ce sl pc lv st w := by
  obtain ⟨h1, h2, h3, h4⟩ := hcs
  refine wf_callV q0 hM hk hn hR ⟨by omega, by omega⟩ hcat he hc hst d (fun v w3 hp => ?_)
  obtain ⟨rfl, rfl⟩ := hp
  rw [h1, h2]
  exact k
theorem wf_callVv {i n a ci mL : Nat} {y : MethodName} {b : ByteArray} {ret2 : Option FieldType} {rm2 : Room} {As rest : List Value} {fs : List Value} {T : u_T} {N : Nat} (q0 : Nat) (hM : CT l E y b mL ret2 rm2 (.ref a :: As) w (IS none w2)) (hk : CVw own i y b mL ret2 n) (hn : As.length = n) (hR : rm2.frames + 1 ≤ rm.frames ∧ 8 + (mL + 11) + rm2.locals ≤ rm.locals) (hcs : rm2.cells = 0 ∧ rm2.slots = 0 ∧ ce ≤ rm.cells ∧ sl ≤ rm.slots) (hcat : (rest.map fun v => v.category).sum ≤ 8) (he : w[q0]? = some (a, .inr (ci, fs))) (hc : vwCl[ci]? = some (y.cls, T, N)) (hst : st = As.reverse ++ .ref a :: rest) (d : decode cc pc = .ok (.invokevirtual i, 3))
    (k : WF l E own cc nL ret rm ini Xt QQ w0 ce sl (pc + 3) lv rest w2) : WF l E own cc nL ret rm ini Xt QQ w0 ce sl pc lv st w := by
  obtain ⟨h1, h2, h3, h4⟩ := hcs
  refine wf_callV q0 hM hk hn hR ⟨by omega, by omega⟩ hcat he hc hst d (fun v w3 hp => ?_)
  obtain ⟨rfl, rfl⟩ := hp
  rw [h1, h2]
  exact k
theorem wf_callUD {i n a ci mL : Nat} {C : String} {x y : MethodName} {b : ByteArray} {ret2 : Option FieldType} {rm2 : Room} {As rest : List Value} {fs : List Value} {T : u_T} {N : Nat} {r : Value} (q0 : Nat) (hM : CT l E y b mL ret2 rm2 (.ref a :: As) w (IS (some r) w2)) (hk : CUw own i C x y b mL ret2 n) (hn : As.length = n) (hR : rm2.frames + 1 ≤ rm.frames ∧ 8 + (mL + 11) + rm2.locals ≤ rm.locals) (hcs : rm2.cells = 0 ∧ rm2.slots = 0 ∧ ce ≤ rm.cells ∧ sl ≤ rm.slots) (hcat : (rest.map fun v => v.category).sum ≤ 8) (he : w[q0]? = some (a, .inr (ci, fs))) (hc : vwCl[ci]? = some (C, T, N)) (hst : st = As.reverse ++ .ref a :: rest) (d : decode cc pc = .ok (.invokevirtual i, 3))
    (k : WF l E own cc nL ret rm ini Xt QQ w0 ce sl (pc + 3) lv (r :: rest) w2) : WF l E own cc nL ret rm ini Xt QQ w0 ce sl pc lv st w := by
  obtain ⟨h1, h2, h3, h4⟩ := hcs
  refine wf_callU q0 hM hk hn hR ⟨by omega, by omega⟩ hcat he hc hst d (fun v w3 hp => ?_)
  obtain ⟨rfl, rfl⟩ := hp
  rw [h1, h2]
  exact k
theorem wf_callSD {i n mL : Nat} {y : MethodName} {b : ByteArray} {ret2 : Option FieldType} {rm2 : Room} {As rest : List Value} {r : Value} (hM : CT l E y b mL ret2 rm2 As w (IS (some r) w2)) (hk : CSw own i y b mL ret2 n) (hn : As.length = n) (hR : rm2.frames + 1 ≤ rm.frames ∧ 8 + (mL + 11) + rm2.locals ≤ rm.locals) (hcs : rm2.cells = 0 ∧ rm2.slots = 0 ∧ ce ≤ rm.cells ∧ sl ≤ rm.slots) (hcat : (rest.map fun v => v.category).sum ≤ 8) (hst : st = As.reverse ++ rest) (d : decode cc pc = .ok (.invokestatic i, 3))
    (k : WF l E own cc nL ret rm ini Xt QQ w0 ce sl (pc + 3) lv (r :: rest) w2) : WF l E own cc nL ret rm ini Xt QQ w0 ce sl pc lv st w := by
  obtain ⟨h1, h2, h3, h4⟩ := hcs
  refine wf_callS hM hk hn hR ⟨by omega, by omega⟩ hcat hst d (fun v w3 hp => ?_)
  obtain ⟨rfl, rfl⟩ := hp
  rw [h1, h2]
  exact k
theorem wf_callSv {i n mL : Nat} {y : MethodName} {b : ByteArray} {ret2 : Option FieldType} {rm2 : Room} {As rest : List Value} (hM : CT l E y b mL ret2 rm2 As w (IS none w2)) (hk : CSw own i y b mL ret2 n) (hn : As.length = n) (hR : rm2.frames + 1 ≤ rm.frames ∧ 8 + (mL + 11) + rm2.locals ≤ rm.locals) (hcs : rm2.cells = 0 ∧ rm2.slots = 0 ∧ ce ≤ rm.cells ∧ sl ≤ rm.slots) (hcat : (rest.map fun v => v.category).sum ≤ 8) (hst : st = As.reverse ++ rest) (d : decode cc pc = .ok (.invokestatic i, 3))
    (k : WF l E own cc nL ret rm ini Xt QQ w0 ce sl (pc + 3) lv rest w2) : WF l E own cc nL ret rm ini Xt QQ w0 ce sl pc lv st w := by
  obtain ⟨h1, h2, h3, h4⟩ := hcs
  refine wf_callS hM hk hn hR ⟨by omega, by omega⟩ hcat hst d (fun v w3 hp => ?_)
  obtain ⟨rfl, rfl⟩ := hp
  rw [h1, h2]
  exact k
theorem wf_callNSD {i n mL : Nat} {y : MethodName} {host : String} {b : ByteArray} {ret2 : Option FieldType} {rm2 : Room} {As rest : List Value} {r : Value} (hM : CT l E y b mL ret2 rm2 As w (IS (some r) w2)) (hk : CNSw own i y host b mL ret2 n) (hn : As.length = n) (hR : rm2.frames + 1 ≤ rm.frames ∧ 8 + (mL + 11) + rm2.locals ≤ rm.locals) (hcs : rm2.cells = 0 ∧ rm2.slots = 0 ∧ ce ≤ rm.cells ∧ sl ≤ rm.slots) (hcat : (rest.map fun v => v.category).sum ≤ 8) (hst : st = As.reverse ++ rest) (d : decode cc pc = .ok (.invokestatic i, 3))
    (k : WF l E own cc nL ret rm ini Xt QQ w0 ce sl (pc + 3) lv (r :: rest) w2) : WF l E own cc nL ret rm ini Xt QQ w0 ce sl pc lv st w := by
  obtain ⟨h1, h2, h3, h4⟩ := hcs
  refine wf_callNS hM hk hn hR ⟨by omega, by omega⟩ hcat hst d (fun v w3 hp => ?_)
  obtain ⟨rfl, rfl⟩ := hp
  rw [h1, h2]
  exact k
theorem wf_callStrD {i n i0 mL : Nat} {y : MethodName} {b : ByteArray} {ret2 : Option FieldType} {rm2 : Room} {As rest : List Value} {r : Value} (hi0 : i0 < 5) (hM : CT l E y b mL ret2 rm2 (.ref (E.2.2.1 i0) :: As) w (IS (some r) w2)) (hk : CVw own i y b mL ret2 n) (hn : As.length = n) (hR : rm2.frames + 1 ≤ rm.frames ∧ 8 + (mL + 11) + rm2.locals ≤ rm.locals) (hcs : rm2.cells = 0 ∧ rm2.slots = 0 ∧ ce ≤ rm.cells ∧ sl ≤ rm.slots) (hcat : (rest.map fun v => v.category).sum ≤ 8) (hc : y.cls = "java/lang/String") (hst : st = As.reverse ++ .ref (E.2.2.1 i0) :: rest) (d : decode cc pc = .ok (.invokevirtual i, 3))
    (k : WF l E own cc nL ret rm ini Xt QQ w0 ce sl (pc + 3) lv (r :: rest) w2) : WF l E own cc nL ret rm ini Xt QQ w0 ce sl pc lv st w := by
  obtain ⟨h1, h2, h3, h4⟩ := hcs
  refine wf_callStr hi0 hM hk hn hR ⟨by omega, by omega⟩ hcat hc hst d (fun v w3 hp => ?_)
  obtain ⟨rfl, rfl⟩ := hp
  rw [h1, h2]
  exact k
theorem wf_top {x y : Value} (h : x = y) (k : WF l E own cc nL ret rm ini Xt QQ w0 ce sl pc lv (y :: st) w) : WF l E own cc nL ret rm ini Xt QQ w0 ce sl pc lv (x :: st) w := h ▸ k
end CALLD
/-! bits -/
theorem nI_land {a b : Nat} (ha : a < 2 ^ 31) (hb : b < 2 ^ 31) : nI a &&& nI b = nI (a &&& b) := by
  apply Int32.toBitVec_inj.mp
  show (nI a).toBitVec &&& (nI b).toBitVec = (nI (a &&& b)).toBitVec
  apply BitVec.eq_of_toNat_eq
  have hab : a &&& b < 2 ^ 31 := Nat.lt_of_le_of_lt Nat.and_le_left ha
  rw [BitVec.toNat_and, pk_tn (by omega), pk_tn (by omega), pk_tn (by omega)]
theorem nI_lor {a b : Nat} (ha : a < 2 ^ 31) (hb : b < 2 ^ 31) : nI a ||| nI b = nI (a ||| b) := by
  apply Int32.toBitVec_inj.mp
  show (nI a).toBitVec ||| (nI b).toBitVec = (nI (a ||| b)).toBitVec
  apply BitVec.eq_of_toNat_eq
  have hab : a ||| b < 2 ^ 31 := Nat.or_lt_two_pow ha hb
  rw [BitVec.toNat_or, pk_tn (by omega), pk_tn (by omega), pk_tn (by omega)]
def ldf (a b : Nat) : Nat := a ^^^ (a &&& b)
theorem ldf_le (a b : Nat) : ldf a b ≤ a := by
  unfold ldf
  have : (a ^^^ (a &&& b)) = a &&& (a ^^^ (a &&& b)) := by
    apply Nat.eq_of_testBit_eq; intro i
    simp only [Nat.testBit_and, Nat.testBit_xor]
    cases a.testBit i <;> cases b.testBit i <;> rfl
  rw [this]; exact Nat.and_le_left
theorem ldf_bit (a b i : Nat) : (ldf a b).testBit i = (a.testBit i && !b.testBit i) := by
  unfold ldf
  simp only [Nat.testBit_and, Nat.testBit_xor]
  cases a.testBit i <;> cases b.testBit i <;> rfl
theorem nI_andn {a b : Nat} (ha : a < 2 ^ 31) (hb : b < 2 ^ 31) : nI a &&& (nI b ^^^ -1) = nI (ldf a b) := by
  apply Int32.toBitVec_inj.mp
  show (nI a).toBitVec &&& ((nI b).toBitVec ^^^ (-1 : Int32).toBitVec) = (nI (ldf a b)).toBitVec
  apply BitVec.eq_of_getLsbD_eq
  intro i hi
  have hl : ldf a b < 2 ^ 31 := Nat.lt_of_le_of_lt (ldf_le a b) ha
  have e1 : ∀ n, n < 2 ^ 31 → (nI n).toBitVec.getLsbD i = n.testBit i := fun n hn => by
    rw [BitVec.getLsbD, pk_tn (by omega)]
  have e2 : (-1 : Int32).toBitVec.getLsbD i = true := by
    have : (-1 : Int32).toBitVec = BitVec.allOnes 32 := by decide
    rw [this, BitVec.getLsbD_allOnes]; exact decide_eq_true hi
  rw [BitVec.getLsbD_and, BitVec.getLsbD_xor, e1 a ha, e1 b hb, e1 _ hl, e2, ldf_bit]
  cases a.testBit i <;> cases b.testBit i <;> rfl
theorem sh_smod : ∀ b, b < 32 → ((nI b &&& 31).toBitVec.smod 32).toNat = b := by decide +kernel
theorem nI_shr {a b : Nat} (ha : a < 2 ^ 31) (hb : b < 32) : nI a >>> (nI b &&& 31) = nI (a >>> b) := by
  rw [pk_shrN ha _ b (sh_smod b hb), Nat.shiftRight_eq_div_pow]
theorem nI_shl {a b : Nat} (hb : b < 32) (h : a <<< b < 2 ^ 31) : nI a <<< (nI b &&& 31) = nI (a <<< b) := by
  rw [Nat.shiftLeft_eq] at h ⊢
  exact pk_shlN _ b (sh_smod b hb) (by omega)
theorem and1 (x : Nat) : x &&& 1 < 2 := Nat.lt_of_le_of_lt Nat.and_le_right (by omega)
theorem and1_bit (x i : Nat) : (x >>> i) &&& 1 = 1 ↔ x.testBit i = true := by
  rw [Nat.testBit, Nat.and_comm]
  simp [Nat.one_and_eq_mod_two]
  try omega
end
section
/-! PURE: what a garden does, in numbers. -/
def eGone (g : Gd) (w : Nat) : Bool := decide ((g 9 2 >>> w) &&& 1 = 1)
def eWat (g : Gd) (w h : Nat) : Bool := decide (h < 8) && decide ((g 8 h >>> w) &&& 1 = 1)
def eStr (g : Gd) (w : Nat) : Nat := g 0 w - g 7 (g 1 w)
def eMay (g : Gd) (w t : Nat) : Bool := decide (g 9 3 < 8) && !eGone g w && !eWat g w (g 9 3) && decide (t ≤ eStr g w)
def eRch (g : Gd) (k w : Nat) : Bool := decide (k ≠ 5) || decide (w = 0) || eGone g (w - 1)
def ePrf (g : Gd) (k w c : Nat) : Bool := if k = 1 then false else if k = 3 then true else if k = 2 ∨ k = 5 then decide (eStr g w < eStr g c) else decide (eStr g c < eStr g w)
def eStep (g : Gd) (k t n : Nat) (c : Option Nat) : Option Nat := if eMay g n t && eRch g k n then (match c with | none => some n | some c0 => if ePrf g k n c0 then some n else some c0) else c
def eCh (g : Gd) (k t : Nat) : Nat → Option Nat
  | 0 => none
  | n + 1 => eStep g k t n (eCh g k t n)
def eO (c : Option Nat) : Int32 := match c with
  | none => -9
  | some w => nI w
def eCho (g : Gd) (k t : Nat) : Option Nat := eCh g k t (g 9 0)
def eGo (g : Gd) (c : Option Nat) : Gd := match c with
  | none => g
  | some w => gs g 9 2 (g 9 2 ||| (1 <<< w))
def eEat (g : Gd) (b : Nat) : Gd := eGo g (eCho g (g 3 b) (g 4 b))
def eEats (g : Gd) (b : Nat) : Nat → Gd
  | 0 => g
  | n + 1 => eEat (eEats g b n) b
def eMeals (g : Gd) (b : Nat) : Nat := if g 5 b ≤ g 9 3 ∧ g 9 3 ≤ g 6 b then (if g 3 b = 4 then 2 else 1) else 0
def eBirds (g : Gd) : Nat → Gd
  | 0 => g
  | n + 1 => eEats (eBirds g n) n (eMeals g n)
def eHr (g : Gd) : Gd := if 8 ≤ g 9 3 then g else gs (eBirds g (g 9 1)) 9 3 (g 9 3 + 1)
def eHrs (g : Gd) : Nat → Gd
  | 0 => g
  | n + 1 => eHr (eHrs g n)
def eDk (g : Gd) : Gd := eHrs g (8 - g 9 3)
def eAll (g : Gd) : Nat := 1 <<< g 9 0 - 1
def eLeft (g : Gd) : Nat := ldf (eAll g) (g 9 2)
def eCnt (x : Nat) : Nat → Nat
  | 0 => 0
  | k + 1 => eCnt x k + ((x >>> k) &&& 1)
def eBits (x : Nat) : Nat := eCnt x 10
def eLeftN (g : Gd) : Nat := eBits (eLeft g)
/-- in which hour, of the n that come, a word goes; 8 none -/
def eGoes (g : Gd) (w : Nat) : Nat → Nat
  | 0 => 8
  | n + 1 => if eGone (eHr g) w then g 9 3 else eGoes (eHr g) w n
def eOf (g : Gd) (m : Nat) : Nat → Nat
  | 0 => 0
  | n + 1 => eOf g m n + (if eGone g n = false ∧ g 2 n = m then 1 else 0)
def eMean (g : Gd) : Nat → Nat
  | 0 => 0
  | n + 1 => if eGone g n then eMean g n else eMean g n ||| (1 <<< g 2 n)
def eSum (g : Gd) : Nat → Nat
  | 0 => 0
  | n + 1 => eSum g n + (if eGone g n then 0 else eStr g n)
/-- the first place where a row of ln is otherwise: words from w on, the place p; none -/
def eOther (g : Gd) (row : Nat → Nat) (ln : Nat) : Nat → Nat → Nat → Option Nat
  | 0, _, p => if p < ln then some p else none
  | n + 1, w, p => if eGone g w then eOther g row ln n (w + 1) p else if ln ≤ p ∨ row p ≠ g 2 w then some p else eOther g row ln n (w + 1) (p + 1)
def eHas (x : Int32) (n : Nat) : Bool := decide (0 ≤ x) && decide (x < nI n)
def eHasS (g : Gd) (x : Int32) : Bool := decide (0 ≤ x) && decide (x ≤ nI (eAll g))
def Inv (g : Gd) : Prop := g 9 0 ≤ 10 ∧ g 9 1 ≤ 4 ∧ g 9 2 < 2 ^ g 9 0 ∧ g 9 3 ≤ 8 ∧ (∀ i, g 0 i ≤ 9) ∧ (∀ i, g 1 i ≤ 2) ∧ (∀ i, g 2 i ≤ 9) ∧ (∀ i, g 3 i ≤ 5) ∧ (∀ i, g 4 i ≤ 99) ∧ (∀ i, g 5 i ≤ 8) ∧ (∀ i, g 6 i ≤ 7) ∧ (∀ i, g 7 i ≤ 9) ∧ (∀ i, g 8 i < 2 ^ g 9 0)
theorem Inv.words {g : Gd} (h : Inv g) : g 9 0 ≤ 10 := h.1
theorem Inv.birds {g : Gd} (h : Inv g) : g 9 1 ≤ 4 := h.2.1
theorem Inv.goneW {g : Gd} (h : Inv g) : g 9 2 < 2 ^ g 9 0 := h.2.2.1
theorem Inv.hour {g : Gd} (h : Inv g) : g 9 3 ≤ 8 := h.2.2.2.1
theorem Inv.sweet {g : Gd} (h : Inv g) (i : Nat) : g 0 i ≤ 9 := h.2.2.2.2.1 i
theorem Inv.ink {g : Gd} (h : Inv g) (i : Nat) : g 1 i ≤ 2 := h.2.2.2.2.2.1 i
theorem Inv.mean {g : Gd} (h : Inv g) (i : Nat) : g 2 i ≤ 9 := h.2.2.2.2.2.2.1 i
theorem Inv.kind {g : Gd} (h : Inv g) (i : Nat) : g 3 i ≤ 5 := h.2.2.2.2.2.2.2.1 i
theorem Inv.taste {g : Gd} (h : Inv g) (i : Nat) : g 4 i ≤ 99 := h.2.2.2.2.2.2.2.2.1 i
theorem Inv.fro {g : Gd} (h : Inv g) (i : Nat) : g 5 i ≤ 8 := h.2.2.2.2.2.2.2.2.2.1 i
theorem Inv.til {g : Gd} (h : Inv g) (i : Nat) : g 6 i ≤ 7 := h.2.2.2.2.2.2.2.2.2.2.1 i
theorem Inv.bitter {g : Gd} (h : Inv g) (i : Nat) : g 7 i ≤ 9 := h.2.2.2.2.2.2.2.2.2.2.2.1 i
theorem Inv.watW {g : Gd} (h : Inv g) (i : Nat) : g 8 i < 2 ^ g 9 0 := h.2.2.2.2.2.2.2.2.2.2.2.2 i
theorem pw10 {n : Nat} (hn : n ≤ 10) : 2 ^ n ≤ 1024 := Nat.le_trans (Nat.pow_le_pow_right (by decide) hn) (by decide)
theorem Inv.gone {g : Gd} (h : Inv g) : g 9 2 < 1024 := Nat.lt_of_lt_of_le h.goneW (pw10 h.words)
theorem Inv.wat {g : Gd} (h : Inv g) (i : Nat) : g 8 i < 1024 := Nat.lt_of_lt_of_le (h.watW i) (pw10 h.words)
theorem Inv.str {g : Gd} (h : Inv g) (i : Nat) : eStr g i ≤ 9 := Nat.le_trans (Nat.sub_le _ _) (h.sweet i)
theorem Inv.allW {g : Gd} (h : Inv g) : eAll g = 2 ^ g 9 0 - 1 := by unfold eAll; rw [Nat.shiftLeft_eq, Nat.one_mul]
theorem Inv.all {g : Gd} (h : Inv g) : eAll g < 1024 := by have := h.allW; have := pw10 h.words; omega
theorem Inv.left {g : Gd} (h : Inv g) : eLeft g < 1024 := Nat.lt_of_le_of_lt (ldf_le _ _) h.all
theorem eCnt_le (x k : Nat) : eCnt x k ≤ k := by
  induction k with
  | zero => exact Nat.le_refl _
  | succ k ih => have := and1 (x >>> k); show eCnt x k + _ ≤ _; omega
theorem eBits_le (x : Nat) : eBits x ≤ 10 := eCnt_le x 10
theorem eOf_le (g : Gd) (m k : Nat) : eOf g m k ≤ k := by
  induction k with
  | zero => exact Nat.le_refl _
  | succ k ih => show eOf g m k + _ ≤ _; split <;> omega
theorem eMean_lt {g : Gd} (h : Inv g) (k : Nat) : eMean g k < 1024 := by
  induction k with
  | zero => show 0 < 1024; decide
  | succ k ih =>
    show (if eGone g k then _ else _) < 1024
    split
    · exact ih
    · refine Nat.or_lt_two_pow (n := 10) ih ?_
      rw [Nat.shiftLeft_eq, Nat.one_mul]
      exact Nat.pow_lt_pow_right (by decide) (by have := h.mean k; omega)
theorem eSum_le {g : Gd} (h : Inv g) (k : Nat) : eSum g k ≤ 9 * k := by
  induction k with
  | zero => exact Nat.le_refl _
  | succ k ih => show eSum g k + _ ≤ _; have := h.str k; split <;> omega
theorem eStep_lt {g : Gd} {k t n : Nat} {c : Option Nat} (hc : ∀ w, c = some w → w < n) : ∀ w, eStep g k t n c = some w → w < n + 1 := by
  intro w hw
  unfold eStep at hw
  split at hw
  · cases c with
    | none => cases hw; omega
    | some c0 =>
      have := hc c0 rfl
      dsimp only at hw
      split at hw <;> (cases hw; omega)
  · have := hc w hw; omega
theorem eCh_lt (g : Gd) (k t n : Nat) : ∀ w, eCh g k t n = some w → w < n := by
  induction n with
  | zero => intro w h; cases h
  | succ n ih => exact eStep_lt ih
/-! what an eating changes: who is gone alone -/
theorem eGo_f {g : Gd} {c : Option Nat} {f i : Nat} (h : ¬ (f = 9 ∧ i = 2)) : eGo g c f i = g f i := by
  cases c with
  | none => rfl
  | some w => simp [eGo, gs, h]
theorem eEats_f {g : Gd} {b n f i : Nat} (h : ¬ (f = 9 ∧ i = 2)) : eEats g b n f i = g f i := by
  induction n with
  | zero => rfl
  | succ n ih => exact (eGo_f h).trans ih
theorem eBirds_f {g : Gd} {n f i : Nat} (h : ¬ (f = 9 ∧ i = 2)) : eBirds g n f i = g f i := by
  induction n with
  | zero => rfl
  | succ n ih => exact (eEats_f h).trans ih
theorem eHr_f {g : Gd} {f i : Nat} (h : ¬ (f = 9 ∧ i = 2)) (h2 : ¬ (f = 9 ∧ i = 3)) : eHr g f i = g f i := by
  unfold eHr
  split
  · rfl
  · rw [show gs (eBirds g (g 9 1)) 9 3 (g 9 3 + 1) f i = eBirds g (g 9 1) f i by simp [gs, h2]]
    exact eBirds_f h
theorem Inv.of_gone {g g' : Gd} (h : Inv g) (hf : ∀ f i, ¬ (f = 9 ∧ i = 2) → g' f i = g f i) (hg : g' 9 2 < 2 ^ g 9 0) : Inv g' := by
  have e : ∀ f i, f ≠ 9 → g' f i = g f i := fun f i hn => hf f i (fun z => hn z.1)
  have e0 : g' 9 0 = g 9 0 := hf 9 0 (by decide)
  have e1 : g' 9 1 = g 9 1 := hf 9 1 (by decide)
  have e3 : g' 9 3 = g 9 3 := hf 9 3 (by decide)
  refine ⟨by rw [e0]; exact h.words, by rw [e1]; exact h.birds, by rw [e0]; exact hg, by rw [e3]; exact h.hour, fun i => ?_, fun i => ?_, fun i => ?_, fun i => ?_, fun i => ?_, fun i => ?_, fun i => ?_, fun i => ?_, fun i => ?_⟩
  · rw [e 0 i (by decide)]; exact h.sweet i
  · rw [e 1 i (by decide)]; exact h.ink i
  · rw [e 2 i (by decide)]; exact h.mean i
  · rw [e 3 i (by decide)]; exact h.kind i
  · rw [e 4 i (by decide)]; exact h.taste i
  · rw [e 5 i (by decide)]; exact h.fro i
  · rw [e 6 i (by decide)]; exact h.til i
  · rw [e 7 i (by decide)]; exact h.bitter i
  · rw [e 8 i (by decide), e0]; exact h.watW i
theorem Inv.oGo {g : Gd} (h : Inv g) {c : Option Nat} (hc : ∀ w, c = some w → w < g 9 0) : Inv (eGo g c) := by
  refine h.of_gone (fun f i hn => eGo_f hn) ?_
  cases c with
  | none => exact h.goneW
  | some w =>
    show gs g 9 2 _ 9 2 < _
    rw [gs_eq]
    refine Nat.or_lt_two_pow h.goneW ?_
    rw [Nat.shiftLeft_eq, Nat.one_mul]
    exact Nat.pow_lt_pow_right (by decide) (hc w rfl)
theorem Inv.oEat {g : Gd} (h : Inv g) (b : Nat) : Inv (eEat g b) := h.oGo (eCh_lt _ _ _ _)
theorem Inv.oEats {g : Gd} (h : Inv g) (b n : Nat) : Inv (eEats g b n) := by
  induction n with
  | zero => exact h
  | succ n ih => exact ih.oEat b
theorem Inv.oBirds {g : Gd} (h : Inv g) (n : Nat) : Inv (eBirds g n) := by
  induction n with
  | zero => exact h
  | succ n ih => exact ih.oEats n _
theorem Inv.oHr {g : Gd} (h : Inv g) : Inv (eHr g) := by
  have hb := h.oBirds (g 9 1)
  unfold eHr
  split
  · exact h
  · obtain ⟨b0, b1, b2, b3, b⟩ := hb
    exact ⟨b0, b1, b2, by show g 9 3 + 1 ≤ 8; omega, b⟩
theorem Inv.oHrs {g : Gd} (h : Inv g) (n : Nat) : Inv (eHrs g n) := by
  induction n with
  | zero => exact h
  | succ n ih => exact ih.oHr
theorem eHr_hour {g : Gd} (h : g 9 3 < 8) : eHr g 9 3 = g 9 3 + 1 := by
  unfold eHr; rw [if_neg (by omega)]; exact gs_eq _ _ _ _
theorem eHrs_hour {g : Gd} (n : Nat) (h : g 9 3 + n ≤ 8) : eHrs g n 9 3 = g 9 3 + n := by
  induction n with
  | zero => rfl
  | succ n ih =>
    have := ih (by omega)
    show eHr (eHrs g n) 9 3 = _
    rw [eHr_hour (by omega), this]; omega
theorem eHrs_f {g : Gd} {n f i : Nat} (h : ¬ (f = 9 ∧ i = 2)) (h2 : ¬ (f = 9 ∧ i = 3)) : eHrs g n f i = g f i := by
  induction n with
  | zero => rfl
  | succ n ih => exact (eHr_f h h2).trans ih
theorem eHrs_left (g : Gd) (n : Nat) : eHrs (eHr g) n = eHrs g (n + 1) := by
  induction n with
  | zero => rfl
  | succ n ih => show eHr (eHrs (eHr g) n) = eHr (eHrs g (n + 1)); rw [ih]
theorem ii_min {a b : Nat} (ha : a < 2 ^ 31) (hb : b < 2 ^ 31) : (if nI b < nI a then nI b else nI a) = nI (min a b) := by
  rcases Nat.lt_or_ge b a with h | h
  · rw [if_pos (nI_lt h ha), Nat.min_eq_right (by omega)]
  · rw [if_neg (nI_nlt h hb), Nat.min_eq_left h]
theorem ii_max {a b : Nat} (ha : a < 2 ^ 31) (hb : b < 2 ^ 31) : (if nI a < nI b then nI b else nI a) = nI (max a b) := by
  rcases Nat.lt_or_ge a b with h | h
  · rw [if_pos (nI_lt h hb), Nat.max_eq_right (by omega)]
  · rw [if_neg (nI_nlt h ha), Nat.max_eq_left h]
theorem ne9 {a : Nat} (h : a < 2 ^ 31) : ¬ nI a = -9 := by
  intro e
  have h1 := congrArg Int32.toInt e
  rw [nI_toInt h] at h1
  have h2 : (-9 : Int32).toInt = -9 := by decide
  omega
theorem b1_one {b : Bool} (h : b = true) : nI 1 = bI b := by rw [h]; decide
theorem b1_zero {b : Bool} (h : b = false) : nI 0 = bI b := by rw [h]; decide
theorem nI_sub_lt {a b : Nat} (ha : a < 2 ^ 30) (hb : b < 2 ^ 30) : 0 ≤ nI a - nI b ↔ b ≤ a := by
  rw [Int32.le_iff_toInt_le, pk_sub_toInt ha hb]
  show (0 : Int) ≤ _ ↔ _
  omega
theorem nI_subZ {a b : Nat} (h : b ≤ a) : nI a - nI b = nI (a - b) := pk_sub h
end
section
/-! whole rows copied -/
theorem cell_cpy (cA : ClassId) (n : Nat) (f g : Nat → Int32) : vp_cell cA (n, .inl (va_cpy f g 0 0 n)) = vp_cell cA (n, .inl f) := by
  show arrV cA n (fun j => .int (va_cpy f g 0 0 n j)) = arrV cA n (fun j => .int (f j))
  unfold arrV
  congr 1
  apply congrArg
  funext j
  have : va_cpy f g 0 0 n j.val = f j.val := by
    unfold va_cpy
    rw [if_pos ⟨Nat.zero_le _, by have := j.isLt; omega⟩]
    congr 1
    omega
  exact congrArg Value.int this
theorem P_cell {D : va_G} {cl : List vw_C} {w : va_W} {q a : Nat} {x y : ClassId × vp_A} {H : Heap} (h : vp_cell x.1 x.2 = vp_cell y.1 y.2) (hP : va_P D cl (w.set q (a, .inl x)) H) : va_P D cl (w.set q (a, .inl y)) H := by
  intro k z hk
  rw [List.getElem?_set] at hk
  have h1 := hP k
  rw [List.getElem?_set] at h1
  by_cases e : q = k
  · rw [if_pos e] at hk h1
    by_cases e2 : q < w.length
    · rw [if_pos (by omega)] at hk h1
      cases hk
      have h2 := h1 _ rfl
      show H[a]? = some (vp_cell y.1 y.2)
      rw [← h]; exact h2
    · rw [if_neg (by omega)] at hk; cases hk
  · rw [if_neg e] at hk h1
    exact h1 z hk
theorem D_cell {A : Nat → Prop} {w : va_W} {q a : Nat} {x y : va_E} (hD : va_D A (w.set q (a, x))) : va_D A (w.set q (a, y)) := by
  have key : ∀ (k : Nat) (z : Nat × va_E), (w.set q (a, y))[k]? = some z → ∃ z', (w.set q (a, x))[k]? = some z' ∧ z'.1 = z.1 := by
    intro k z hk
    rw [List.getElem?_set] at hk ⊢
    by_cases e : q = k
    · rw [if_pos e] at hk ⊢
      by_cases e2 : q < w.length
      · rw [if_pos (by omega)] at hk ⊢
        cases hk
        exact ⟨_, rfl, rfl⟩
      · rw [if_neg (by omega)] at hk; cases hk
    · rw [if_neg e] at hk ⊢
      exact ⟨z, hk, rfl⟩
  refine ⟨fun i j p q hi hj e => ?_, fun k z hk => ?_⟩
  · obtain ⟨p', h1, h2⟩ := key i p hi
    obtain ⟨q', h3, h4⟩ := key j q hj
    exact hD.1 i j p' q' h1 h3 (by rw [h2, h4]; exact e)
  · obtain ⟨z', h1, h2⟩ := key k z hk
    rw [← h2]; exact hD.2 k z' h1
section CPY
variable {l : Launch} {E : Ev} {own : String} {cc : ByteArray} {nL : Nat} {ret : Option FieldType} {rm : Room} {ini : Bool} {Xt : State → Prop} {QQ : Qe} {w0 : va_W} {ce sl pc : Nat} {lv lv' : List (Nat × Value)} {st : List Value} {w w2 : va_W}
theorem wf_copyg {i a a0 n : Nat} {f g : Nat → Int32} (q0 q1 n' : Nat) (w' : va_W) (hk : Cond.methodLink own i arraycopyName ∈ TBg ∧ Cond.native arraycopyName ∈ TBg ∧ Cond.static arraycopyName ∈ TBg ∧ Cond.initialized "java/lang/System" ∈ TBg) (he0 : w[q0]? = some (a0, .inl (E.2.1.1, n, .inl f))) (he1 : w[q1]? = some (a, .inl (E.2.1.1, n, .inl g))) (h6 : n' = n ∧ n ≤ 1024) (hf : 1 ≤ rm.frames) (hlo : (st.map fun v => v.category).sum + (nativeFrameWords "java/lang/System" "arraycopy" 5 + 11) ≤ rm.locals) (hw : w.set q1 (a, .inl (E.2.1.1, n, .inl f)) = w') (d : decode cc pc = .ok (.invokestatic i, 3)) (k : WF l E own cc nL ret rm ini Xt QQ w0 ce sl (pc + 3) lv st w') : WF l E own cc nL ret rm ini Xt QQ w0 ce sl pc lv (.int (nI n') :: .int (nI 0) :: .ref a :: .int (nI 0) :: .ref a0 :: st) w := by
  obtain ⟨rfl, h6⟩ := h6
  subst hw
  refine wf_copyi q0 q1 n' _ hk he0 he1 (Nat.le_refl _) (Nat.le_refl _) h6 hf hlo rfl d ?_
  intro p e s m args below meth c H locs ls hC hl hP hD hS
  exact k p e s m args below meth c H locs ls hC hl (P_cell (cell_cpy _ _ _ _) hP) (D_cell hD) hS
end CPY
theorem eS_no1 {g : Gd} {k t n : Nat} (h : eMay g n t = false) : eCh g k t (n + 1) = eCh g k t n := by
  show eStep _ _ _ _ _ = _
  unfold eStep; rw [h]; rfl
theorem eS_no2 {g : Gd} {k t n : Nat} (h : eRch g k n = false) : eCh g k t (n + 1) = eCh g k t n := by
  show eStep _ _ _ _ _ = _
  unfold eStep; rw [h, Bool.and_false]; rfl
theorem eS_new {g : Gd} {k t n : Nat} (h1 : eMay g n t = true) (h2 : eRch g k n = true) (hc : eCh g k t n = none) : eCh g k t (n + 1) = some n := by
  show eStep _ _ _ _ _ = _
  unfold eStep; rw [h1, h2, hc]; rfl
theorem eS_prf {g : Gd} {k t n c : Nat} (h1 : eMay g n t = true) (h2 : eRch g k n = true) (hc : eCh g k t n = some c) (hp : ePrf g k n c = true) : eCh g k t (n + 1) = some n := by
  show eStep _ _ _ _ _ = _
  unfold eStep; rw [h1, h2, hc]; simp [hp]
theorem eS_not {g : Gd} {k t n c : Nat} (h1 : eMay g n t = true) (h2 : eRch g k n = true) (hc : eCh g k t n = some c) (hp : ePrf g k n c = false) : eCh g k t (n + 1) = some c := by
  show eStep _ _ _ _ _ = _
  unfold eStep; rw [h1, h2, hc]; simp [hp]
theorem eHas_n {j n : Nat} (hj : j < 2 ^ 31) (hn : n < 2 ^ 31) : eHas (nI j) n = decide (j < n) := by
  unfold eHas
  rw [decide_eq_true (nI_pos' hj), Bool.true_and]
  by_cases h : j < n
  · rw [decide_eq_true h, decide_eq_true (nI_lt h hn)]
  · rw [decide_eq_false h, decide_eq_false (nI_nlt (by omega) hj)]
theorem eHas_i {x : Int32} {n : Nat} (hn : n < 2 ^ 31) (h : eHas x n = true) : ∃ j, j < n ∧ x = nI j := by
  unfold eHas at h
  rw [Bool.and_eq_true, decide_eq_true_eq, decide_eq_true_eq] at h
  obtain ⟨j, hj, rfl⟩ := nI_of (Int32.not_lt.mpr h.1)
  exact ⟨j, (nI_ltI hj hn).mp h.2, rfl⟩
theorem eHr_dusk {g : Gd} (h : 8 ≤ g 9 3) : eHr g = g := by unfold eHr; rw [if_pos h]
section LVC
variable {l : Launch} {E : Ev} {own : String} {cc : ByteArray} {nL : Nat} {ret : Option FieldType} {rm : Room} {ini : Bool} {Xt : State → Prop} {QQ : Qe} {w0 : va_W} {ce sl pc : Nat} {lv : List (Nat × Value)} {st : List Value} {w w2 : va_W}
/-- the locals in other words -/
theorem wf_lvc (lv' : List (Nat × Value)) (h : lv = lv') (k : WF l E own cc nL ret rm ini Xt QQ w0 ce sl pc lv' st w) : WF l E own cc nL ret rm ini Xt QQ w0 ce sl pc lv st w := h ▸ k
end LVC
end
section
abbrev rmX2_isGone : Room := { frames := 0, cells := 0, slots := 0, locals := 0 }
set_option maxHeartbeats 4000000 in
set_option maxRecDepth 100000 in
theorem c_X2_isGone {l : Launch} {E : Ev} {w : Nat} {g : Gd} {a kk : Nat → Nat} {r : va_W} (hI : Inv g) (hw : w < 10) : CT l E yX2_isGone cX2_isGone 2 (some .boolean) rmX2_isGone [.ref (a 0), .int (nI w)] (wg E (kk 6) a g ++ (wk E kk ++ r)) (IS (some (.int (bI (eGone g w)))) (wg E (kk 6) a g ++ (wk E kk ++ r))) := by
  refine CT.of (lv := [(0, .ref (a 0)), (1, .int (nI w))]) false (by decide +kernel) (by decide) (Nat.le_of_ble_eq_true rfl) rfl ?_
  have f0 := hI.words
  have f1 := hI.birds
  have f2 := hI.gone
  have f3 := hI.hour
  refine wf_aload_n 0 dX2_isGone_0 rfl ?_
  refine wf_getf (C := RX2) (T := TX2) (N := 14) (v := .int (nI (g 9 2))) 0 12 in_X2 rfl rfl (by decide) fl_X2_56 rfl dX2_isGone_1 ?_
  refine wf_iload_n 1 dX2_isGone_4 rfl ?_
  refine wf_ishr (nI ((g 9 2) >>> w)) dX2_isGone_5 (nI_shr (by omega) (by omega)) ?_
  refine wf_iconst (nI 1) dX2_isGone_6 (by decide) ?_
  refine wf_iand (nI (((g 9 2) >>> w) &&& 1)) dX2_isGone_7 (nI_land (Nat.lt_of_le_of_lt (Nat.shiftRight_le _ _) (by omega)) (by decide)) ?_
  refine wf_iconst (nI 1) dX2_isGone_8 (by decide) ?_
  refine wf_icmp_ne_n 16 dX2_isGone_9 (by decide) (Nat.lt_trans (and1 _) (by decide)) (by decide) (fun c9 => ?_) (fun c9 => ?_)
  · refine wf_iconst (nI 0) dX2_isGone_16 (by decide) ?_
    exact wf_iret .boolean rfl (by decide) ⟨rfl, rfl⟩ ⟨congrArg (fun z => some (Value.int z)) (b1_zero (decide_eq_false c9)), rfl⟩ dX2_isGone_17
  · refine wf_iconst (nI 1) dX2_isGone_12 (by decide) ?_
    refine wf_goto 17 dX2_isGone_13 (by decide) ?_
    exact wf_iret .boolean rfl (by decide) ⟨rfl, rfl⟩ ⟨congrArg (fun z => some (Value.int z)) (b1_one (decide_eq_true c9)), rfl⟩ dX2_isGone_17
abbrev rmX2_isWatched : Room := { frames := 0, cells := 0, slots := 0, locals := 0 }
set_option maxHeartbeats 4000000 in
set_option maxRecDepth 100000 in
theorem c_X2_isWatched {l : Launch} {E : Ev} {w h : Nat} {g : Gd} {a kk : Nat → Nat} {r : va_W} (hI : Inv g) (hw : w < 10) (hh : h ≤ 8) : CT l E yX2_isWatched cX2_isWatched 3 (some .boolean) rmX2_isWatched [.ref (a 0), .int (nI w), .int (nI h)] (wg E (kk 6) a g ++ (wk E kk ++ r)) (IS (some (.int (bI (eWat g w h)))) (wg E (kk 6) a g ++ (wk E kk ++ r))) := by
  refine CT.of (lv := [(0, .ref (a 0)), (1, .int (nI w)), (2, .int (nI h))]) false (by decide +kernel) (by decide) (Nat.le_of_ble_eq_true rfl) rfl ?_
  have f0 := hI.words
  have f1 := hI.birds
  have f2 := hI.gone
  have f3 := hI.hour
  refine wf_iload_n 2 dX2_isWatched_0 rfl ?_
  refine wf_if_lt 28 dX2_isWatched_1 (by decide) (fun c1 => ?_) (fun c1 => ?_)
  · exact absurd c1 (nI_pos (by omega))
  · refine wf_iload_n 2 dX2_isWatched_4 rfl ?_
    refine wf_bipush (nI 8) dX2_isWatched_5 (by decide) ?_
    refine wf_icmp_ge_n 28 dX2_isWatched_7 (by decide) (by omega) (by omega) (fun c7 => ?_) (fun c7 => ?_)
    · refine wf_iconst (nI 0) dX2_isWatched_28 (by decide) ?_
      exact wf_iret .boolean rfl (by decide) ⟨rfl, rfl⟩ ⟨congrArg (fun z => some (Value.int z)) (b1_zero (by unfold eWat; rw [decide_eq_false (by omega), Bool.false_and])), rfl⟩ dX2_isWatched_29
    · refine wf_aload_n 0 dX2_isWatched_10 rfl ?_
      refine wf_getf (C := RX2) (T := TX2) (N := 14) (v := .ref (a 9)) 0 11 in_X2 rfl rfl (by decide) fl_X2_36 rfl dX2_isWatched_11 ?_
      refine wf_iload_n 2 dX2_isWatched_14 rfl ?_
      refine wf_iald_n (nI (g 8 h)) 9 rfl (by omega) (by decide) rfl dX2_isWatched_15 ?_
      refine wf_iload_n 1 dX2_isWatched_16 rfl ?_
      refine wf_ishr (nI ((g 8 h) >>> w)) dX2_isWatched_17 (nI_shr (by have := hI.wat h; omega) (by omega)) ?_
      refine wf_iconst (nI 1) dX2_isWatched_18 (by decide) ?_
      refine wf_iand (nI (((g 8 h) >>> w) &&& 1)) dX2_isWatched_19 (nI_land (Nat.lt_of_le_of_lt (Nat.shiftRight_le _ _) (by have := hI.wat h; omega)) (by decide)) ?_
      refine wf_iconst (nI 1) dX2_isWatched_20 (by decide) ?_
      refine wf_icmp_ne_n 28 dX2_isWatched_21 (by decide) (Nat.lt_trans (and1 _) (by decide)) (by decide) (fun c21 => ?_) (fun c21 => ?_)
      · refine wf_iconst (nI 0) dX2_isWatched_28 (by decide) ?_
        exact wf_iret .boolean rfl (by decide) ⟨rfl, rfl⟩ ⟨congrArg (fun z => some (Value.int z)) (b1_zero (by unfold eWat; rw [decide_eq_false c21, Bool.and_false])), rfl⟩ dX2_isWatched_29
      · refine wf_iconst (nI 1) dX2_isWatched_24 (by decide) ?_
        refine wf_goto 29 dX2_isWatched_25 (by decide) ?_
        exact wf_iret .boolean rfl (by decide) ⟨rfl, rfl⟩ ⟨congrArg (fun z => some (Value.int z)) (b1_one (by unfold eWat; rw [decide_eq_true c7, decide_eq_true c21]; rfl)), rfl⟩ dX2_isWatched_29
abbrev rmX2_strength : Room := { frames := 0, cells := 0, slots := 0, locals := 0 }
set_option maxHeartbeats 4000000 in
set_option maxRecDepth 100000 in
theorem c_X2_strength {l : Launch} {E : Ev} {w : Nat} {g : Gd} {a kk : Nat → Nat} {r : va_W} (hI : Inv g) (hw : w < 10) : CT l E yX2_strength cX2_strength 3 (some .int) rmX2_strength [.ref (a 0), .int (nI w)] (wg E (kk 6) a g ++ (wk E kk ++ r)) (IS (some (.int (nI (eStr g w)))) (wg E (kk 6) a g ++ (wk E kk ++ r))) := by
  refine CT.of (lv := [(0, .ref (a 0)), (1, .int (nI w))]) false (by decide +kernel) (by decide) (Nat.le_of_ble_eq_true rfl) rfl ?_
  have f0 := hI.words
  have f1 := hI.birds
  have f2 := hI.gone
  have f3 := hI.hour
  have f4 := hI.sweet w
  have f5 := hI.ink w
  have f6 := hI.bitter (g 1 w)
  refine wf_aload_n 0 dX2_strength_0 rfl ?_
  refine wf_getf (C := RX2) (T := TX2) (N := 14) (v := .ref (a 1)) 0 1 in_X2 rfl rfl (by decide) fl_X2_9 rfl dX2_strength_1 ?_
  refine wf_iload_n 1 dX2_strength_4 rfl ?_
  refine wf_iald_n (nI (g 0 w)) 1 rfl (by omega) (by decide) rfl dX2_strength_5 ?_
  refine wf_aload_n 0 dX2_strength_6 rfl ?_
  refine wf_getf (C := RX2) (T := TX2) (N := 14) (v := .ref (a 8)) 0 10 in_X2 rfl rfl (by decide) fl_X2_33 rfl dX2_strength_7 ?_
  refine wf_aload_n 0 dX2_strength_10 rfl ?_
  refine wf_getf (C := RX2) (T := TX2) (N := 14) (v := .ref (a 2)) 0 2 in_X2 rfl rfl (by decide) fl_X2_15 rfl dX2_strength_11 ?_
  refine wf_iload_n 1 dX2_strength_14 rfl ?_
  refine wf_iald_n (nI (g 1 w)) 2 rfl (by omega) (by decide) rfl dX2_strength_15 ?_
  refine wf_iald_n (nI (g 7 (g 1 w))) 8 rfl (by omega) (by decide) rfl dX2_strength_16 ?_
  refine wf_isub ((nI (g 0 w)) - (nI (g 7 (g 1 w)))) dX2_strength_17 rfl ?_
  refine wf_istore_n [(2, .int ((nI (g 0 w)) - (nI (g 7 (g 1 w))))), (0, .ref (a 0)), (1, .int (nI w))] dX2_strength_18 rfl (by decide) rfl ?_
  refine wf_iload_n 0 dX2_strength_19 rfl ?_
  refine wf_if_ge 27 dX2_strength_20 (by decide) (fun c20 => ?_) (fun c20 => ?_)
  · refine wf_iload_n 0 dX2_strength_27 rfl ?_
    exact wf_iret .int rfl (vp_nar_int _) ⟨rfl, rfl⟩ ⟨congrArg (fun z => some (Value.int z)) (nI_subZ ((nI_sub_lt (by omega) (by omega)).mp c20)), rfl⟩ dX2_strength_28
  · refine wf_iconst (nI 0) dX2_strength_23 (by decide) ?_
    refine wf_goto 28 dX2_strength_24 (by decide) ?_
    exact wf_iret .int rfl (vp_nar_int _) ⟨rfl, rfl⟩ ⟨congrArg (fun z => some (Value.int z)) (by unfold eStr; rw [Nat.sub_eq_zero_of_le (by have := mt (nI_sub_lt (a := g 0 w) (b := g 7 (g 1 w)) (by omega) (by omega)).mpr c20; omega)]), rfl⟩ dX2_strength_28
abbrev rmX2_mayBeEaten : Room := { frames := 1, cells := 0, slots := 0, locals := 22 }
set_option maxHeartbeats 4000000 in
set_option maxRecDepth 100000 in
theorem c_X2_mayBeEaten {l : Launch} {E : Ev} {w t : Nat} {g : Gd} {a kk : Nat → Nat} {r : va_W} (hI : Inv g) (hw : w < 10) (ht : t < 1000) : CT l E yX2_mayBeEaten cX2_mayBeEaten 3 (some .boolean) rmX2_mayBeEaten [.ref (a 0), .int (nI w), .int (nI t)] (wg E (kk 6) a g ++ (wk E kk ++ r)) (IS (some (.int (bI (eMay g w t)))) (wg E (kk 6) a g ++ (wk E kk ++ r))) := by
  refine CT.of (lv := [(0, .ref (a 0)), (1, .int (nI w)), (2, .int (nI t))]) false (by decide +kernel) (by decide) (Nat.le_of_ble_eq_true rfl) rfl ?_
  have f0 := hI.words
  have f1 := hI.birds
  have f2 := hI.gone
  have f3 := hI.hour
  have f4 := hI.str w
  refine wf_aload_n 0 dX2_mayBeEaten_0 rfl ?_
  refine wf_getf (C := RX2) (T := TX2) (N := 14) (v := .int (nI (g 9 3))) 0 13 in_X2 rfl rfl (by decide) fl_X2_59 rfl dX2_mayBeEaten_1 ?_
  refine wf_bipush (nI 8) dX2_mayBeEaten_4 (by decide) ?_
  refine wf_icmp_ge_n 42 dX2_mayBeEaten_6 (by decide) (by omega) (by omega) (fun c6 => ?_) (fun c6 => ?_)
  · refine wf_iconst (nI 0) dX2_mayBeEaten_42 (by decide) ?_
    exact wf_iret .boolean rfl (by decide) ⟨rfl, rfl⟩ ⟨congrArg (fun z => some (Value.int z)) (b1_zero (by unfold eMay; rw [decide_eq_false (by omega)]; simp)), rfl⟩ dX2_mayBeEaten_43
  · refine wf_aload_n 0 dX2_mayBeEaten_9 rfl ?_
    refine wf_iload_n 1 dX2_mayBeEaten_10 rfl ?_
    refine wf_callVD (As := [.int (nI w)]) (rest := []) 0 (c_X2_isGone hI (by omega)) kV_X2_73 rfl (by decide) (by decide) (Nat.le_of_ble_eq_true rfl) rfl rfl rfl dX2_mayBeEaten_11 ?_
    refine wf_if_ne_b 42 dX2_mayBeEaten_14 (by decide) (fun c14 => ?_) (fun c14 => ?_)
    · refine wf_iconst (nI 0) dX2_mayBeEaten_42 (by decide) ?_
      exact wf_iret .boolean rfl (by decide) ⟨rfl, rfl⟩ ⟨congrArg (fun z => some (Value.int z)) (b1_zero (by unfold eMay; rw [c14]; simp)), rfl⟩ dX2_mayBeEaten_43
    · refine wf_aload_n 0 dX2_mayBeEaten_17 rfl ?_
      refine wf_iload_n 1 dX2_mayBeEaten_18 rfl ?_
      refine wf_aload_n 0 dX2_mayBeEaten_19 rfl ?_
      refine wf_getf (C := RX2) (T := TX2) (N := 14) (v := .int (nI (g 9 3))) 0 13 in_X2 rfl rfl (by decide) fl_X2_59 rfl dX2_mayBeEaten_20 ?_
      refine wf_callVD (As := [.int (nI w), .int (nI (g 9 3))]) (rest := []) 0 (c_X2_isWatched hI (by omega) (by omega)) kV_X2_76 rfl (by decide) (by decide) (Nat.le_of_ble_eq_true rfl) rfl rfl rfl dX2_mayBeEaten_23 ?_
      refine wf_if_ne_b 42 dX2_mayBeEaten_26 (by decide) (fun c26 => ?_) (fun c26 => ?_)
      · refine wf_iconst (nI 0) dX2_mayBeEaten_42 (by decide) ?_
        exact wf_iret .boolean rfl (by decide) ⟨rfl, rfl⟩ ⟨congrArg (fun z => some (Value.int z)) (b1_zero (by unfold eMay; rw [c26]; simp)), rfl⟩ dX2_mayBeEaten_43
      · refine wf_aload_n 0 dX2_mayBeEaten_29 rfl ?_
        refine wf_iload_n 1 dX2_mayBeEaten_30 rfl ?_
        refine wf_callVD (As := [.int (nI w)]) (rest := []) 0 (c_X2_strength hI (by omega)) kV_X2_80 rfl (by decide) (by decide) (Nat.le_of_ble_eq_true rfl) rfl rfl rfl dX2_mayBeEaten_31 ?_
        refine wf_iload_n 2 dX2_mayBeEaten_34 rfl ?_
        refine wf_icmp_lt_n 42 dX2_mayBeEaten_35 (by decide) (by omega) (by omega) (fun c35 => ?_) (fun c35 => ?_)
        · refine wf_iconst (nI 0) dX2_mayBeEaten_42 (by decide) ?_
          exact wf_iret .boolean rfl (by decide) ⟨rfl, rfl⟩ ⟨congrArg (fun z => some (Value.int z)) (b1_zero (by unfold eMay; rw [decide_eq_false (by omega : ¬ t ≤ eStr g w)]; simp)), rfl⟩ dX2_mayBeEaten_43
        · refine wf_iconst (nI 1) dX2_mayBeEaten_38 (by decide) ?_
          refine wf_goto 43 dX2_mayBeEaten_39 (by decide) ?_
          exact wf_iret .boolean rfl (by decide) ⟨rfl, rfl⟩ ⟨congrArg (fun z => some (Value.int z)) (b1_one (by unfold eMay; rw [decide_eq_true c6, c14, c26, decide_eq_true c35]; rfl)), rfl⟩ dX2_mayBeEaten_43
abbrev rmX2_kindOf : Room := { frames := 0, cells := 0, slots := 0, locals := 0 }
set_option maxHeartbeats 4000000 in
set_option maxRecDepth 100000 in
theorem c_X2_kindOf {l : Launch} {E : Ev} {b : Nat} {g : Gd} {a kk : Nat → Nat} {r : va_W} (hI : Inv g) (hb : b < 4) : CT l E yX2_kindOf cX2_kindOf 2 (some (.object "EatenByDusk$Sparrow")) rmX2_kindOf [.ref (a 0), .int (nI b)] (wg E (kk 6) a g ++ (wk E kk ++ r)) (IS (some (.ref (kk (g 3 b)))) (wg E (kk 6) a g ++ (wk E kk ++ r))) := by
  refine CT.of (lv := [(0, .ref (a 0)), (1, .int (nI b))]) false (by decide +kernel) (by decide) (Nat.le_of_ble_eq_true rfl) rfl ?_
  have f4 := hI.kind b
  refine wf_aload_n 0 dX2_kindOf_0 rfl ?_
  refine wf_getf (C := RX2) (T := TX2) (N := 14) (v := .ref (kk 6)) 0 0 in_X2 rfl rfl (by decide) fl_X2_39 rfl dX2_kindOf_1 ?_
  refine wf_aload_n 0 dX2_kindOf_4 rfl ?_
  refine wf_getf (C := RX2) (T := TX2) (N := 14) (v := .ref (a 4)) 0 5 in_X2 rfl rfl (by decide) fl_X2_21 rfl dX2_kindOf_5 ?_
  refine wf_iload_n 1 dX2_kindOf_8 rfl ?_
  refine wf_iald_n (nI (g 3 b)) 4 rfl (by omega) (by decide) rfl dX2_kindOf_9 ?_
  refine wf_aald_n (b := kk (g 3 b)) 10 rfl (by omega) (by decide) rfl dX2_kindOf_10 ?_
  exact wf_aret "EatenByDusk$Sparrow" rfl ⟨rfl, rfl⟩ ⟨congrArg (fun z => some (Value.ref z)) (rfl), rfl⟩ dX2_kindOf_11
abbrev rmX2_hasWord : Room := { frames := 0, cells := 0, slots := 0, locals := 0 }
set_option maxHeartbeats 4000000 in
set_option maxRecDepth 100000 in
theorem c_X2_hasWord {l : Launch} {E : Ev} {x : Int32} {g : Gd} {a kk : Nat → Nat} {r : va_W}  : CT l E yX2_hasWord cX2_hasWord 2 (some .boolean) rmX2_hasWord [.ref (a 0), .int x] (wg E (kk 6) a g ++ (wk E kk ++ r)) (IS (some (.int (bI (eHas x (g 9 0))))) (wg E (kk 6) a g ++ (wk E kk ++ r))) := by
  refine CT.of (lv := [(0, .ref (a 0)), (1, .int x)]) false (by decide +kernel) (by decide) (Nat.le_of_ble_eq_true rfl) rfl ?_
  refine wf_iload_n 1 dX2_hasWord_0 rfl ?_
  refine wf_if_lt 16 dX2_hasWord_1 (by decide) (fun c1 => ?_) (fun c1 => ?_)
  · refine wf_iconst (nI 0) dX2_hasWord_16 (by decide) ?_
    exact wf_iret .boolean rfl (by decide) ⟨rfl, rfl⟩ ⟨congrArg (fun z => some (Value.int z)) (b1_zero (by unfold eHas; rw [decide_eq_false (fun z => Int32.not_lt.mpr z c1), Bool.false_and])), rfl⟩ dX2_hasWord_17
  · refine wf_iload_n 1 dX2_hasWord_4 rfl ?_
    refine wf_aload_n 0 dX2_hasWord_5 rfl ?_
    refine wf_getf (C := RX2) (T := TX2) (N := 14) (v := .int (nI (g 9 0))) 0 4 in_X2 rfl rfl (by decide) fl_X2_49 rfl dX2_hasWord_6 ?_
    refine wf_icmp_ge 16 dX2_hasWord_9 (by decide) (fun c9 => ?_) (fun c9 => ?_)
    · refine wf_iconst (nI 0) dX2_hasWord_16 (by decide) ?_
      exact wf_iret .boolean rfl (by decide) ⟨rfl, rfl⟩ ⟨congrArg (fun z => some (Value.int z)) (b1_zero (by unfold eHas; rw [decide_eq_false (fun z => Int32.not_le.mpr z c9), Bool.and_false])), rfl⟩ dX2_hasWord_17
    · refine wf_iconst (nI 1) dX2_hasWord_12 (by decide) ?_
      refine wf_goto 17 dX2_hasWord_13 (by decide) ?_
      exact wf_iret .boolean rfl (by decide) ⟨rfl, rfl⟩ ⟨congrArg (fun z => some (Value.int z)) (b1_one (by unfold eHas; rw [decide_eq_true (Int32.not_lt.mp c1), decide_eq_true (Int32.not_le.mp c9)]; rfl)), rfl⟩ dX2_hasWord_17
abbrev rmX2_hasBird : Room := { frames := 0, cells := 0, slots := 0, locals := 0 }
set_option maxHeartbeats 4000000 in
set_option maxRecDepth 100000 in
theorem c_X2_hasBird {l : Launch} {E : Ev} {x : Int32} {g : Gd} {a kk : Nat → Nat} {r : va_W}  : CT l E yX2_hasBird cX2_hasBird 2 (some .boolean) rmX2_hasBird [.ref (a 0), .int x] (wg E (kk 6) a g ++ (wk E kk ++ r)) (IS (some (.int (bI (eHas x (g 9 1))))) (wg E (kk 6) a g ++ (wk E kk ++ r))) := by
  refine CT.of (lv := [(0, .ref (a 0)), (1, .int x)]) false (by decide +kernel) (by decide) (Nat.le_of_ble_eq_true rfl) rfl ?_
  refine wf_iload_n 1 dX2_hasBird_0 rfl ?_
  refine wf_if_lt 16 dX2_hasBird_1 (by decide) (fun c1 => ?_) (fun c1 => ?_)
  · refine wf_iconst (nI 0) dX2_hasBird_16 (by decide) ?_
    exact wf_iret .boolean rfl (by decide) ⟨rfl, rfl⟩ ⟨congrArg (fun z => some (Value.int z)) (b1_zero (by unfold eHas; rw [decide_eq_false (fun z => Int32.not_lt.mpr z c1), Bool.false_and])), rfl⟩ dX2_hasBird_17
  · refine wf_iload_n 1 dX2_hasBird_4 rfl ?_
    refine wf_aload_n 0 dX2_hasBird_5 rfl ?_
    refine wf_getf (C := RX2) (T := TX2) (N := 14) (v := .int (nI (g 9 1))) 0 9 in_X2 rfl rfl (by decide) fl_X2_53 rfl dX2_hasBird_6 ?_
    refine wf_icmp_ge 16 dX2_hasBird_9 (by decide) (fun c9 => ?_) (fun c9 => ?_)
    · refine wf_iconst (nI 0) dX2_hasBird_16 (by decide) ?_
      exact wf_iret .boolean rfl (by decide) ⟨rfl, rfl⟩ ⟨congrArg (fun z => some (Value.int z)) (b1_zero (by unfold eHas; rw [decide_eq_false (fun z => Int32.not_le.mpr z c9), Bool.and_false])), rfl⟩ dX2_hasBird_17
    · refine wf_iconst (nI 1) dX2_hasBird_12 (by decide) ?_
      refine wf_goto 17 dX2_hasBird_13 (by decide) ?_
      exact wf_iret .boolean rfl (by decide) ⟨rfl, rfl⟩ ⟨congrArg (fun z => some (Value.int z)) (b1_one (by unfold eHas; rw [decide_eq_true (Int32.not_lt.mp c1), decide_eq_true (Int32.not_le.mp c9)]; rfl)), rfl⟩ dX2_hasBird_17
abbrev rmX2_allWords : Room := { frames := 0, cells := 0, slots := 0, locals := 0 }
set_option maxHeartbeats 4000000 in
set_option maxRecDepth 100000 in
theorem c_X2_allWords {l : Launch} {E : Ev}  {g : Gd} {a kk : Nat → Nat} {r : va_W} (hI : Inv g) : CT l E yX2_allWords cX2_allWords 1 (some .int) rmX2_allWords [.ref (a 0)] (wg E (kk 6) a g ++ (wk E kk ++ r)) (IS (some (.int (nI (eAll g)))) (wg E (kk 6) a g ++ (wk E kk ++ r))) := by
  refine CT.of (lv := [(0, .ref (a 0))]) false (by decide +kernel) (by decide) (Nat.le_of_ble_eq_true rfl) rfl ?_
  have f0 := hI.words
  have f1 := hI.birds
  have f2 := hI.gone
  have f3 := hI.hour
  have f4 := pw10 f0
  have f5 : 1 <<< g 9 0 = 2 ^ g 9 0 := by rw [Nat.shiftLeft_eq, Nat.one_mul]
  have f6 : 1 ≤ 2 ^ g 9 0 := Nat.one_le_two_pow
  refine wf_iconst (nI 1) dX2_allWords_0 (by decide) ?_
  refine wf_aload_n 0 dX2_allWords_1 rfl ?_
  refine wf_getf (C := RX2) (T := TX2) (N := 14) (v := .int (nI (g 9 0))) 0 4 in_X2 rfl rfl (by decide) fl_X2_49 rfl dX2_allWords_2 ?_
  refine wf_ishl (nI (1 <<< (g 9 0))) dX2_allWords_5 (nI_shl (by omega) (by omega)) ?_
  refine wf_iconst (nI 1) dX2_allWords_6 (by decide) ?_
  refine wf_isub (nI ((1 <<< (g 9 0)) - 1)) dX2_allWords_7 (pk_sub (by omega)) ?_
  exact wf_iret .int rfl (vp_nar_int _) ⟨rfl, rfl⟩ ⟨congrArg (fun z => some (Value.int z)) (rfl), rfl⟩ dX2_allWords_8
abbrev rmX2_hasWords : Room := { frames := 1, cells := 0, slots := 0, locals := 20 }
set_option maxHeartbeats 4000000 in
set_option maxRecDepth 100000 in
theorem c_X2_hasWords {l : Launch} {E : Ev} {x : Int32} {g : Gd} {a kk : Nat → Nat} {r : va_W} (hI : Inv g) : CT l E yX2_hasWords cX2_hasWords 2 (some .boolean) rmX2_hasWords [.ref (a 0), .int x] (wg E (kk 6) a g ++ (wk E kk ++ r)) (IS (some (.int (bI (eHasS g x)))) (wg E (kk 6) a g ++ (wk E kk ++ r))) := by
  refine CT.of (lv := [(0, .ref (a 0)), (1, .int x)]) false (by decide +kernel) (by decide) (Nat.le_of_ble_eq_true rfl) rfl ?_
  refine wf_iload_n 1 dX2_hasWords_0 rfl ?_
  refine wf_if_lt 16 dX2_hasWords_1 (by decide) (fun c1 => ?_) (fun c1 => ?_)
  · refine wf_iconst (nI 0) dX2_hasWords_16 (by decide) ?_
    exact wf_iret .boolean rfl (by decide) ⟨rfl, rfl⟩ ⟨congrArg (fun z => some (Value.int z)) (b1_zero (by unfold eHasS; rw [decide_eq_false (fun z => Int32.not_lt.mpr z c1), Bool.false_and])), rfl⟩ dX2_hasWords_17
  · refine wf_iload_n 1 dX2_hasWords_4 rfl ?_
    refine wf_aload_n 0 dX2_hasWords_5 rfl ?_
    refine wf_callVD (As := []) (rest := [.int x]) 0 (c_X2_allWords hI) kV_X2_62 rfl (by decide) (by decide) (Nat.le_of_ble_eq_true rfl) rfl rfl rfl dX2_hasWords_6 ?_
    refine wf_icmp_gt 16 dX2_hasWords_9 (by decide) (fun c9 => ?_) (fun c9 => ?_)
    · refine wf_iconst (nI 0) dX2_hasWords_16 (by decide) ?_
      exact wf_iret .boolean rfl (by decide) ⟨rfl, rfl⟩ ⟨congrArg (fun z => some (Value.int z)) (b1_zero (by unfold eHasS; rw [decide_eq_false (fun z => Int32.not_lt.mpr z c9), Bool.and_false])), rfl⟩ dX2_hasWords_17
    · refine wf_iconst (nI 1) dX2_hasWords_12 (by decide) ?_
      refine wf_goto 17 dX2_hasWords_13 (by decide) ?_
      exact wf_iret .boolean rfl (by decide) ⟨rfl, rfl⟩ ⟨congrArg (fun z => some (Value.int z)) (b1_one (by unfold eHasS; rw [decide_eq_true (Int32.not_lt.mp c1), decide_eq_true (Int32.not_lt.mp c9)]; rfl)), rfl⟩ dX2_hasWords_17
abbrev rmX2_leftWords : Room := { frames := 1, cells := 0, slots := 0, locals := 20 }
set_option maxHeartbeats 4000000 in
set_option maxRecDepth 100000 in
theorem c_X2_leftWords {l : Launch} {E : Ev}  {g : Gd} {a kk : Nat → Nat} {r : va_W} (hI : Inv g) : CT l E yX2_leftWords cX2_leftWords 1 (some .int) rmX2_leftWords [.ref (a 0)] (wg E (kk 6) a g ++ (wk E kk ++ r)) (IS (some (.int (nI (eLeft g)))) (wg E (kk 6) a g ++ (wk E kk ++ r))) := by
  refine CT.of (lv := [(0, .ref (a 0))]) false (by decide +kernel) (by decide) (Nat.le_of_ble_eq_true rfl) rfl ?_
  have f0 := hI.words
  have f1 := hI.birds
  have f2 := hI.gone
  have f3 := hI.hour
  have f4 := hI.all
  refine wf_aload_n 0 dX2_leftWords_0 rfl ?_
  refine wf_callVD (As := []) (rest := []) 0 (c_X2_allWords hI) kV_X2_62 rfl (by decide) (by decide) (Nat.le_of_ble_eq_true rfl) rfl rfl rfl dX2_leftWords_1 ?_
  refine wf_aload_n 0 dX2_leftWords_4 rfl ?_
  refine wf_getf (C := RX2) (T := TX2) (N := 14) (v := .int (nI (g 9 2))) 0 12 in_X2 rfl rfl (by decide) fl_X2_56 rfl dX2_leftWords_5 ?_
  refine wf_iconst (-1) dX2_leftWords_8 (by decide) ?_
  refine wf_ixor (nI (g 9 2) ^^^ -1) dX2_leftWords_9 rfl ?_
  refine wf_iand (nI (ldf (eAll g) (g 9 2))) dX2_leftWords_10 (nI_andn (by omega) (by omega)) ?_
  exact wf_iret .int rfl (vp_nar_int _) ⟨rfl, rfl⟩ ⟨congrArg (fun z => some (Value.int z)) (rfl), rfl⟩ dX2_leftWords_11
theorem bitcount_n : ∀ x, x < 1024 → ((((((((nI x) - ((((nI x).toUInt32 >>> ((nI 1).toUInt32 &&& Int32.toUInt32 31)).toInt32) &&& (nI 1431655765))) &&& (nI 858993459)) + (((((nI x) - ((((nI x).toUInt32 >>> ((nI 1).toUInt32 &&& Int32.toUInt32 31)).toInt32) &&& (nI 1431655765))).toUInt32 >>> ((nI 2).toUInt32 &&& Int32.toUInt32 31)).toInt32) &&& (nI 858993459))) + ((((((nI x) - ((((nI x).toUInt32 >>> ((nI 1).toUInt32 &&& Int32.toUInt32 31)).toInt32) &&& (nI 1431655765))) &&& (nI 858993459)) + (((((nI x) - ((((nI x).toUInt32 >>> ((nI 1).toUInt32 &&& Int32.toUInt32 31)).toInt32) &&& (nI 1431655765))).toUInt32 >>> ((nI 2).toUInt32 &&& Int32.toUInt32 31)).toInt32) &&& (nI 858993459))).toUInt32 >>> ((nI 4).toUInt32 &&& Int32.toUInt32 31)).toInt32)) &&& (nI 252645135)) + ((((((((nI x) - ((((nI x).toUInt32 >>> ((nI 1).toUInt32 &&& Int32.toUInt32 31)).toInt32) &&& (nI 1431655765))) &&& (nI 858993459)) + (((((nI x) - ((((nI x).toUInt32 >>> ((nI 1).toUInt32 &&& Int32.toUInt32 31)).toInt32) &&& (nI 1431655765))).toUInt32 >>> ((nI 2).toUInt32 &&& Int32.toUInt32 31)).toInt32) &&& (nI 858993459))) + ((((((nI x) - ((((nI x).toUInt32 >>> ((nI 1).toUInt32 &&& Int32.toUInt32 31)).toInt32) &&& (nI 1431655765))) &&& (nI 858993459)) + (((((nI x) - ((((nI x).toUInt32 >>> ((nI 1).toUInt32 &&& Int32.toUInt32 31)).toInt32) &&& (nI 1431655765))).toUInt32 >>> ((nI 2).toUInt32 &&& Int32.toUInt32 31)).toInt32) &&& (nI 858993459))).toUInt32 >>> ((nI 4).toUInt32 &&& Int32.toUInt32 31)).toInt32)) &&& (nI 252645135)).toUInt32 >>> ((nI 8).toUInt32 &&& Int32.toUInt32 31)).toInt32)) + (((((((((nI x) - ((((nI x).toUInt32 >>> ((nI 1).toUInt32 &&& Int32.toUInt32 31)).toInt32) &&& (nI 1431655765))) &&& (nI 858993459)) + (((((nI x) - ((((nI x).toUInt32 >>> ((nI 1).toUInt32 &&& Int32.toUInt32 31)).toInt32) &&& (nI 1431655765))).toUInt32 >>> ((nI 2).toUInt32 &&& Int32.toUInt32 31)).toInt32) &&& (nI 858993459))) + ((((((nI x) - ((((nI x).toUInt32 >>> ((nI 1).toUInt32 &&& Int32.toUInt32 31)).toInt32) &&& (nI 1431655765))) &&& (nI 858993459)) + (((((nI x) - ((((nI x).toUInt32 >>> ((nI 1).toUInt32 &&& Int32.toUInt32 31)).toInt32) &&& (nI 1431655765))).toUInt32 >>> ((nI 2).toUInt32 &&& Int32.toUInt32 31)).toInt32) &&& (nI 858993459))).toUInt32 >>> ((nI 4).toUInt32 &&& Int32.toUInt32 31)).toInt32)) &&& (nI 252645135)) + ((((((((nI x) - ((((nI x).toUInt32 >>> ((nI 1).toUInt32 &&& Int32.toUInt32 31)).toInt32) &&& (nI 1431655765))) &&& (nI 858993459)) + (((((nI x) - ((((nI x).toUInt32 >>> ((nI 1).toUInt32 &&& Int32.toUInt32 31)).toInt32) &&& (nI 1431655765))).toUInt32 >>> ((nI 2).toUInt32 &&& Int32.toUInt32 31)).toInt32) &&& (nI 858993459))) + ((((((nI x) - ((((nI x).toUInt32 >>> ((nI 1).toUInt32 &&& Int32.toUInt32 31)).toInt32) &&& (nI 1431655765))) &&& (nI 858993459)) + (((((nI x) - ((((nI x).toUInt32 >>> ((nI 1).toUInt32 &&& Int32.toUInt32 31)).toInt32) &&& (nI 1431655765))).toUInt32 >>> ((nI 2).toUInt32 &&& Int32.toUInt32 31)).toInt32) &&& (nI 858993459))).toUInt32 >>> ((nI 4).toUInt32 &&& Int32.toUInt32 31)).toInt32)) &&& (nI 252645135)).toUInt32 >>> ((nI 8).toUInt32 &&& Int32.toUInt32 31)).toInt32)).toUInt32 >>> ((nI 16).toUInt32 &&& Int32.toUInt32 31)).toInt32)) &&& (nI 63) = nI (eBits x) := by decide +kernel
abbrev rmJ6_bitCount_0f7a4 : Room := { frames := 0, cells := 0, slots := 0, locals := 0 }
set_option maxHeartbeats 4000000 in
set_option maxRecDepth 100000 in
theorem c_bitCount {l : Launch} {E : Ev} {r : va_W} {x : Nat} (hx : x < 1024) : CT l E yJ6_bitCount_0f7a4 cJ6_bitCount_0f7a4 1 (some .int) rmJ6_bitCount_0f7a4 [.int (nI x)] (r) (IS (some (.int (nI (eBits x)))) r) := by
  refine CT.of (lv := [(0, .int (nI x))]) false (by decide +kernel) (by decide) (Nat.le_of_ble_eq_true rfl) rfl ?_
  refine wf_iload_n 0 dJ6_bitCount_0f7a4_0 rfl ?_
  refine wf_iload_n 0 dJ6_bitCount_0f7a4_1 rfl ?_
  refine wf_iconst (nI 1) dJ6_bitCount_0f7a4_2 (by decide) ?_
  refine wf_iushr (((nI x).toUInt32 >>> ((nI 1).toUInt32 &&& Int32.toUInt32 31)).toInt32) dJ6_bitCount_0f7a4_3 rfl ?_
  refine wf_ldcw (v := (nI 1431655765)) con_J6_265 dJ6_bitCount_0f7a4_4 ?_
  refine wf_iand ((((nI x).toUInt32 >>> ((nI 1).toUInt32 &&& Int32.toUInt32 31)).toInt32) &&& (nI 1431655765)) dJ6_bitCount_0f7a4_7 rfl ?_
  refine wf_isub ((nI x) - ((((nI x).toUInt32 >>> ((nI 1).toUInt32 &&& Int32.toUInt32 31)).toInt32) &&& (nI 1431655765))) dJ6_bitCount_0f7a4_8 rfl ?_
  refine wf_istore_n [(0, .int ((nI x) - ((((nI x).toUInt32 >>> ((nI 1).toUInt32 &&& Int32.toUInt32 31)).toInt32) &&& (nI 1431655765))))] dJ6_bitCount_0f7a4_9 rfl (by decide) rfl ?_
  refine wf_iload_n 0 dJ6_bitCount_0f7a4_10 rfl ?_
  refine wf_ldcw (v := (nI 858993459)) con_J6_266 dJ6_bitCount_0f7a4_11 ?_
  refine wf_iand (((nI x) - ((((nI x).toUInt32 >>> ((nI 1).toUInt32 &&& Int32.toUInt32 31)).toInt32) &&& (nI 1431655765))) &&& (nI 858993459)) dJ6_bitCount_0f7a4_14 rfl ?_
  refine wf_iload_n 0 dJ6_bitCount_0f7a4_15 rfl ?_
  refine wf_iconst (nI 2) dJ6_bitCount_0f7a4_16 (by decide) ?_
  refine wf_iushr ((((nI x) - ((((nI x).toUInt32 >>> ((nI 1).toUInt32 &&& Int32.toUInt32 31)).toInt32) &&& (nI 1431655765))).toUInt32 >>> ((nI 2).toUInt32 &&& Int32.toUInt32 31)).toInt32) dJ6_bitCount_0f7a4_17 rfl ?_
  refine wf_ldcw (v := (nI 858993459)) con_J6_266 dJ6_bitCount_0f7a4_18 ?_
  refine wf_iand (((((nI x) - ((((nI x).toUInt32 >>> ((nI 1).toUInt32 &&& Int32.toUInt32 31)).toInt32) &&& (nI 1431655765))).toUInt32 >>> ((nI 2).toUInt32 &&& Int32.toUInt32 31)).toInt32) &&& (nI 858993459)) dJ6_bitCount_0f7a4_21 rfl ?_
  refine wf_iadd ((((nI x) - ((((nI x).toUInt32 >>> ((nI 1).toUInt32 &&& Int32.toUInt32 31)).toInt32) &&& (nI 1431655765))) &&& (nI 858993459)) + (((((nI x) - ((((nI x).toUInt32 >>> ((nI 1).toUInt32 &&& Int32.toUInt32 31)).toInt32) &&& (nI 1431655765))).toUInt32 >>> ((nI 2).toUInt32 &&& Int32.toUInt32 31)).toInt32) &&& (nI 858993459))) dJ6_bitCount_0f7a4_22 rfl ?_
  refine wf_istore_n [(0, .int ((((nI x) - ((((nI x).toUInt32 >>> ((nI 1).toUInt32 &&& Int32.toUInt32 31)).toInt32) &&& (nI 1431655765))) &&& (nI 858993459)) + (((((nI x) - ((((nI x).toUInt32 >>> ((nI 1).toUInt32 &&& Int32.toUInt32 31)).toInt32) &&& (nI 1431655765))).toUInt32 >>> ((nI 2).toUInt32 &&& Int32.toUInt32 31)).toInt32) &&& (nI 858993459))))] dJ6_bitCount_0f7a4_23 rfl (by decide) rfl ?_
  refine wf_iload_n 0 dJ6_bitCount_0f7a4_24 rfl ?_
  refine wf_iload_n 0 dJ6_bitCount_0f7a4_25 rfl ?_
  refine wf_iconst (nI 4) dJ6_bitCount_0f7a4_26 (by decide) ?_
  refine wf_iushr ((((((nI x) - ((((nI x).toUInt32 >>> ((nI 1).toUInt32 &&& Int32.toUInt32 31)).toInt32) &&& (nI 1431655765))) &&& (nI 858993459)) + (((((nI x) - ((((nI x).toUInt32 >>> ((nI 1).toUInt32 &&& Int32.toUInt32 31)).toInt32) &&& (nI 1431655765))).toUInt32 >>> ((nI 2).toUInt32 &&& Int32.toUInt32 31)).toInt32) &&& (nI 858993459))).toUInt32 >>> ((nI 4).toUInt32 &&& Int32.toUInt32 31)).toInt32) dJ6_bitCount_0f7a4_27 rfl ?_
  refine wf_iadd (((((nI x) - ((((nI x).toUInt32 >>> ((nI 1).toUInt32 &&& Int32.toUInt32 31)).toInt32) &&& (nI 1431655765))) &&& (nI 858993459)) + (((((nI x) - ((((nI x).toUInt32 >>> ((nI 1).toUInt32 &&& Int32.toUInt32 31)).toInt32) &&& (nI 1431655765))).toUInt32 >>> ((nI 2).toUInt32 &&& Int32.toUInt32 31)).toInt32) &&& (nI 858993459))) + ((((((nI x) - ((((nI x).toUInt32 >>> ((nI 1).toUInt32 &&& Int32.toUInt32 31)).toInt32) &&& (nI 1431655765))) &&& (nI 858993459)) + (((((nI x) - ((((nI x).toUInt32 >>> ((nI 1).toUInt32 &&& Int32.toUInt32 31)).toInt32) &&& (nI 1431655765))).toUInt32 >>> ((nI 2).toUInt32 &&& Int32.toUInt32 31)).toInt32) &&& (nI 858993459))).toUInt32 >>> ((nI 4).toUInt32 &&& Int32.toUInt32 31)).toInt32)) dJ6_bitCount_0f7a4_28 rfl ?_
  refine wf_ldcw (v := (nI 252645135)) con_J6_267 dJ6_bitCount_0f7a4_29 ?_
  refine wf_iand ((((((nI x) - ((((nI x).toUInt32 >>> ((nI 1).toUInt32 &&& Int32.toUInt32 31)).toInt32) &&& (nI 1431655765))) &&& (nI 858993459)) + (((((nI x) - ((((nI x).toUInt32 >>> ((nI 1).toUInt32 &&& Int32.toUInt32 31)).toInt32) &&& (nI 1431655765))).toUInt32 >>> ((nI 2).toUInt32 &&& Int32.toUInt32 31)).toInt32) &&& (nI 858993459))) + ((((((nI x) - ((((nI x).toUInt32 >>> ((nI 1).toUInt32 &&& Int32.toUInt32 31)).toInt32) &&& (nI 1431655765))) &&& (nI 858993459)) + (((((nI x) - ((((nI x).toUInt32 >>> ((nI 1).toUInt32 &&& Int32.toUInt32 31)).toInt32) &&& (nI 1431655765))).toUInt32 >>> ((nI 2).toUInt32 &&& Int32.toUInt32 31)).toInt32) &&& (nI 858993459))).toUInt32 >>> ((nI 4).toUInt32 &&& Int32.toUInt32 31)).toInt32)) &&& (nI 252645135)) dJ6_bitCount_0f7a4_32 rfl ?_
  refine wf_istore_n [(0, .int ((((((nI x) - ((((nI x).toUInt32 >>> ((nI 1).toUInt32 &&& Int32.toUInt32 31)).toInt32) &&& (nI 1431655765))) &&& (nI 858993459)) + (((((nI x) - ((((nI x).toUInt32 >>> ((nI 1).toUInt32 &&& Int32.toUInt32 31)).toInt32) &&& (nI 1431655765))).toUInt32 >>> ((nI 2).toUInt32 &&& Int32.toUInt32 31)).toInt32) &&& (nI 858993459))) + ((((((nI x) - ((((nI x).toUInt32 >>> ((nI 1).toUInt32 &&& Int32.toUInt32 31)).toInt32) &&& (nI 1431655765))) &&& (nI 858993459)) + (((((nI x) - ((((nI x).toUInt32 >>> ((nI 1).toUInt32 &&& Int32.toUInt32 31)).toInt32) &&& (nI 1431655765))).toUInt32 >>> ((nI 2).toUInt32 &&& Int32.toUInt32 31)).toInt32) &&& (nI 858993459))).toUInt32 >>> ((nI 4).toUInt32 &&& Int32.toUInt32 31)).toInt32)) &&& (nI 252645135)))] dJ6_bitCount_0f7a4_33 rfl (by decide) rfl ?_
  refine wf_iload_n 0 dJ6_bitCount_0f7a4_34 rfl ?_
  refine wf_iload_n 0 dJ6_bitCount_0f7a4_35 rfl ?_
  refine wf_bipush (nI 8) dJ6_bitCount_0f7a4_36 (by decide) ?_
  refine wf_iushr ((((((((nI x) - ((((nI x).toUInt32 >>> ((nI 1).toUInt32 &&& Int32.toUInt32 31)).toInt32) &&& (nI 1431655765))) &&& (nI 858993459)) + (((((nI x) - ((((nI x).toUInt32 >>> ((nI 1).toUInt32 &&& Int32.toUInt32 31)).toInt32) &&& (nI 1431655765))).toUInt32 >>> ((nI 2).toUInt32 &&& Int32.toUInt32 31)).toInt32) &&& (nI 858993459))) + ((((((nI x) - ((((nI x).toUInt32 >>> ((nI 1).toUInt32 &&& Int32.toUInt32 31)).toInt32) &&& (nI 1431655765))) &&& (nI 858993459)) + (((((nI x) - ((((nI x).toUInt32 >>> ((nI 1).toUInt32 &&& Int32.toUInt32 31)).toInt32) &&& (nI 1431655765))).toUInt32 >>> ((nI 2).toUInt32 &&& Int32.toUInt32 31)).toInt32) &&& (nI 858993459))).toUInt32 >>> ((nI 4).toUInt32 &&& Int32.toUInt32 31)).toInt32)) &&& (nI 252645135)).toUInt32 >>> ((nI 8).toUInt32 &&& Int32.toUInt32 31)).toInt32) dJ6_bitCount_0f7a4_38 rfl ?_
  refine wf_iadd (((((((nI x) - ((((nI x).toUInt32 >>> ((nI 1).toUInt32 &&& Int32.toUInt32 31)).toInt32) &&& (nI 1431655765))) &&& (nI 858993459)) + (((((nI x) - ((((nI x).toUInt32 >>> ((nI 1).toUInt32 &&& Int32.toUInt32 31)).toInt32) &&& (nI 1431655765))).toUInt32 >>> ((nI 2).toUInt32 &&& Int32.toUInt32 31)).toInt32) &&& (nI 858993459))) + ((((((nI x) - ((((nI x).toUInt32 >>> ((nI 1).toUInt32 &&& Int32.toUInt32 31)).toInt32) &&& (nI 1431655765))) &&& (nI 858993459)) + (((((nI x) - ((((nI x).toUInt32 >>> ((nI 1).toUInt32 &&& Int32.toUInt32 31)).toInt32) &&& (nI 1431655765))).toUInt32 >>> ((nI 2).toUInt32 &&& Int32.toUInt32 31)).toInt32) &&& (nI 858993459))).toUInt32 >>> ((nI 4).toUInt32 &&& Int32.toUInt32 31)).toInt32)) &&& (nI 252645135)) + ((((((((nI x) - ((((nI x).toUInt32 >>> ((nI 1).toUInt32 &&& Int32.toUInt32 31)).toInt32) &&& (nI 1431655765))) &&& (nI 858993459)) + (((((nI x) - ((((nI x).toUInt32 >>> ((nI 1).toUInt32 &&& Int32.toUInt32 31)).toInt32) &&& (nI 1431655765))).toUInt32 >>> ((nI 2).toUInt32 &&& Int32.toUInt32 31)).toInt32) &&& (nI 858993459))) + ((((((nI x) - ((((nI x).toUInt32 >>> ((nI 1).toUInt32 &&& Int32.toUInt32 31)).toInt32) &&& (nI 1431655765))) &&& (nI 858993459)) + (((((nI x) - ((((nI x).toUInt32 >>> ((nI 1).toUInt32 &&& Int32.toUInt32 31)).toInt32) &&& (nI 1431655765))).toUInt32 >>> ((nI 2).toUInt32 &&& Int32.toUInt32 31)).toInt32) &&& (nI 858993459))).toUInt32 >>> ((nI 4).toUInt32 &&& Int32.toUInt32 31)).toInt32)) &&& (nI 252645135)).toUInt32 >>> ((nI 8).toUInt32 &&& Int32.toUInt32 31)).toInt32)) dJ6_bitCount_0f7a4_39 rfl ?_
  refine wf_istore_n [(0, .int (((((((nI x) - ((((nI x).toUInt32 >>> ((nI 1).toUInt32 &&& Int32.toUInt32 31)).toInt32) &&& (nI 1431655765))) &&& (nI 858993459)) + (((((nI x) - ((((nI x).toUInt32 >>> ((nI 1).toUInt32 &&& Int32.toUInt32 31)).toInt32) &&& (nI 1431655765))).toUInt32 >>> ((nI 2).toUInt32 &&& Int32.toUInt32 31)).toInt32) &&& (nI 858993459))) + ((((((nI x) - ((((nI x).toUInt32 >>> ((nI 1).toUInt32 &&& Int32.toUInt32 31)).toInt32) &&& (nI 1431655765))) &&& (nI 858993459)) + (((((nI x) - ((((nI x).toUInt32 >>> ((nI 1).toUInt32 &&& Int32.toUInt32 31)).toInt32) &&& (nI 1431655765))).toUInt32 >>> ((nI 2).toUInt32 &&& Int32.toUInt32 31)).toInt32) &&& (nI 858993459))).toUInt32 >>> ((nI 4).toUInt32 &&& Int32.toUInt32 31)).toInt32)) &&& (nI 252645135)) + ((((((((nI x) - ((((nI x).toUInt32 >>> ((nI 1).toUInt32 &&& Int32.toUInt32 31)).toInt32) &&& (nI 1431655765))) &&& (nI 858993459)) + (((((nI x) - ((((nI x).toUInt32 >>> ((nI 1).toUInt32 &&& Int32.toUInt32 31)).toInt32) &&& (nI 1431655765))).toUInt32 >>> ((nI 2).toUInt32 &&& Int32.toUInt32 31)).toInt32) &&& (nI 858993459))) + ((((((nI x) - ((((nI x).toUInt32 >>> ((nI 1).toUInt32 &&& Int32.toUInt32 31)).toInt32) &&& (nI 1431655765))) &&& (nI 858993459)) + (((((nI x) - ((((nI x).toUInt32 >>> ((nI 1).toUInt32 &&& Int32.toUInt32 31)).toInt32) &&& (nI 1431655765))).toUInt32 >>> ((nI 2).toUInt32 &&& Int32.toUInt32 31)).toInt32) &&& (nI 858993459))).toUInt32 >>> ((nI 4).toUInt32 &&& Int32.toUInt32 31)).toInt32)) &&& (nI 252645135)).toUInt32 >>> ((nI 8).toUInt32 &&& Int32.toUInt32 31)).toInt32)))] dJ6_bitCount_0f7a4_40 rfl (by decide) rfl ?_
  refine wf_iload_n 0 dJ6_bitCount_0f7a4_41 rfl ?_
  refine wf_iload_n 0 dJ6_bitCount_0f7a4_42 rfl ?_
  refine wf_bipush (nI 16) dJ6_bitCount_0f7a4_43 (by decide) ?_
  refine wf_iushr (((((((((nI x) - ((((nI x).toUInt32 >>> ((nI 1).toUInt32 &&& Int32.toUInt32 31)).toInt32) &&& (nI 1431655765))) &&& (nI 858993459)) + (((((nI x) - ((((nI x).toUInt32 >>> ((nI 1).toUInt32 &&& Int32.toUInt32 31)).toInt32) &&& (nI 1431655765))).toUInt32 >>> ((nI 2).toUInt32 &&& Int32.toUInt32 31)).toInt32) &&& (nI 858993459))) + ((((((nI x) - ((((nI x).toUInt32 >>> ((nI 1).toUInt32 &&& Int32.toUInt32 31)).toInt32) &&& (nI 1431655765))) &&& (nI 858993459)) + (((((nI x) - ((((nI x).toUInt32 >>> ((nI 1).toUInt32 &&& Int32.toUInt32 31)).toInt32) &&& (nI 1431655765))).toUInt32 >>> ((nI 2).toUInt32 &&& Int32.toUInt32 31)).toInt32) &&& (nI 858993459))).toUInt32 >>> ((nI 4).toUInt32 &&& Int32.toUInt32 31)).toInt32)) &&& (nI 252645135)) + ((((((((nI x) - ((((nI x).toUInt32 >>> ((nI 1).toUInt32 &&& Int32.toUInt32 31)).toInt32) &&& (nI 1431655765))) &&& (nI 858993459)) + (((((nI x) - ((((nI x).toUInt32 >>> ((nI 1).toUInt32 &&& Int32.toUInt32 31)).toInt32) &&& (nI 1431655765))).toUInt32 >>> ((nI 2).toUInt32 &&& Int32.toUInt32 31)).toInt32) &&& (nI 858993459))) + ((((((nI x) - ((((nI x).toUInt32 >>> ((nI 1).toUInt32 &&& Int32.toUInt32 31)).toInt32) &&& (nI 1431655765))) &&& (nI 858993459)) + (((((nI x) - ((((nI x).toUInt32 >>> ((nI 1).toUInt32 &&& Int32.toUInt32 31)).toInt32) &&& (nI 1431655765))).toUInt32 >>> ((nI 2).toUInt32 &&& Int32.toUInt32 31)).toInt32) &&& (nI 858993459))).toUInt32 >>> ((nI 4).toUInt32 &&& Int32.toUInt32 31)).toInt32)) &&& (nI 252645135)).toUInt32 >>> ((nI 8).toUInt32 &&& Int32.toUInt32 31)).toInt32)).toUInt32 >>> ((nI 16).toUInt32 &&& Int32.toUInt32 31)).toInt32) dJ6_bitCount_0f7a4_45 rfl ?_
  refine wf_iadd ((((((((nI x) - ((((nI x).toUInt32 >>> ((nI 1).toUInt32 &&& Int32.toUInt32 31)).toInt32) &&& (nI 1431655765))) &&& (nI 858993459)) + (((((nI x) - ((((nI x).toUInt32 >>> ((nI 1).toUInt32 &&& Int32.toUInt32 31)).toInt32) &&& (nI 1431655765))).toUInt32 >>> ((nI 2).toUInt32 &&& Int32.toUInt32 31)).toInt32) &&& (nI 858993459))) + ((((((nI x) - ((((nI x).toUInt32 >>> ((nI 1).toUInt32 &&& Int32.toUInt32 31)).toInt32) &&& (nI 1431655765))) &&& (nI 858993459)) + (((((nI x) - ((((nI x).toUInt32 >>> ((nI 1).toUInt32 &&& Int32.toUInt32 31)).toInt32) &&& (nI 1431655765))).toUInt32 >>> ((nI 2).toUInt32 &&& Int32.toUInt32 31)).toInt32) &&& (nI 858993459))).toUInt32 >>> ((nI 4).toUInt32 &&& Int32.toUInt32 31)).toInt32)) &&& (nI 252645135)) + ((((((((nI x) - ((((nI x).toUInt32 >>> ((nI 1).toUInt32 &&& Int32.toUInt32 31)).toInt32) &&& (nI 1431655765))) &&& (nI 858993459)) + (((((nI x) - ((((nI x).toUInt32 >>> ((nI 1).toUInt32 &&& Int32.toUInt32 31)).toInt32) &&& (nI 1431655765))).toUInt32 >>> ((nI 2).toUInt32 &&& Int32.toUInt32 31)).toInt32) &&& (nI 858993459))) + ((((((nI x) - ((((nI x).toUInt32 >>> ((nI 1).toUInt32 &&& Int32.toUInt32 31)).toInt32) &&& (nI 1431655765))) &&& (nI 858993459)) + (((((nI x) - ((((nI x).toUInt32 >>> ((nI 1).toUInt32 &&& Int32.toUInt32 31)).toInt32) &&& (nI 1431655765))).toUInt32 >>> ((nI 2).toUInt32 &&& Int32.toUInt32 31)).toInt32) &&& (nI 858993459))).toUInt32 >>> ((nI 4).toUInt32 &&& Int32.toUInt32 31)).toInt32)) &&& (nI 252645135)).toUInt32 >>> ((nI 8).toUInt32 &&& Int32.toUInt32 31)).toInt32)) + (((((((((nI x) - ((((nI x).toUInt32 >>> ((nI 1).toUInt32 &&& Int32.toUInt32 31)).toInt32) &&& (nI 1431655765))) &&& (nI 858993459)) + (((((nI x) - ((((nI x).toUInt32 >>> ((nI 1).toUInt32 &&& Int32.toUInt32 31)).toInt32) &&& (nI 1431655765))).toUInt32 >>> ((nI 2).toUInt32 &&& Int32.toUInt32 31)).toInt32) &&& (nI 858993459))) + ((((((nI x) - ((((nI x).toUInt32 >>> ((nI 1).toUInt32 &&& Int32.toUInt32 31)).toInt32) &&& (nI 1431655765))) &&& (nI 858993459)) + (((((nI x) - ((((nI x).toUInt32 >>> ((nI 1).toUInt32 &&& Int32.toUInt32 31)).toInt32) &&& (nI 1431655765))).toUInt32 >>> ((nI 2).toUInt32 &&& Int32.toUInt32 31)).toInt32) &&& (nI 858993459))).toUInt32 >>> ((nI 4).toUInt32 &&& Int32.toUInt32 31)).toInt32)) &&& (nI 252645135)) + ((((((((nI x) - ((((nI x).toUInt32 >>> ((nI 1).toUInt32 &&& Int32.toUInt32 31)).toInt32) &&& (nI 1431655765))) &&& (nI 858993459)) + (((((nI x) - ((((nI x).toUInt32 >>> ((nI 1).toUInt32 &&& Int32.toUInt32 31)).toInt32) &&& (nI 1431655765))).toUInt32 >>> ((nI 2).toUInt32 &&& Int32.toUInt32 31)).toInt32) &&& (nI 858993459))) + ((((((nI x) - ((((nI x).toUInt32 >>> ((nI 1).toUInt32 &&& Int32.toUInt32 31)).toInt32) &&& (nI 1431655765))) &&& (nI 858993459)) + (((((nI x) - ((((nI x).toUInt32 >>> ((nI 1).toUInt32 &&& Int32.toUInt32 31)).toInt32) &&& (nI 1431655765))).toUInt32 >>> ((nI 2).toUInt32 &&& Int32.toUInt32 31)).toInt32) &&& (nI 858993459))).toUInt32 >>> ((nI 4).toUInt32 &&& Int32.toUInt32 31)).toInt32)) &&& (nI 252645135)).toUInt32 >>> ((nI 8).toUInt32 &&& Int32.toUInt32 31)).toInt32)).toUInt32 >>> ((nI 16).toUInt32 &&& Int32.toUInt32 31)).toInt32)) dJ6_bitCount_0f7a4_46 rfl ?_
  refine wf_istore_n [(0, .int ((((((((nI x) - ((((nI x).toUInt32 >>> ((nI 1).toUInt32 &&& Int32.toUInt32 31)).toInt32) &&& (nI 1431655765))) &&& (nI 858993459)) + (((((nI x) - ((((nI x).toUInt32 >>> ((nI 1).toUInt32 &&& Int32.toUInt32 31)).toInt32) &&& (nI 1431655765))).toUInt32 >>> ((nI 2).toUInt32 &&& Int32.toUInt32 31)).toInt32) &&& (nI 858993459))) + ((((((nI x) - ((((nI x).toUInt32 >>> ((nI 1).toUInt32 &&& Int32.toUInt32 31)).toInt32) &&& (nI 1431655765))) &&& (nI 858993459)) + (((((nI x) - ((((nI x).toUInt32 >>> ((nI 1).toUInt32 &&& Int32.toUInt32 31)).toInt32) &&& (nI 1431655765))).toUInt32 >>> ((nI 2).toUInt32 &&& Int32.toUInt32 31)).toInt32) &&& (nI 858993459))).toUInt32 >>> ((nI 4).toUInt32 &&& Int32.toUInt32 31)).toInt32)) &&& (nI 252645135)) + ((((((((nI x) - ((((nI x).toUInt32 >>> ((nI 1).toUInt32 &&& Int32.toUInt32 31)).toInt32) &&& (nI 1431655765))) &&& (nI 858993459)) + (((((nI x) - ((((nI x).toUInt32 >>> ((nI 1).toUInt32 &&& Int32.toUInt32 31)).toInt32) &&& (nI 1431655765))).toUInt32 >>> ((nI 2).toUInt32 &&& Int32.toUInt32 31)).toInt32) &&& (nI 858993459))) + ((((((nI x) - ((((nI x).toUInt32 >>> ((nI 1).toUInt32 &&& Int32.toUInt32 31)).toInt32) &&& (nI 1431655765))) &&& (nI 858993459)) + (((((nI x) - ((((nI x).toUInt32 >>> ((nI 1).toUInt32 &&& Int32.toUInt32 31)).toInt32) &&& (nI 1431655765))).toUInt32 >>> ((nI 2).toUInt32 &&& Int32.toUInt32 31)).toInt32) &&& (nI 858993459))).toUInt32 >>> ((nI 4).toUInt32 &&& Int32.toUInt32 31)).toInt32)) &&& (nI 252645135)).toUInt32 >>> ((nI 8).toUInt32 &&& Int32.toUInt32 31)).toInt32)) + (((((((((nI x) - ((((nI x).toUInt32 >>> ((nI 1).toUInt32 &&& Int32.toUInt32 31)).toInt32) &&& (nI 1431655765))) &&& (nI 858993459)) + (((((nI x) - ((((nI x).toUInt32 >>> ((nI 1).toUInt32 &&& Int32.toUInt32 31)).toInt32) &&& (nI 1431655765))).toUInt32 >>> ((nI 2).toUInt32 &&& Int32.toUInt32 31)).toInt32) &&& (nI 858993459))) + ((((((nI x) - ((((nI x).toUInt32 >>> ((nI 1).toUInt32 &&& Int32.toUInt32 31)).toInt32) &&& (nI 1431655765))) &&& (nI 858993459)) + (((((nI x) - ((((nI x).toUInt32 >>> ((nI 1).toUInt32 &&& Int32.toUInt32 31)).toInt32) &&& (nI 1431655765))).toUInt32 >>> ((nI 2).toUInt32 &&& Int32.toUInt32 31)).toInt32) &&& (nI 858993459))).toUInt32 >>> ((nI 4).toUInt32 &&& Int32.toUInt32 31)).toInt32)) &&& (nI 252645135)) + ((((((((nI x) - ((((nI x).toUInt32 >>> ((nI 1).toUInt32 &&& Int32.toUInt32 31)).toInt32) &&& (nI 1431655765))) &&& (nI 858993459)) + (((((nI x) - ((((nI x).toUInt32 >>> ((nI 1).toUInt32 &&& Int32.toUInt32 31)).toInt32) &&& (nI 1431655765))).toUInt32 >>> ((nI 2).toUInt32 &&& Int32.toUInt32 31)).toInt32) &&& (nI 858993459))) + ((((((nI x) - ((((nI x).toUInt32 >>> ((nI 1).toUInt32 &&& Int32.toUInt32 31)).toInt32) &&& (nI 1431655765))) &&& (nI 858993459)) + (((((nI x) - ((((nI x).toUInt32 >>> ((nI 1).toUInt32 &&& Int32.toUInt32 31)).toInt32) &&& (nI 1431655765))).toUInt32 >>> ((nI 2).toUInt32 &&& Int32.toUInt32 31)).toInt32) &&& (nI 858993459))).toUInt32 >>> ((nI 4).toUInt32 &&& Int32.toUInt32 31)).toInt32)) &&& (nI 252645135)).toUInt32 >>> ((nI 8).toUInt32 &&& Int32.toUInt32 31)).toInt32)).toUInt32 >>> ((nI 16).toUInt32 &&& Int32.toUInt32 31)).toInt32)))] dJ6_bitCount_0f7a4_47 rfl (by decide) rfl ?_
  refine wf_iload_n 0 dJ6_bitCount_0f7a4_48 rfl ?_
  refine wf_bipush (nI 63) dJ6_bitCount_0f7a4_49 (by decide) ?_
  refine wf_iand (((((((((nI x) - ((((nI x).toUInt32 >>> ((nI 1).toUInt32 &&& Int32.toUInt32 31)).toInt32) &&& (nI 1431655765))) &&& (nI 858993459)) + (((((nI x) - ((((nI x).toUInt32 >>> ((nI 1).toUInt32 &&& Int32.toUInt32 31)).toInt32) &&& (nI 1431655765))).toUInt32 >>> ((nI 2).toUInt32 &&& Int32.toUInt32 31)).toInt32) &&& (nI 858993459))) + ((((((nI x) - ((((nI x).toUInt32 >>> ((nI 1).toUInt32 &&& Int32.toUInt32 31)).toInt32) &&& (nI 1431655765))) &&& (nI 858993459)) + (((((nI x) - ((((nI x).toUInt32 >>> ((nI 1).toUInt32 &&& Int32.toUInt32 31)).toInt32) &&& (nI 1431655765))).toUInt32 >>> ((nI 2).toUInt32 &&& Int32.toUInt32 31)).toInt32) &&& (nI 858993459))).toUInt32 >>> ((nI 4).toUInt32 &&& Int32.toUInt32 31)).toInt32)) &&& (nI 252645135)) + ((((((((nI x) - ((((nI x).toUInt32 >>> ((nI 1).toUInt32 &&& Int32.toUInt32 31)).toInt32) &&& (nI 1431655765))) &&& (nI 858993459)) + (((((nI x) - ((((nI x).toUInt32 >>> ((nI 1).toUInt32 &&& Int32.toUInt32 31)).toInt32) &&& (nI 1431655765))).toUInt32 >>> ((nI 2).toUInt32 &&& Int32.toUInt32 31)).toInt32) &&& (nI 858993459))) + ((((((nI x) - ((((nI x).toUInt32 >>> ((nI 1).toUInt32 &&& Int32.toUInt32 31)).toInt32) &&& (nI 1431655765))) &&& (nI 858993459)) + (((((nI x) - ((((nI x).toUInt32 >>> ((nI 1).toUInt32 &&& Int32.toUInt32 31)).toInt32) &&& (nI 1431655765))).toUInt32 >>> ((nI 2).toUInt32 &&& Int32.toUInt32 31)).toInt32) &&& (nI 858993459))).toUInt32 >>> ((nI 4).toUInt32 &&& Int32.toUInt32 31)).toInt32)) &&& (nI 252645135)).toUInt32 >>> ((nI 8).toUInt32 &&& Int32.toUInt32 31)).toInt32)) + (((((((((nI x) - ((((nI x).toUInt32 >>> ((nI 1).toUInt32 &&& Int32.toUInt32 31)).toInt32) &&& (nI 1431655765))) &&& (nI 858993459)) + (((((nI x) - ((((nI x).toUInt32 >>> ((nI 1).toUInt32 &&& Int32.toUInt32 31)).toInt32) &&& (nI 1431655765))).toUInt32 >>> ((nI 2).toUInt32 &&& Int32.toUInt32 31)).toInt32) &&& (nI 858993459))) + ((((((nI x) - ((((nI x).toUInt32 >>> ((nI 1).toUInt32 &&& Int32.toUInt32 31)).toInt32) &&& (nI 1431655765))) &&& (nI 858993459)) + (((((nI x) - ((((nI x).toUInt32 >>> ((nI 1).toUInt32 &&& Int32.toUInt32 31)).toInt32) &&& (nI 1431655765))).toUInt32 >>> ((nI 2).toUInt32 &&& Int32.toUInt32 31)).toInt32) &&& (nI 858993459))).toUInt32 >>> ((nI 4).toUInt32 &&& Int32.toUInt32 31)).toInt32)) &&& (nI 252645135)) + ((((((((nI x) - ((((nI x).toUInt32 >>> ((nI 1).toUInt32 &&& Int32.toUInt32 31)).toInt32) &&& (nI 1431655765))) &&& (nI 858993459)) + (((((nI x) - ((((nI x).toUInt32 >>> ((nI 1).toUInt32 &&& Int32.toUInt32 31)).toInt32) &&& (nI 1431655765))).toUInt32 >>> ((nI 2).toUInt32 &&& Int32.toUInt32 31)).toInt32) &&& (nI 858993459))) + ((((((nI x) - ((((nI x).toUInt32 >>> ((nI 1).toUInt32 &&& Int32.toUInt32 31)).toInt32) &&& (nI 1431655765))) &&& (nI 858993459)) + (((((nI x) - ((((nI x).toUInt32 >>> ((nI 1).toUInt32 &&& Int32.toUInt32 31)).toInt32) &&& (nI 1431655765))).toUInt32 >>> ((nI 2).toUInt32 &&& Int32.toUInt32 31)).toInt32) &&& (nI 858993459))).toUInt32 >>> ((nI 4).toUInt32 &&& Int32.toUInt32 31)).toInt32)) &&& (nI 252645135)).toUInt32 >>> ((nI 8).toUInt32 &&& Int32.toUInt32 31)).toInt32)).toUInt32 >>> ((nI 16).toUInt32 &&& Int32.toUInt32 31)).toInt32)) &&& (nI 63)) dJ6_bitCount_0f7a4_51 rfl ?_
  exact wf_iret .int rfl (vp_nar_int _) ⟨rfl, rfl⟩ ⟨congrArg (fun z => some (Value.int z)) (bitcount_n x hx), rfl⟩ dJ6_bitCount_0f7a4_52
abbrev rmX2_countLeft : Room := { frames := 2, cells := 0, slots := 0, locals := 40 }
set_option maxHeartbeats 4000000 in
set_option maxRecDepth 100000 in
theorem c_X2_countLeft {l : Launch} {E : Ev}  {g : Gd} {a kk : Nat → Nat} {r : va_W} (hI : Inv g) : CT l E yX2_countLeft cX2_countLeft 1 (some .int) rmX2_countLeft [.ref (a 0)] (wg E (kk 6) a g ++ (wk E kk ++ r)) (IS (some (.int (nI (eLeftN g)))) (wg E (kk 6) a g ++ (wk E kk ++ r))) := by
  refine CT.of (lv := [(0, .ref (a 0))]) false (by decide +kernel) (by decide) (Nat.le_of_ble_eq_true rfl) rfl ?_
  have f4 := hI.left
  refine wf_aload_n 0 dX2_countLeft_0 rfl ?_
  refine wf_callVD (As := []) (rest := []) 0 (c_X2_leftWords hI) kV_X2_103 rfl (by decide) (by decide) (Nat.le_of_ble_eq_true rfl) rfl rfl rfl dX2_countLeft_1 ?_
  refine wf_callSD (As := [.int (nI (eLeft g))]) (rest := []) (c_bitCount (by omega)) kS_X2_106 rfl (by decide) (by decide) (Nat.le_of_ble_eq_true rfl) rfl dX2_countLeft_4 ?_
  exact wf_iret .int rfl (vp_nar_int _) ⟨rfl, rfl⟩ ⟨congrArg (fun z => some (Value.int z)) (rfl), rfl⟩ dX2_countLeft_7
end
section
abbrev rmX8_isInk : Room := { frames := 0, cells := 0, slots := 0, locals := 0 }
set_option maxHeartbeats 4000000 in
set_option maxRecDepth 100000 in
theorem c_X8_isInk {l : Launch} {E : Ev} {r : va_W} {x : Int32}  : CT l E yX8_isInk cX8_isInk 1 (some .boolean) rmX8_isInk [.int x] (r) (IS (some (.int (bI (eHas x 3)))) r) := by
  refine CT.of (lv := [(0, .int x)]) false (by decide +kernel) (by decide) (Nat.le_of_ble_eq_true rfl) rfl ?_
  refine wf_iload_n 0 dX8_isInk_0 rfl ?_
  refine wf_if_lt 13 dX8_isInk_1 (by decide) (fun c1 => ?_) (fun c1 => ?_)
  · refine wf_iconst (nI 0) dX8_isInk_13 (by decide) ?_
    exact wf_iret .boolean rfl (by decide) ⟨rfl, rfl⟩ ⟨congrArg (fun z => some (Value.int z)) (b1_zero (by unfold eHas; rw [decide_eq_false (fun z => Int32.not_lt.mpr z c1), Bool.false_and])), rfl⟩ dX8_isInk_14
  · refine wf_iload_n 0 dX8_isInk_4 rfl ?_
    refine wf_iconst (nI 3) dX8_isInk_5 (by decide) ?_
    refine wf_icmp_ge 13 dX8_isInk_6 (by decide) (fun c6 => ?_) (fun c6 => ?_)
    · refine wf_iconst (nI 0) dX8_isInk_13 (by decide) ?_
      exact wf_iret .boolean rfl (by decide) ⟨rfl, rfl⟩ ⟨congrArg (fun z => some (Value.int z)) (b1_zero (by unfold eHas; rw [decide_eq_false (fun z => Int32.not_le.mpr z c6), Bool.and_false])), rfl⟩ dX8_isInk_14
    · refine wf_iconst (nI 1) dX8_isInk_9 (by decide) ?_
      refine wf_goto 14 dX8_isInk_10 (by decide) ?_
      exact wf_iret .boolean rfl (by decide) ⟨rfl, rfl⟩ ⟨congrArg (fun z => some (Value.int z)) (b1_one (by unfold eHas; rw [decide_eq_true (Int32.not_lt.mp c1), decide_eq_true (Int32.not_le.mp c6)]; rfl)), rfl⟩ dX8_isInk_14
abbrev rmX6_meals : Room := { frames := 0, cells := 0, slots := 0, locals := 0 }
set_option maxHeartbeats 4000000 in
set_option maxRecDepth 100000 in
theorem c_X6_meals {l : Launch} {E : Ev}  {g : Gd} {a kk : Nat → Nat} {r : va_W} {h : Nat}  : CT l E yX6_meals cX6_meals 1 (some .int) rmX6_meals [.ref h] (wg E (kk 6) a g ++ (wk E kk ++ r)) (IS (some (.int (nI 1))) (wg E (kk 6) a g ++ (wk E kk ++ r))) := by
  refine CT.of (lv := [(0, .ref h)]) false (by decide +kernel) (by decide) (Nat.le_of_ble_eq_true rfl) rfl ?_
  refine wf_iconst (nI 1) dX6_meals_0 (by decide) ?_
  exact wf_iret .int rfl (vp_nar_int _) ⟨rfl, rfl⟩ ⟨congrArg (fun z => some (Value.int z)) (rfl), rfl⟩ dX6_meals_1
abbrev rmX3_meals : Room := { frames := 0, cells := 0, slots := 0, locals := 0 }
set_option maxHeartbeats 4000000 in
set_option maxRecDepth 100000 in
theorem c_X3_meals {l : Launch} {E : Ev}  {g : Gd} {a kk : Nat → Nat} {r : va_W} {h : Nat}  : CT l E yX3_meals cX3_meals 1 (some .int) rmX3_meals [.ref h] (wg E (kk 6) a g ++ (wk E kk ++ r)) (IS (some (.int (nI 2))) (wg E (kk 6) a g ++ (wk E kk ++ r))) := by
  refine CT.of (lv := [(0, .ref h)]) false (by decide +kernel) (by decide) (Nat.le_of_ble_eq_true rfl) rfl ?_
  refine wf_iconst (nI 2) dX3_meals_0 (by decide) ?_
  exact wf_iret .int rfl (vp_nar_int _) ⟨rfl, rfl⟩ ⟨congrArg (fun z => some (Value.int z)) (rfl), rfl⟩ dX3_meals_1
abbrev rmX6_reaches : Room := { frames := 0, cells := 0, slots := 0, locals := 0 }
set_option maxHeartbeats 4000000 in
set_option maxRecDepth 100000 in
theorem c_X6_reaches {l : Launch} {E : Ev} {k w : Nat} {g : Gd} {a kk : Nat → Nat} {r : va_W} {h : Nat} (hk : k ≠ 5) : CT l E yX6_reaches cX6_reaches 3 (some .boolean) rmX6_reaches [.ref h, .ref (a 0), .int (nI w)] (wg E (kk 6) a g ++ (wk E kk ++ r)) (IS (some (.int (bI (eRch g k w)))) (wg E (kk 6) a g ++ (wk E kk ++ r))) := by
  refine CT.of (lv := [(0, .ref h), (1, .ref (a 0)), (2, .int (nI w))]) false (by decide +kernel) (by decide) (Nat.le_of_ble_eq_true rfl) rfl ?_
  refine wf_iconst (nI 1) dX6_reaches_0 (by decide) ?_
  exact wf_iret .boolean rfl (by decide) ⟨rfl, rfl⟩ ⟨congrArg (fun z => some (Value.int z)) (b1_one (by unfold eRch; rw [decide_eq_true hk]; rfl)), rfl⟩ dX6_reaches_1
abbrev rmX1_reaches : Room := { frames := 1, cells := 0, slots := 0, locals := 21 }
set_option maxHeartbeats 4000000 in
set_option maxRecDepth 100000 in
theorem c_X1_reaches {l : Launch} {E : Ev} {w : Nat} {g : Gd} {a kk : Nat → Nat} {r : va_W} {h : Nat} (hI : Inv g) (hw : w < 10) : CT l E yX1_reaches cX1_reaches 3 (some .boolean) rmX1_reaches [.ref h, .ref (a 0), .int (nI w)] (wg E (kk 6) a g ++ (wk E kk ++ r)) (IS (some (.int (bI (eRch g 5 w)))) (wg E (kk 6) a g ++ (wk E kk ++ r))) := by
  refine CT.of (lv := [(0, .ref h), (1, .ref (a 0)), (2, .int (nI w))]) false (by decide +kernel) (by decide) (Nat.le_of_ble_eq_true rfl) rfl ?_
  refine wf_iload_n 2 dX1_reaches_0 rfl ?_
  refine wf_if_eq_n 14 dX1_reaches_1 (by decide) (by omega) (fun c1 => ?_) (fun c1 => ?_)
  · refine wf_iconst (nI 1) dX1_reaches_14 (by decide) ?_
    refine wf_goto 19 dX1_reaches_15 (by decide) ?_
    exact wf_iret .boolean rfl (by decide) ⟨rfl, rfl⟩ ⟨congrArg (fun z => some (Value.int z)) (b1_one (by unfold eRch; rw [decide_eq_true c1]; rfl)), rfl⟩ dX1_reaches_19
  · refine wf_aload_n 1 dX1_reaches_4 rfl ?_
    refine wf_iload_n 2 dX1_reaches_5 rfl ?_
    refine wf_iconst (nI 1) dX1_reaches_6 (by decide) ?_
    refine wf_isub (nI (w - 1)) dX1_reaches_7 (pk_sub (by omega)) ?_
    refine wf_callVD (As := [.int (nI (w - 1))]) (rest := []) 0 (c_X2_isGone hI (by omega)) kV_X1_7 rfl (by decide) (by decide) (Nat.le_of_ble_eq_true rfl) rfl rfl rfl dX1_reaches_8 ?_
    refine wf_if_eq_b 18 dX1_reaches_11 (by decide) (fun c11 => ?_) (fun c11 => ?_)
    · refine wf_iconst (nI 0) dX1_reaches_18 (by decide) ?_
      exact wf_iret .boolean rfl (by decide) ⟨rfl, rfl⟩ ⟨congrArg (fun z => some (Value.int z)) (b1_zero (by unfold eRch; rw [c11, decide_eq_false c1]; rfl)), rfl⟩ dX1_reaches_19
    · refine wf_iconst (nI 1) dX1_reaches_14 (by decide) ?_
      refine wf_goto 19 dX1_reaches_15 (by decide) ?_
      exact wf_iret .boolean rfl (by decide) ⟨rfl, rfl⟩ ⟨congrArg (fun z => some (Value.int z)) (b1_one (by unfold eRch; rw [c11, Bool.or_true])), rfl⟩ dX1_reaches_19
abbrev rmX6_prefers : Room := { frames := 1, cells := 0, slots := 0, locals := 22 }
set_option maxHeartbeats 4000000 in
set_option maxRecDepth 100000 in
theorem c_X6_prefers {l : Launch} {E : Ev} {k w c : Nat} {g : Gd} {a kk : Nat → Nat} {r : va_W} {h : Nat} (hI : Inv g) (hw : w < 10) (hc : c < 10) (hk : k = 0 ∨ k = 4) : CT l E yX6_prefers cX6_prefers 4 (some .boolean) rmX6_prefers [.ref h, .ref (a 0), .int (nI w), .int (nI c)] (wg E (kk 6) a g ++ (wk E kk ++ r)) (IS (some (.int (bI (ePrf g k w c)))) (wg E (kk 6) a g ++ (wk E kk ++ r))) := by
  refine CT.of (lv := [(0, .ref h), (1, .ref (a 0)), (2, .int (nI w)), (3, .int (nI c))]) false (by decide +kernel) (by decide) (Nat.le_of_ble_eq_true rfl) rfl ?_
  have f4 := hI.str w
  have f5 := hI.str c
  refine wf_aload_n 1 dX6_prefers_0 rfl ?_
  refine wf_iload_n 2 dX6_prefers_1 rfl ?_
  refine wf_callVD (As := [.int (nI w)]) (rest := []) 0 (c_X2_strength hI (by omega)) kV_X6_29 rfl (by decide) (by decide) (Nat.le_of_ble_eq_true rfl) rfl rfl rfl dX6_prefers_2 ?_
  refine wf_aload_n 1 dX6_prefers_5 rfl ?_
  refine wf_iload_n 3 dX6_prefers_6 rfl ?_
  refine wf_callVD (As := [.int (nI c)]) (rest := [.int (nI (eStr g w))]) 0 (c_X2_strength hI (by omega)) kV_X6_29 rfl (by decide) (by decide) (Nat.le_of_ble_eq_true rfl) rfl rfl rfl dX6_prefers_7 ?_
  refine wf_icmp_le_n 17 dX6_prefers_10 (by decide) (by omega) (by omega) (fun c10 => ?_) (fun c10 => ?_)
  · refine wf_iconst (nI 0) dX6_prefers_17 (by decide) ?_
    exact wf_iret .boolean rfl (by decide) ⟨rfl, rfl⟩ ⟨congrArg (fun z => some (Value.int z)) (b1_zero (by unfold ePrf; rcases hk with rfl | rfl <;> simp <;> omega)), rfl⟩ dX6_prefers_18
  · refine wf_iconst (nI 1) dX6_prefers_13 (by decide) ?_
    refine wf_goto 18 dX6_prefers_14 (by decide) ?_
    exact wf_iret .boolean rfl (by decide) ⟨rfl, rfl⟩ ⟨congrArg (fun z => some (Value.int z)) (b1_one (by unfold ePrf; rcases hk with rfl | rfl <;> simp <;> omega)), rfl⟩ dX6_prefers_18
abbrev rmX0_prefers : Room := { frames := 1, cells := 0, slots := 0, locals := 22 }
set_option maxHeartbeats 4000000 in
set_option maxRecDepth 100000 in
theorem c_X0_prefers {l : Launch} {E : Ev} {k w c : Nat} {g : Gd} {a kk : Nat → Nat} {r : va_W} {h : Nat} (hI : Inv g) (hw : w < 10) (hc : c < 10) (hk : k = 2 ∨ k = 5) : CT l E yX0_prefers cX0_prefers 4 (some .boolean) rmX0_prefers [.ref h, .ref (a 0), .int (nI w), .int (nI c)] (wg E (kk 6) a g ++ (wk E kk ++ r)) (IS (some (.int (bI (ePrf g k w c)))) (wg E (kk 6) a g ++ (wk E kk ++ r))) := by
  refine CT.of (lv := [(0, .ref h), (1, .ref (a 0)), (2, .int (nI w)), (3, .int (nI c))]) false (by decide +kernel) (by decide) (Nat.le_of_ble_eq_true rfl) rfl ?_
  have f4 := hI.str w
  have f5 := hI.str c
  refine wf_aload_n 1 dX0_prefers_0 rfl ?_
  refine wf_iload_n 2 dX0_prefers_1 rfl ?_
  refine wf_callVD (As := [.int (nI w)]) (rest := []) 0 (c_X2_strength hI (by omega)) kV_X0_7 rfl (by decide) (by decide) (Nat.le_of_ble_eq_true rfl) rfl rfl rfl dX0_prefers_2 ?_
  refine wf_aload_n 1 dX0_prefers_5 rfl ?_
  refine wf_iload_n 3 dX0_prefers_6 rfl ?_
  refine wf_callVD (As := [.int (nI c)]) (rest := [.int (nI (eStr g w))]) 0 (c_X2_strength hI (by omega)) kV_X0_7 rfl (by decide) (by decide) (Nat.le_of_ble_eq_true rfl) rfl rfl rfl dX0_prefers_7 ?_
  refine wf_icmp_ge_n 17 dX0_prefers_10 (by decide) (by omega) (by omega) (fun c10 => ?_) (fun c10 => ?_)
  · refine wf_iconst (nI 0) dX0_prefers_17 (by decide) ?_
    exact wf_iret .boolean rfl (by decide) ⟨rfl, rfl⟩ ⟨congrArg (fun z => some (Value.int z)) (b1_zero (by unfold ePrf; rcases hk with rfl | rfl <;> simp <;> omega)), rfl⟩ dX0_prefers_18
  · refine wf_iconst (nI 1) dX0_prefers_13 (by decide) ?_
    refine wf_goto 18 dX0_prefers_14 (by decide) ?_
    exact wf_iret .boolean rfl (by decide) ⟨rfl, rfl⟩ ⟨congrArg (fun z => some (Value.int z)) (b1_one (by unfold ePrf; rcases hk with rfl | rfl <;> simp <;> omega)), rfl⟩ dX0_prefers_18
abbrev rmX7_prefers : Room := { frames := 0, cells := 0, slots := 0, locals := 0 }
set_option maxHeartbeats 4000000 in
set_option maxRecDepth 100000 in
theorem c_X7_prefers {l : Launch} {E : Ev} {k w c : Nat} {g : Gd} {a kk : Nat → Nat} {r : va_W} {h : Nat} (hk : k = 1) : CT l E yX7_prefers cX7_prefers 4 (some .boolean) rmX7_prefers [.ref h, .ref (a 0), .int (nI w), .int (nI c)] (wg E (kk 6) a g ++ (wk E kk ++ r)) (IS (some (.int (bI (ePrf g k w c)))) (wg E (kk 6) a g ++ (wk E kk ++ r))) := by
  refine CT.of (lv := [(0, .ref h), (1, .ref (a 0)), (2, .int (nI w)), (3, .int (nI c))]) false (by decide +kernel) (by decide) (Nat.le_of_ble_eq_true rfl) rfl ?_
  refine wf_iconst (nI 0) dX7_prefers_0 (by decide) ?_
  exact wf_iret .boolean rfl (by decide) ⟨rfl, rfl⟩ ⟨congrArg (fun z => some (Value.int z)) (b1_zero (by unfold ePrf; subst hk; rfl)), rfl⟩ dX7_prefers_1
abbrev rmX5_prefers : Room := { frames := 0, cells := 0, slots := 0, locals := 0 }
set_option maxHeartbeats 4000000 in
set_option maxRecDepth 100000 in
theorem c_X5_prefers {l : Launch} {E : Ev} {k w c : Nat} {g : Gd} {a kk : Nat → Nat} {r : va_W} {h : Nat} (hk : k = 3) : CT l E yX5_prefers cX5_prefers 4 (some .boolean) rmX5_prefers [.ref h, .ref (a 0), .int (nI w), .int (nI c)] (wg E (kk 6) a g ++ (wk E kk ++ r)) (IS (some (.int (bI (ePrf g k w c)))) (wg E (kk 6) a g ++ (wk E kk ++ r))) := by
  refine CT.of (lv := [(0, .ref h), (1, .ref (a 0)), (2, .int (nI w)), (3, .int (nI c))]) false (by decide +kernel) (by decide) (Nat.le_of_ble_eq_true rfl) rfl ?_
  refine wf_iconst (nI 1) dX5_prefers_0 (by decide) ?_
  exact wf_iret .boolean rfl (by decide) ⟨rfl, rfl⟩ ⟨congrArg (fun z => some (Value.int z)) (b1_one (by unfold ePrf; subst hk; rfl)), rfl⟩ dX5_prefers_1
end
section
abbrev rmX6_choice : Room := { frames := 2, cells := 0, slots := 0, locals := 45 }
set_option maxHeartbeats 4000000 in
set_option maxRecDepth 100000 in
theorem c_X6_choice_0 {l : Launch} {E : Ev} {t : Nat} {g : Gd} {a kk : Nat → Nat} {r : va_W} (hI : Inv g) (ht : t < 1000) : CT l E yX6_choice cX6_choice 5 (some .int) rmX6_choice [.ref (kk 0), .ref (a 0), .int (nI t)] (wg E (kk 6) a g ++ (wk E kk ++ r)) (IS (some (.int (eO (eCho g 0 t)))) (wg E (kk 6) a g ++ (wk E kk ++ r))) := by
  refine CT.of (lv := [(0, .ref (kk 0)), (1, .ref (a 0)), (2, .int (nI t))]) false (by decide +kernel) (by decide) (Nat.le_of_ble_eq_true rfl) rfl ?_
  have f0 := hI.words
  have f1 := hI.birds
  have f2 := hI.gone
  have f3 := hI.hour
  refine wf_bipush (-9) dX6_choice_0 (by decide) ?_
  refine wf_istore_n [(3, .int (-9)), (0, .ref (kk 0)), (1, .ref (a 0)), (2, .int (nI t))] dX6_choice_2 rfl (by decide) rfl ?_
  refine wf_iconst (nI 0) dX6_choice_3 (by decide) ?_
  refine wf_istore [(4, .int (nI 0)), (3, .int (-9)), (0, .ref (kk 0)), (1, .ref (a 0)), (2, .int (nI t))] dX6_choice_4 (by decide) rfl ?_
  have L6 : ∀ (fu6 : Nat) (n : Nat), g 9 0 - n < fu6 → (n ≤ g 9 0) → WF l E RX6 cX6_choice 5 (some .int) rmX6_choice false (fun _ => True) (QM E (wg E (kk 6) a g ++ (wk E kk ++ r)) (IS (some (.int (eO (eCho g 0 t)))) (wg E (kk 6) a g ++ (wk E kk ++ r))) rmX6_choice) (wg E (kk 6) a g ++ (wk E kk ++ r)) 0 0 6 [(4, .int (nI n)), (3, .int (eO (eCh g 0 t n))), (0, .ref (kk 0)), (1, .ref (a 0)), (2, .int (nI t))] [] (wg E (kk 6) a g ++ (wk E kk ++ r)) := by
    intro fu6
    induction fu6 with
    | zero => intro n hn; exact absurd hn (Nat.not_lt_zero _)
    | succ fu6 ih6 =>
      intro n hn hn0
      refine wf_iload 0 dX6_choice_6 rfl ?_
      refine wf_aload_n 3 dX6_choice_8 rfl ?_
      refine wf_getf (C := RX2) (T := TX2) (N := 14) (v := .int (nI (g 9 0))) 0 4 in_X2 rfl rfl (by decide) fl_X6_9 rfl dX6_choice_9 ?_
      refine wf_icmp_ge_n 64 dX6_choice_12 (by decide) (by omega) (by omega) (fun c12 => ?_) (fun c12 => ?_)
      · refine wf_iload_n 1 dX6_choice_64 rfl ?_
        exact wf_iret .int rfl (vp_nar_int _) ⟨rfl, rfl⟩ ⟨congrArg (fun z => some (Value.int z)) (by rw [show n = g 9 0 by omega]; rfl), rfl⟩ dX6_choice_65
      · refine wf_aload_n 3 dX6_choice_15 rfl ?_
        refine wf_iload 0 dX6_choice_16 rfl ?_
        refine wf_iload_n 4 dX6_choice_18 rfl ?_
        refine wf_callVD (As := [.int (nI n), .int (nI t)]) (rest := []) 0 (c_X2_mayBeEaten hI (by omega) (by omega)) kV_X6_15 rfl (by decide) (by decide) (Nat.le_of_ble_eq_true rfl) rfl rfl rfl dX6_choice_19 ?_
        refine wf_if_eq_b 58 dX6_choice_22 (by decide) (fun c22 => ?_) (fun c22 => ?_)
        · refine wf_iinc (nI (n + 1)) 0 [(4, .int (nI (n + 1))), (3, .int (eO (eCh g 0 t n))), (0, .ref (kk 0)), (1, .ref (a 0)), (2, .int (nI t))] dX6_choice_58 rfl (nI_1 n) (by decide) rfl ?_
          refine wf_goto 6 dX6_choice_61 (by decide) ?_
          refine wf_sub (lv' := [(4, .int (nI (n + 1))), (3, .int (eO (eCh g 0 t n))), (0, .ref (kk 0)), (1, .ref (a 0)), (2, .int (nI t))]) [0, 1, 2, 3, 4] rfl ?_
          rw [show eO (eCh g 0 t n) = eO (eCh g 0 t (n + 1)) from congrArg eO (eS_no1 c22).symm]
          exact ih6 (n + 1) (by omega) (by omega)
        · refine wf_aload_n 2 dX6_choice_25 rfl ?_
          refine wf_aload_n 3 dX6_choice_26 rfl ?_
          refine wf_iload 0 dX6_choice_27 rfl ?_
          refine wf_callUD (As := [.ref (a 0), .int (nI n)]) (rest := []) 11 (c_X6_reaches (k := 0) (by decide)) kU_X6_19_X6 rfl (by decide) (by decide) (Nat.le_of_ble_eq_true rfl) rfl rfl rfl dX6_choice_29 ?_
          refine wf_if_ne_b 38 dX6_choice_32 (by decide) (fun c32 => ?_) (fun c32 => ?_)
          · rcases hco : eCh g 0 t n with _ | c0
            · refine wf_iload_n 1 dX6_choice_38 rfl ?_
              refine wf_bipush (-9) dX6_choice_39 (by decide) ?_
              refine wf_icmp_eq 55 dX6_choice_41 (by decide) (fun c41 => ?_) (fun c41 => ?_)
              · refine wf_iload 0 dX6_choice_55 rfl ?_
                refine wf_istore_n [(3, .int (nI n)), (4, .int (nI n)), (0, .ref (kk 0)), (1, .ref (a 0)), (2, .int (nI t))] dX6_choice_57 rfl (by decide) rfl ?_
                refine wf_iinc (nI (n + 1)) 1 [(4, .int (nI (n + 1))), (3, .int (nI n)), (0, .ref (kk 0)), (1, .ref (a 0)), (2, .int (nI t))] dX6_choice_58 rfl (nI_1 n) (by decide) rfl ?_
                refine wf_goto 6 dX6_choice_61 (by decide) ?_
                refine wf_sub (lv' := [(4, .int (nI (n + 1))), (3, .int (nI n)), (0, .ref (kk 0)), (1, .ref (a 0)), (2, .int (nI t))]) [0, 1, 2, 3, 4] rfl ?_
                refine wf_lvc [(4, .int (nI (n + 1))), (3, .int (eO (eCh g 0 t (n + 1)))), (0, .ref (kk 0)), (1, .ref (a 0)), (2, .int (nI t))] (by rw [eS_new c22 c32 hco]; rfl) ?_
                exact ih6 (n + 1) (by omega) (by omega)
              · exact absurd rfl c41
            · have hc0 := eCh_lt g 0 t n c0 hco
              refine wf_iload_n 1 dX6_choice_38 rfl ?_
              refine wf_bipush (-9) dX6_choice_39 (by decide) ?_
              refine wf_icmp_eq 55 dX6_choice_41 (by decide) (fun c41 => ?_) (fun c41 => ?_)
              · exact absurd c41 (ne9 (by omega))
              · refine wf_aload_n 2 dX6_choice_44 rfl ?_
                refine wf_aload_n 3 dX6_choice_45 rfl ?_
                refine wf_iload 0 dX6_choice_46 rfl ?_
                refine wf_iload_n 1 dX6_choice_48 rfl ?_
                refine wf_callUD (As := [.ref (a 0), .int (nI n), .int (nI c0)]) (rest := []) 11 (c_X6_prefers (k := 0) hI (by omega) (by omega) (Or.inl rfl)) kU_X6_25_X6 rfl (by decide) (by decide) (Nat.le_of_ble_eq_true rfl) rfl rfl rfl dX6_choice_49 ?_
                refine wf_if_eq_b 58 dX6_choice_52 (by decide) (fun c52 => ?_) (fun c52 => ?_)
                · refine wf_iinc (nI (n + 1)) 0 [(4, .int (nI (n + 1))), (3, .int (nI c0)), (0, .ref (kk 0)), (1, .ref (a 0)), (2, .int (nI t))] dX6_choice_58 rfl (nI_1 n) (by decide) rfl ?_
                  refine wf_goto 6 dX6_choice_61 (by decide) ?_
                  refine wf_sub (lv' := [(4, .int (nI (n + 1))), (3, .int (nI c0)), (0, .ref (kk 0)), (1, .ref (a 0)), (2, .int (nI t))]) [0, 1, 2, 3, 4] rfl ?_
                  refine wf_lvc [(4, .int (nI (n + 1))), (3, .int (eO (eCh g 0 t (n + 1)))), (0, .ref (kk 0)), (1, .ref (a 0)), (2, .int (nI t))] (by rw [eS_not c22 c32 hco c52]; rfl) ?_
                  exact ih6 (n + 1) (by omega) (by omega)
                · refine wf_iload 0 dX6_choice_55 rfl ?_
                  refine wf_istore_n [(3, .int (nI n)), (4, .int (nI n)), (0, .ref (kk 0)), (1, .ref (a 0)), (2, .int (nI t))] dX6_choice_57 rfl (by decide) rfl ?_
                  refine wf_iinc (nI (n + 1)) 1 [(4, .int (nI (n + 1))), (3, .int (nI n)), (0, .ref (kk 0)), (1, .ref (a 0)), (2, .int (nI t))] dX6_choice_58 rfl (nI_1 n) (by decide) rfl ?_
                  refine wf_goto 6 dX6_choice_61 (by decide) ?_
                  refine wf_sub (lv' := [(4, .int (nI (n + 1))), (3, .int (nI n)), (0, .ref (kk 0)), (1, .ref (a 0)), (2, .int (nI t))]) [0, 1, 2, 3, 4] rfl ?_
                  refine wf_lvc [(4, .int (nI (n + 1))), (3, .int (eO (eCh g 0 t (n + 1)))), (0, .ref (kk 0)), (1, .ref (a 0)), (2, .int (nI t))] (by rw [eS_prf c22 c32 hco c52]; rfl) ?_
                  exact ih6 (n + 1) (by omega) (by omega)
          · refine wf_goto 58 dX6_choice_35 (by decide) ?_
            refine wf_iinc (nI (n + 1)) 0 [(4, .int (nI (n + 1))), (3, .int (eO (eCh g 0 t n))), (0, .ref (kk 0)), (1, .ref (a 0)), (2, .int (nI t))] dX6_choice_58 rfl (nI_1 n) (by decide) rfl ?_
            refine wf_goto 6 dX6_choice_61 (by decide) ?_
            refine wf_sub (lv' := [(4, .int (nI (n + 1))), (3, .int (eO (eCh g 0 t n))), (0, .ref (kk 0)), (1, .ref (a 0)), (2, .int (nI t))]) [0, 1, 2, 3, 4] rfl ?_
            rw [show eO (eCh g 0 t n) = eO (eCh g 0 t (n + 1)) from congrArg eO (eS_no2 c32).symm]
            exact ih6 (n + 1) (by omega) (by omega)
  refine wf_sub (lv' := [(4, .int (nI 0)), (3, .int (-9)), (0, .ref (kk 0)), (1, .ref (a 0)), (2, .int (nI t))]) [0, 1, 2, 3, 4] rfl ?_
  exact L6 _ 0 (Nat.lt_succ_self _) (Nat.zero_le _)
set_option maxHeartbeats 4000000 in
set_option maxRecDepth 100000 in
theorem c_X6_choice_1 {l : Launch} {E : Ev} {t : Nat} {g : Gd} {a kk : Nat → Nat} {r : va_W} (hI : Inv g) (ht : t < 1000) : CT l E yX6_choice cX6_choice 5 (some .int) rmX6_choice [.ref (kk 1), .ref (a 0), .int (nI t)] (wg E (kk 6) a g ++ (wk E kk ++ r)) (IS (some (.int (eO (eCho g 1 t)))) (wg E (kk 6) a g ++ (wk E kk ++ r))) := by
  refine CT.of (lv := [(0, .ref (kk 1)), (1, .ref (a 0)), (2, .int (nI t))]) false (by decide +kernel) (by decide) (Nat.le_of_ble_eq_true rfl) rfl ?_
  have f0 := hI.words
  have f1 := hI.birds
  have f2 := hI.gone
  have f3 := hI.hour
  refine wf_bipush (-9) dX6_choice_0 (by decide) ?_
  refine wf_istore_n [(3, .int (-9)), (0, .ref (kk 1)), (1, .ref (a 0)), (2, .int (nI t))] dX6_choice_2 rfl (by decide) rfl ?_
  refine wf_iconst (nI 0) dX6_choice_3 (by decide) ?_
  refine wf_istore [(4, .int (nI 0)), (3, .int (-9)), (0, .ref (kk 1)), (1, .ref (a 0)), (2, .int (nI t))] dX6_choice_4 (by decide) rfl ?_
  have L6 : ∀ (fu6 : Nat) (n : Nat), g 9 0 - n < fu6 → (n ≤ g 9 0) → WF l E RX6 cX6_choice 5 (some .int) rmX6_choice false (fun _ => True) (QM E (wg E (kk 6) a g ++ (wk E kk ++ r)) (IS (some (.int (eO (eCho g 1 t)))) (wg E (kk 6) a g ++ (wk E kk ++ r))) rmX6_choice) (wg E (kk 6) a g ++ (wk E kk ++ r)) 0 0 6 [(4, .int (nI n)), (3, .int (eO (eCh g 1 t n))), (0, .ref (kk 1)), (1, .ref (a 0)), (2, .int (nI t))] [] (wg E (kk 6) a g ++ (wk E kk ++ r)) := by
    intro fu6
    induction fu6 with
    | zero => intro n hn; exact absurd hn (Nat.not_lt_zero _)
    | succ fu6 ih6 =>
      intro n hn hn0
      refine wf_iload 0 dX6_choice_6 rfl ?_
      refine wf_aload_n 3 dX6_choice_8 rfl ?_
      refine wf_getf (C := RX2) (T := TX2) (N := 14) (v := .int (nI (g 9 0))) 0 4 in_X2 rfl rfl (by decide) fl_X6_9 rfl dX6_choice_9 ?_
      refine wf_icmp_ge_n 64 dX6_choice_12 (by decide) (by omega) (by omega) (fun c12 => ?_) (fun c12 => ?_)
      · refine wf_iload_n 1 dX6_choice_64 rfl ?_
        exact wf_iret .int rfl (vp_nar_int _) ⟨rfl, rfl⟩ ⟨congrArg (fun z => some (Value.int z)) (by rw [show n = g 9 0 by omega]; rfl), rfl⟩ dX6_choice_65
      · refine wf_aload_n 3 dX6_choice_15 rfl ?_
        refine wf_iload 0 dX6_choice_16 rfl ?_
        refine wf_iload_n 4 dX6_choice_18 rfl ?_
        refine wf_callVD (As := [.int (nI n), .int (nI t)]) (rest := []) 0 (c_X2_mayBeEaten hI (by omega) (by omega)) kV_X6_15 rfl (by decide) (by decide) (Nat.le_of_ble_eq_true rfl) rfl rfl rfl dX6_choice_19 ?_
        refine wf_if_eq_b 58 dX6_choice_22 (by decide) (fun c22 => ?_) (fun c22 => ?_)
        · refine wf_iinc (nI (n + 1)) 0 [(4, .int (nI (n + 1))), (3, .int (eO (eCh g 1 t n))), (0, .ref (kk 1)), (1, .ref (a 0)), (2, .int (nI t))] dX6_choice_58 rfl (nI_1 n) (by decide) rfl ?_
          refine wf_goto 6 dX6_choice_61 (by decide) ?_
          refine wf_sub (lv' := [(4, .int (nI (n + 1))), (3, .int (eO (eCh g 1 t n))), (0, .ref (kk 1)), (1, .ref (a 0)), (2, .int (nI t))]) [0, 1, 2, 3, 4] rfl ?_
          rw [show eO (eCh g 1 t n) = eO (eCh g 1 t (n + 1)) from congrArg eO (eS_no1 c22).symm]
          exact ih6 (n + 1) (by omega) (by omega)
        · refine wf_aload_n 2 dX6_choice_25 rfl ?_
          refine wf_aload_n 3 dX6_choice_26 rfl ?_
          refine wf_iload 0 dX6_choice_27 rfl ?_
          refine wf_callUD (As := [.ref (a 0), .int (nI n)]) (rest := []) 12 (c_X6_reaches (k := 1) (by decide)) kU_X6_19_X7 rfl (by decide) (by decide) (Nat.le_of_ble_eq_true rfl) rfl rfl rfl dX6_choice_29 ?_
          refine wf_if_ne_b 38 dX6_choice_32 (by decide) (fun c32 => ?_) (fun c32 => ?_)
          · rcases hco : eCh g 1 t n with _ | c0
            · refine wf_iload_n 1 dX6_choice_38 rfl ?_
              refine wf_bipush (-9) dX6_choice_39 (by decide) ?_
              refine wf_icmp_eq 55 dX6_choice_41 (by decide) (fun c41 => ?_) (fun c41 => ?_)
              · refine wf_iload 0 dX6_choice_55 rfl ?_
                refine wf_istore_n [(3, .int (nI n)), (4, .int (nI n)), (0, .ref (kk 1)), (1, .ref (a 0)), (2, .int (nI t))] dX6_choice_57 rfl (by decide) rfl ?_
                refine wf_iinc (nI (n + 1)) 1 [(4, .int (nI (n + 1))), (3, .int (nI n)), (0, .ref (kk 1)), (1, .ref (a 0)), (2, .int (nI t))] dX6_choice_58 rfl (nI_1 n) (by decide) rfl ?_
                refine wf_goto 6 dX6_choice_61 (by decide) ?_
                refine wf_sub (lv' := [(4, .int (nI (n + 1))), (3, .int (nI n)), (0, .ref (kk 1)), (1, .ref (a 0)), (2, .int (nI t))]) [0, 1, 2, 3, 4] rfl ?_
                refine wf_lvc [(4, .int (nI (n + 1))), (3, .int (eO (eCh g 1 t (n + 1)))), (0, .ref (kk 1)), (1, .ref (a 0)), (2, .int (nI t))] (by rw [eS_new c22 c32 hco]; rfl) ?_
                exact ih6 (n + 1) (by omega) (by omega)
              · exact absurd rfl c41
            · have hc0 := eCh_lt g 1 t n c0 hco
              refine wf_iload_n 1 dX6_choice_38 rfl ?_
              refine wf_bipush (-9) dX6_choice_39 (by decide) ?_
              refine wf_icmp_eq 55 dX6_choice_41 (by decide) (fun c41 => ?_) (fun c41 => ?_)
              · exact absurd c41 (ne9 (by omega))
              · refine wf_aload_n 2 dX6_choice_44 rfl ?_
                refine wf_aload_n 3 dX6_choice_45 rfl ?_
                refine wf_iload 0 dX6_choice_46 rfl ?_
                refine wf_iload_n 1 dX6_choice_48 rfl ?_
                refine wf_callUD (As := [.ref (a 0), .int (nI n), .int (nI c0)]) (rest := []) 12 (c_X7_prefers (k := 1) rfl) kU_X6_25_X7 rfl (by decide) (by decide) (Nat.le_of_ble_eq_true rfl) rfl rfl rfl dX6_choice_49 ?_
                refine wf_if_eq_b 58 dX6_choice_52 (by decide) (fun c52 => ?_) (fun c52 => ?_)
                · refine wf_iinc (nI (n + 1)) 0 [(4, .int (nI (n + 1))), (3, .int (nI c0)), (0, .ref (kk 1)), (1, .ref (a 0)), (2, .int (nI t))] dX6_choice_58 rfl (nI_1 n) (by decide) rfl ?_
                  refine wf_goto 6 dX6_choice_61 (by decide) ?_
                  refine wf_sub (lv' := [(4, .int (nI (n + 1))), (3, .int (nI c0)), (0, .ref (kk 1)), (1, .ref (a 0)), (2, .int (nI t))]) [0, 1, 2, 3, 4] rfl ?_
                  refine wf_lvc [(4, .int (nI (n + 1))), (3, .int (eO (eCh g 1 t (n + 1)))), (0, .ref (kk 1)), (1, .ref (a 0)), (2, .int (nI t))] (by rw [eS_not c22 c32 hco c52]; rfl) ?_
                  exact ih6 (n + 1) (by omega) (by omega)
                · refine wf_iload 0 dX6_choice_55 rfl ?_
                  refine wf_istore_n [(3, .int (nI n)), (4, .int (nI n)), (0, .ref (kk 1)), (1, .ref (a 0)), (2, .int (nI t))] dX6_choice_57 rfl (by decide) rfl ?_
                  refine wf_iinc (nI (n + 1)) 1 [(4, .int (nI (n + 1))), (3, .int (nI n)), (0, .ref (kk 1)), (1, .ref (a 0)), (2, .int (nI t))] dX6_choice_58 rfl (nI_1 n) (by decide) rfl ?_
                  refine wf_goto 6 dX6_choice_61 (by decide) ?_
                  refine wf_sub (lv' := [(4, .int (nI (n + 1))), (3, .int (nI n)), (0, .ref (kk 1)), (1, .ref (a 0)), (2, .int (nI t))]) [0, 1, 2, 3, 4] rfl ?_
                  refine wf_lvc [(4, .int (nI (n + 1))), (3, .int (eO (eCh g 1 t (n + 1)))), (0, .ref (kk 1)), (1, .ref (a 0)), (2, .int (nI t))] (by rw [eS_prf c22 c32 hco c52]; rfl) ?_
                  exact ih6 (n + 1) (by omega) (by omega)
          · refine wf_goto 58 dX6_choice_35 (by decide) ?_
            refine wf_iinc (nI (n + 1)) 0 [(4, .int (nI (n + 1))), (3, .int (eO (eCh g 1 t n))), (0, .ref (kk 1)), (1, .ref (a 0)), (2, .int (nI t))] dX6_choice_58 rfl (nI_1 n) (by decide) rfl ?_
            refine wf_goto 6 dX6_choice_61 (by decide) ?_
            refine wf_sub (lv' := [(4, .int (nI (n + 1))), (3, .int (eO (eCh g 1 t n))), (0, .ref (kk 1)), (1, .ref (a 0)), (2, .int (nI t))]) [0, 1, 2, 3, 4] rfl ?_
            rw [show eO (eCh g 1 t n) = eO (eCh g 1 t (n + 1)) from congrArg eO (eS_no2 c32).symm]
            exact ih6 (n + 1) (by omega) (by omega)
  refine wf_sub (lv' := [(4, .int (nI 0)), (3, .int (-9)), (0, .ref (kk 1)), (1, .ref (a 0)), (2, .int (nI t))]) [0, 1, 2, 3, 4] rfl ?_
  exact L6 _ 0 (Nat.lt_succ_self _) (Nat.zero_le _)
set_option maxHeartbeats 4000000 in
set_option maxRecDepth 100000 in
theorem c_X6_choice_2 {l : Launch} {E : Ev} {t : Nat} {g : Gd} {a kk : Nat → Nat} {r : va_W} (hI : Inv g) (ht : t < 1000) : CT l E yX6_choice cX6_choice 5 (some .int) rmX6_choice [.ref (kk 2), .ref (a 0), .int (nI t)] (wg E (kk 6) a g ++ (wk E kk ++ r)) (IS (some (.int (eO (eCho g 2 t)))) (wg E (kk 6) a g ++ (wk E kk ++ r))) := by
  refine CT.of (lv := [(0, .ref (kk 2)), (1, .ref (a 0)), (2, .int (nI t))]) false (by decide +kernel) (by decide) (Nat.le_of_ble_eq_true rfl) rfl ?_
  have f0 := hI.words
  have f1 := hI.birds
  have f2 := hI.gone
  have f3 := hI.hour
  refine wf_bipush (-9) dX6_choice_0 (by decide) ?_
  refine wf_istore_n [(3, .int (-9)), (0, .ref (kk 2)), (1, .ref (a 0)), (2, .int (nI t))] dX6_choice_2 rfl (by decide) rfl ?_
  refine wf_iconst (nI 0) dX6_choice_3 (by decide) ?_
  refine wf_istore [(4, .int (nI 0)), (3, .int (-9)), (0, .ref (kk 2)), (1, .ref (a 0)), (2, .int (nI t))] dX6_choice_4 (by decide) rfl ?_
  have L6 : ∀ (fu6 : Nat) (n : Nat), g 9 0 - n < fu6 → (n ≤ g 9 0) → WF l E RX6 cX6_choice 5 (some .int) rmX6_choice false (fun _ => True) (QM E (wg E (kk 6) a g ++ (wk E kk ++ r)) (IS (some (.int (eO (eCho g 2 t)))) (wg E (kk 6) a g ++ (wk E kk ++ r))) rmX6_choice) (wg E (kk 6) a g ++ (wk E kk ++ r)) 0 0 6 [(4, .int (nI n)), (3, .int (eO (eCh g 2 t n))), (0, .ref (kk 2)), (1, .ref (a 0)), (2, .int (nI t))] [] (wg E (kk 6) a g ++ (wk E kk ++ r)) := by
    intro fu6
    induction fu6 with
    | zero => intro n hn; exact absurd hn (Nat.not_lt_zero _)
    | succ fu6 ih6 =>
      intro n hn hn0
      refine wf_iload 0 dX6_choice_6 rfl ?_
      refine wf_aload_n 3 dX6_choice_8 rfl ?_
      refine wf_getf (C := RX2) (T := TX2) (N := 14) (v := .int (nI (g 9 0))) 0 4 in_X2 rfl rfl (by decide) fl_X6_9 rfl dX6_choice_9 ?_
      refine wf_icmp_ge_n 64 dX6_choice_12 (by decide) (by omega) (by omega) (fun c12 => ?_) (fun c12 => ?_)
      · refine wf_iload_n 1 dX6_choice_64 rfl ?_
        exact wf_iret .int rfl (vp_nar_int _) ⟨rfl, rfl⟩ ⟨congrArg (fun z => some (Value.int z)) (by rw [show n = g 9 0 by omega]; rfl), rfl⟩ dX6_choice_65
      · refine wf_aload_n 3 dX6_choice_15 rfl ?_
        refine wf_iload 0 dX6_choice_16 rfl ?_
        refine wf_iload_n 4 dX6_choice_18 rfl ?_
        refine wf_callVD (As := [.int (nI n), .int (nI t)]) (rest := []) 0 (c_X2_mayBeEaten hI (by omega) (by omega)) kV_X6_15 rfl (by decide) (by decide) (Nat.le_of_ble_eq_true rfl) rfl rfl rfl dX6_choice_19 ?_
        refine wf_if_eq_b 58 dX6_choice_22 (by decide) (fun c22 => ?_) (fun c22 => ?_)
        · refine wf_iinc (nI (n + 1)) 0 [(4, .int (nI (n + 1))), (3, .int (eO (eCh g 2 t n))), (0, .ref (kk 2)), (1, .ref (a 0)), (2, .int (nI t))] dX6_choice_58 rfl (nI_1 n) (by decide) rfl ?_
          refine wf_goto 6 dX6_choice_61 (by decide) ?_
          refine wf_sub (lv' := [(4, .int (nI (n + 1))), (3, .int (eO (eCh g 2 t n))), (0, .ref (kk 2)), (1, .ref (a 0)), (2, .int (nI t))]) [0, 1, 2, 3, 4] rfl ?_
          rw [show eO (eCh g 2 t n) = eO (eCh g 2 t (n + 1)) from congrArg eO (eS_no1 c22).symm]
          exact ih6 (n + 1) (by omega) (by omega)
        · refine wf_aload_n 2 dX6_choice_25 rfl ?_
          refine wf_aload_n 3 dX6_choice_26 rfl ?_
          refine wf_iload 0 dX6_choice_27 rfl ?_
          refine wf_callUD (As := [.ref (a 0), .int (nI n)]) (rest := []) 13 (c_X6_reaches (k := 2) (by decide)) kU_X6_19_X0 rfl (by decide) (by decide) (Nat.le_of_ble_eq_true rfl) rfl rfl rfl dX6_choice_29 ?_
          refine wf_if_ne_b 38 dX6_choice_32 (by decide) (fun c32 => ?_) (fun c32 => ?_)
          · rcases hco : eCh g 2 t n with _ | c0
            · refine wf_iload_n 1 dX6_choice_38 rfl ?_
              refine wf_bipush (-9) dX6_choice_39 (by decide) ?_
              refine wf_icmp_eq 55 dX6_choice_41 (by decide) (fun c41 => ?_) (fun c41 => ?_)
              · refine wf_iload 0 dX6_choice_55 rfl ?_
                refine wf_istore_n [(3, .int (nI n)), (4, .int (nI n)), (0, .ref (kk 2)), (1, .ref (a 0)), (2, .int (nI t))] dX6_choice_57 rfl (by decide) rfl ?_
                refine wf_iinc (nI (n + 1)) 1 [(4, .int (nI (n + 1))), (3, .int (nI n)), (0, .ref (kk 2)), (1, .ref (a 0)), (2, .int (nI t))] dX6_choice_58 rfl (nI_1 n) (by decide) rfl ?_
                refine wf_goto 6 dX6_choice_61 (by decide) ?_
                refine wf_sub (lv' := [(4, .int (nI (n + 1))), (3, .int (nI n)), (0, .ref (kk 2)), (1, .ref (a 0)), (2, .int (nI t))]) [0, 1, 2, 3, 4] rfl ?_
                refine wf_lvc [(4, .int (nI (n + 1))), (3, .int (eO (eCh g 2 t (n + 1)))), (0, .ref (kk 2)), (1, .ref (a 0)), (2, .int (nI t))] (by rw [eS_new c22 c32 hco]; rfl) ?_
                exact ih6 (n + 1) (by omega) (by omega)
              · exact absurd rfl c41
            · have hc0 := eCh_lt g 2 t n c0 hco
              refine wf_iload_n 1 dX6_choice_38 rfl ?_
              refine wf_bipush (-9) dX6_choice_39 (by decide) ?_
              refine wf_icmp_eq 55 dX6_choice_41 (by decide) (fun c41 => ?_) (fun c41 => ?_)
              · exact absurd c41 (ne9 (by omega))
              · refine wf_aload_n 2 dX6_choice_44 rfl ?_
                refine wf_aload_n 3 dX6_choice_45 rfl ?_
                refine wf_iload 0 dX6_choice_46 rfl ?_
                refine wf_iload_n 1 dX6_choice_48 rfl ?_
                refine wf_callUD (As := [.ref (a 0), .int (nI n), .int (nI c0)]) (rest := []) 13 (c_X0_prefers (k := 2) hI (by omega) (by omega) (Or.inl rfl)) kU_X6_25_X0 rfl (by decide) (by decide) (Nat.le_of_ble_eq_true rfl) rfl rfl rfl dX6_choice_49 ?_
                refine wf_if_eq_b 58 dX6_choice_52 (by decide) (fun c52 => ?_) (fun c52 => ?_)
                · refine wf_iinc (nI (n + 1)) 0 [(4, .int (nI (n + 1))), (3, .int (nI c0)), (0, .ref (kk 2)), (1, .ref (a 0)), (2, .int (nI t))] dX6_choice_58 rfl (nI_1 n) (by decide) rfl ?_
                  refine wf_goto 6 dX6_choice_61 (by decide) ?_
                  refine wf_sub (lv' := [(4, .int (nI (n + 1))), (3, .int (nI c0)), (0, .ref (kk 2)), (1, .ref (a 0)), (2, .int (nI t))]) [0, 1, 2, 3, 4] rfl ?_
                  refine wf_lvc [(4, .int (nI (n + 1))), (3, .int (eO (eCh g 2 t (n + 1)))), (0, .ref (kk 2)), (1, .ref (a 0)), (2, .int (nI t))] (by rw [eS_not c22 c32 hco c52]; rfl) ?_
                  exact ih6 (n + 1) (by omega) (by omega)
                · refine wf_iload 0 dX6_choice_55 rfl ?_
                  refine wf_istore_n [(3, .int (nI n)), (4, .int (nI n)), (0, .ref (kk 2)), (1, .ref (a 0)), (2, .int (nI t))] dX6_choice_57 rfl (by decide) rfl ?_
                  refine wf_iinc (nI (n + 1)) 1 [(4, .int (nI (n + 1))), (3, .int (nI n)), (0, .ref (kk 2)), (1, .ref (a 0)), (2, .int (nI t))] dX6_choice_58 rfl (nI_1 n) (by decide) rfl ?_
                  refine wf_goto 6 dX6_choice_61 (by decide) ?_
                  refine wf_sub (lv' := [(4, .int (nI (n + 1))), (3, .int (nI n)), (0, .ref (kk 2)), (1, .ref (a 0)), (2, .int (nI t))]) [0, 1, 2, 3, 4] rfl ?_
                  refine wf_lvc [(4, .int (nI (n + 1))), (3, .int (eO (eCh g 2 t (n + 1)))), (0, .ref (kk 2)), (1, .ref (a 0)), (2, .int (nI t))] (by rw [eS_prf c22 c32 hco c52]; rfl) ?_
                  exact ih6 (n + 1) (by omega) (by omega)
          · refine wf_goto 58 dX6_choice_35 (by decide) ?_
            refine wf_iinc (nI (n + 1)) 0 [(4, .int (nI (n + 1))), (3, .int (eO (eCh g 2 t n))), (0, .ref (kk 2)), (1, .ref (a 0)), (2, .int (nI t))] dX6_choice_58 rfl (nI_1 n) (by decide) rfl ?_
            refine wf_goto 6 dX6_choice_61 (by decide) ?_
            refine wf_sub (lv' := [(4, .int (nI (n + 1))), (3, .int (eO (eCh g 2 t n))), (0, .ref (kk 2)), (1, .ref (a 0)), (2, .int (nI t))]) [0, 1, 2, 3, 4] rfl ?_
            rw [show eO (eCh g 2 t n) = eO (eCh g 2 t (n + 1)) from congrArg eO (eS_no2 c32).symm]
            exact ih6 (n + 1) (by omega) (by omega)
  refine wf_sub (lv' := [(4, .int (nI 0)), (3, .int (-9)), (0, .ref (kk 2)), (1, .ref (a 0)), (2, .int (nI t))]) [0, 1, 2, 3, 4] rfl ?_
  exact L6 _ 0 (Nat.lt_succ_self _) (Nat.zero_le _)
set_option maxHeartbeats 4000000 in
set_option maxRecDepth 100000 in
theorem c_X6_choice_3 {l : Launch} {E : Ev} {t : Nat} {g : Gd} {a kk : Nat → Nat} {r : va_W} (hI : Inv g) (ht : t < 1000) : CT l E yX6_choice cX6_choice 5 (some .int) rmX6_choice [.ref (kk 3), .ref (a 0), .int (nI t)] (wg E (kk 6) a g ++ (wk E kk ++ r)) (IS (some (.int (eO (eCho g 3 t)))) (wg E (kk 6) a g ++ (wk E kk ++ r))) := by
  refine CT.of (lv := [(0, .ref (kk 3)), (1, .ref (a 0)), (2, .int (nI t))]) false (by decide +kernel) (by decide) (Nat.le_of_ble_eq_true rfl) rfl ?_
  have f0 := hI.words
  have f1 := hI.birds
  have f2 := hI.gone
  have f3 := hI.hour
  refine wf_bipush (-9) dX6_choice_0 (by decide) ?_
  refine wf_istore_n [(3, .int (-9)), (0, .ref (kk 3)), (1, .ref (a 0)), (2, .int (nI t))] dX6_choice_2 rfl (by decide) rfl ?_
  refine wf_iconst (nI 0) dX6_choice_3 (by decide) ?_
  refine wf_istore [(4, .int (nI 0)), (3, .int (-9)), (0, .ref (kk 3)), (1, .ref (a 0)), (2, .int (nI t))] dX6_choice_4 (by decide) rfl ?_
  have L6 : ∀ (fu6 : Nat) (n : Nat), g 9 0 - n < fu6 → (n ≤ g 9 0) → WF l E RX6 cX6_choice 5 (some .int) rmX6_choice false (fun _ => True) (QM E (wg E (kk 6) a g ++ (wk E kk ++ r)) (IS (some (.int (eO (eCho g 3 t)))) (wg E (kk 6) a g ++ (wk E kk ++ r))) rmX6_choice) (wg E (kk 6) a g ++ (wk E kk ++ r)) 0 0 6 [(4, .int (nI n)), (3, .int (eO (eCh g 3 t n))), (0, .ref (kk 3)), (1, .ref (a 0)), (2, .int (nI t))] [] (wg E (kk 6) a g ++ (wk E kk ++ r)) := by
    intro fu6
    induction fu6 with
    | zero => intro n hn; exact absurd hn (Nat.not_lt_zero _)
    | succ fu6 ih6 =>
      intro n hn hn0
      refine wf_iload 0 dX6_choice_6 rfl ?_
      refine wf_aload_n 3 dX6_choice_8 rfl ?_
      refine wf_getf (C := RX2) (T := TX2) (N := 14) (v := .int (nI (g 9 0))) 0 4 in_X2 rfl rfl (by decide) fl_X6_9 rfl dX6_choice_9 ?_
      refine wf_icmp_ge_n 64 dX6_choice_12 (by decide) (by omega) (by omega) (fun c12 => ?_) (fun c12 => ?_)
      · refine wf_iload_n 1 dX6_choice_64 rfl ?_
        exact wf_iret .int rfl (vp_nar_int _) ⟨rfl, rfl⟩ ⟨congrArg (fun z => some (Value.int z)) (by rw [show n = g 9 0 by omega]; rfl), rfl⟩ dX6_choice_65
      · refine wf_aload_n 3 dX6_choice_15 rfl ?_
        refine wf_iload 0 dX6_choice_16 rfl ?_
        refine wf_iload_n 4 dX6_choice_18 rfl ?_
        refine wf_callVD (As := [.int (nI n), .int (nI t)]) (rest := []) 0 (c_X2_mayBeEaten hI (by omega) (by omega)) kV_X6_15 rfl (by decide) (by decide) (Nat.le_of_ble_eq_true rfl) rfl rfl rfl dX6_choice_19 ?_
        refine wf_if_eq_b 58 dX6_choice_22 (by decide) (fun c22 => ?_) (fun c22 => ?_)
        · refine wf_iinc (nI (n + 1)) 0 [(4, .int (nI (n + 1))), (3, .int (eO (eCh g 3 t n))), (0, .ref (kk 3)), (1, .ref (a 0)), (2, .int (nI t))] dX6_choice_58 rfl (nI_1 n) (by decide) rfl ?_
          refine wf_goto 6 dX6_choice_61 (by decide) ?_
          refine wf_sub (lv' := [(4, .int (nI (n + 1))), (3, .int (eO (eCh g 3 t n))), (0, .ref (kk 3)), (1, .ref (a 0)), (2, .int (nI t))]) [0, 1, 2, 3, 4] rfl ?_
          rw [show eO (eCh g 3 t n) = eO (eCh g 3 t (n + 1)) from congrArg eO (eS_no1 c22).symm]
          exact ih6 (n + 1) (by omega) (by omega)
        · refine wf_aload_n 2 dX6_choice_25 rfl ?_
          refine wf_aload_n 3 dX6_choice_26 rfl ?_
          refine wf_iload 0 dX6_choice_27 rfl ?_
          refine wf_callUD (As := [.ref (a 0), .int (nI n)]) (rest := []) 14 (c_X6_reaches (k := 3) (by decide)) kU_X6_19_X5 rfl (by decide) (by decide) (Nat.le_of_ble_eq_true rfl) rfl rfl rfl dX6_choice_29 ?_
          refine wf_if_ne_b 38 dX6_choice_32 (by decide) (fun c32 => ?_) (fun c32 => ?_)
          · rcases hco : eCh g 3 t n with _ | c0
            · refine wf_iload_n 1 dX6_choice_38 rfl ?_
              refine wf_bipush (-9) dX6_choice_39 (by decide) ?_
              refine wf_icmp_eq 55 dX6_choice_41 (by decide) (fun c41 => ?_) (fun c41 => ?_)
              · refine wf_iload 0 dX6_choice_55 rfl ?_
                refine wf_istore_n [(3, .int (nI n)), (4, .int (nI n)), (0, .ref (kk 3)), (1, .ref (a 0)), (2, .int (nI t))] dX6_choice_57 rfl (by decide) rfl ?_
                refine wf_iinc (nI (n + 1)) 1 [(4, .int (nI (n + 1))), (3, .int (nI n)), (0, .ref (kk 3)), (1, .ref (a 0)), (2, .int (nI t))] dX6_choice_58 rfl (nI_1 n) (by decide) rfl ?_
                refine wf_goto 6 dX6_choice_61 (by decide) ?_
                refine wf_sub (lv' := [(4, .int (nI (n + 1))), (3, .int (nI n)), (0, .ref (kk 3)), (1, .ref (a 0)), (2, .int (nI t))]) [0, 1, 2, 3, 4] rfl ?_
                refine wf_lvc [(4, .int (nI (n + 1))), (3, .int (eO (eCh g 3 t (n + 1)))), (0, .ref (kk 3)), (1, .ref (a 0)), (2, .int (nI t))] (by rw [eS_new c22 c32 hco]; rfl) ?_
                exact ih6 (n + 1) (by omega) (by omega)
              · exact absurd rfl c41
            · have hc0 := eCh_lt g 3 t n c0 hco
              refine wf_iload_n 1 dX6_choice_38 rfl ?_
              refine wf_bipush (-9) dX6_choice_39 (by decide) ?_
              refine wf_icmp_eq 55 dX6_choice_41 (by decide) (fun c41 => ?_) (fun c41 => ?_)
              · exact absurd c41 (ne9 (by omega))
              · refine wf_aload_n 2 dX6_choice_44 rfl ?_
                refine wf_aload_n 3 dX6_choice_45 rfl ?_
                refine wf_iload 0 dX6_choice_46 rfl ?_
                refine wf_iload_n 1 dX6_choice_48 rfl ?_
                refine wf_callUD (As := [.ref (a 0), .int (nI n), .int (nI c0)]) (rest := []) 14 (c_X5_prefers (k := 3) rfl) kU_X6_25_X5 rfl (by decide) (by decide) (Nat.le_of_ble_eq_true rfl) rfl rfl rfl dX6_choice_49 ?_
                refine wf_if_eq_b 58 dX6_choice_52 (by decide) (fun c52 => ?_) (fun c52 => ?_)
                · refine wf_iinc (nI (n + 1)) 0 [(4, .int (nI (n + 1))), (3, .int (nI c0)), (0, .ref (kk 3)), (1, .ref (a 0)), (2, .int (nI t))] dX6_choice_58 rfl (nI_1 n) (by decide) rfl ?_
                  refine wf_goto 6 dX6_choice_61 (by decide) ?_
                  refine wf_sub (lv' := [(4, .int (nI (n + 1))), (3, .int (nI c0)), (0, .ref (kk 3)), (1, .ref (a 0)), (2, .int (nI t))]) [0, 1, 2, 3, 4] rfl ?_
                  refine wf_lvc [(4, .int (nI (n + 1))), (3, .int (eO (eCh g 3 t (n + 1)))), (0, .ref (kk 3)), (1, .ref (a 0)), (2, .int (nI t))] (by rw [eS_not c22 c32 hco c52]; rfl) ?_
                  exact ih6 (n + 1) (by omega) (by omega)
                · refine wf_iload 0 dX6_choice_55 rfl ?_
                  refine wf_istore_n [(3, .int (nI n)), (4, .int (nI n)), (0, .ref (kk 3)), (1, .ref (a 0)), (2, .int (nI t))] dX6_choice_57 rfl (by decide) rfl ?_
                  refine wf_iinc (nI (n + 1)) 1 [(4, .int (nI (n + 1))), (3, .int (nI n)), (0, .ref (kk 3)), (1, .ref (a 0)), (2, .int (nI t))] dX6_choice_58 rfl (nI_1 n) (by decide) rfl ?_
                  refine wf_goto 6 dX6_choice_61 (by decide) ?_
                  refine wf_sub (lv' := [(4, .int (nI (n + 1))), (3, .int (nI n)), (0, .ref (kk 3)), (1, .ref (a 0)), (2, .int (nI t))]) [0, 1, 2, 3, 4] rfl ?_
                  refine wf_lvc [(4, .int (nI (n + 1))), (3, .int (eO (eCh g 3 t (n + 1)))), (0, .ref (kk 3)), (1, .ref (a 0)), (2, .int (nI t))] (by rw [eS_prf c22 c32 hco c52]; rfl) ?_
                  exact ih6 (n + 1) (by omega) (by omega)
          · refine wf_goto 58 dX6_choice_35 (by decide) ?_
            refine wf_iinc (nI (n + 1)) 0 [(4, .int (nI (n + 1))), (3, .int (eO (eCh g 3 t n))), (0, .ref (kk 3)), (1, .ref (a 0)), (2, .int (nI t))] dX6_choice_58 rfl (nI_1 n) (by decide) rfl ?_
            refine wf_goto 6 dX6_choice_61 (by decide) ?_
            refine wf_sub (lv' := [(4, .int (nI (n + 1))), (3, .int (eO (eCh g 3 t n))), (0, .ref (kk 3)), (1, .ref (a 0)), (2, .int (nI t))]) [0, 1, 2, 3, 4] rfl ?_
            rw [show eO (eCh g 3 t n) = eO (eCh g 3 t (n + 1)) from congrArg eO (eS_no2 c32).symm]
            exact ih6 (n + 1) (by omega) (by omega)
  refine wf_sub (lv' := [(4, .int (nI 0)), (3, .int (-9)), (0, .ref (kk 3)), (1, .ref (a 0)), (2, .int (nI t))]) [0, 1, 2, 3, 4] rfl ?_
  exact L6 _ 0 (Nat.lt_succ_self _) (Nat.zero_le _)
set_option maxHeartbeats 4000000 in
set_option maxRecDepth 100000 in
theorem c_X6_choice_4 {l : Launch} {E : Ev} {t : Nat} {g : Gd} {a kk : Nat → Nat} {r : va_W} (hI : Inv g) (ht : t < 1000) : CT l E yX6_choice cX6_choice 5 (some .int) rmX6_choice [.ref (kk 4), .ref (a 0), .int (nI t)] (wg E (kk 6) a g ++ (wk E kk ++ r)) (IS (some (.int (eO (eCho g 4 t)))) (wg E (kk 6) a g ++ (wk E kk ++ r))) := by
  refine CT.of (lv := [(0, .ref (kk 4)), (1, .ref (a 0)), (2, .int (nI t))]) false (by decide +kernel) (by decide) (Nat.le_of_ble_eq_true rfl) rfl ?_
  have f0 := hI.words
  have f1 := hI.birds
  have f2 := hI.gone
  have f3 := hI.hour
  refine wf_bipush (-9) dX6_choice_0 (by decide) ?_
  refine wf_istore_n [(3, .int (-9)), (0, .ref (kk 4)), (1, .ref (a 0)), (2, .int (nI t))] dX6_choice_2 rfl (by decide) rfl ?_
  refine wf_iconst (nI 0) dX6_choice_3 (by decide) ?_
  refine wf_istore [(4, .int (nI 0)), (3, .int (-9)), (0, .ref (kk 4)), (1, .ref (a 0)), (2, .int (nI t))] dX6_choice_4 (by decide) rfl ?_
  have L6 : ∀ (fu6 : Nat) (n : Nat), g 9 0 - n < fu6 → (n ≤ g 9 0) → WF l E RX6 cX6_choice 5 (some .int) rmX6_choice false (fun _ => True) (QM E (wg E (kk 6) a g ++ (wk E kk ++ r)) (IS (some (.int (eO (eCho g 4 t)))) (wg E (kk 6) a g ++ (wk E kk ++ r))) rmX6_choice) (wg E (kk 6) a g ++ (wk E kk ++ r)) 0 0 6 [(4, .int (nI n)), (3, .int (eO (eCh g 4 t n))), (0, .ref (kk 4)), (1, .ref (a 0)), (2, .int (nI t))] [] (wg E (kk 6) a g ++ (wk E kk ++ r)) := by
    intro fu6
    induction fu6 with
    | zero => intro n hn; exact absurd hn (Nat.not_lt_zero _)
    | succ fu6 ih6 =>
      intro n hn hn0
      refine wf_iload 0 dX6_choice_6 rfl ?_
      refine wf_aload_n 3 dX6_choice_8 rfl ?_
      refine wf_getf (C := RX2) (T := TX2) (N := 14) (v := .int (nI (g 9 0))) 0 4 in_X2 rfl rfl (by decide) fl_X6_9 rfl dX6_choice_9 ?_
      refine wf_icmp_ge_n 64 dX6_choice_12 (by decide) (by omega) (by omega) (fun c12 => ?_) (fun c12 => ?_)
      · refine wf_iload_n 1 dX6_choice_64 rfl ?_
        exact wf_iret .int rfl (vp_nar_int _) ⟨rfl, rfl⟩ ⟨congrArg (fun z => some (Value.int z)) (by rw [show n = g 9 0 by omega]; rfl), rfl⟩ dX6_choice_65
      · refine wf_aload_n 3 dX6_choice_15 rfl ?_
        refine wf_iload 0 dX6_choice_16 rfl ?_
        refine wf_iload_n 4 dX6_choice_18 rfl ?_
        refine wf_callVD (As := [.int (nI n), .int (nI t)]) (rest := []) 0 (c_X2_mayBeEaten hI (by omega) (by omega)) kV_X6_15 rfl (by decide) (by decide) (Nat.le_of_ble_eq_true rfl) rfl rfl rfl dX6_choice_19 ?_
        refine wf_if_eq_b 58 dX6_choice_22 (by decide) (fun c22 => ?_) (fun c22 => ?_)
        · refine wf_iinc (nI (n + 1)) 0 [(4, .int (nI (n + 1))), (3, .int (eO (eCh g 4 t n))), (0, .ref (kk 4)), (1, .ref (a 0)), (2, .int (nI t))] dX6_choice_58 rfl (nI_1 n) (by decide) rfl ?_
          refine wf_goto 6 dX6_choice_61 (by decide) ?_
          refine wf_sub (lv' := [(4, .int (nI (n + 1))), (3, .int (eO (eCh g 4 t n))), (0, .ref (kk 4)), (1, .ref (a 0)), (2, .int (nI t))]) [0, 1, 2, 3, 4] rfl ?_
          rw [show eO (eCh g 4 t n) = eO (eCh g 4 t (n + 1)) from congrArg eO (eS_no1 c22).symm]
          exact ih6 (n + 1) (by omega) (by omega)
        · refine wf_aload_n 2 dX6_choice_25 rfl ?_
          refine wf_aload_n 3 dX6_choice_26 rfl ?_
          refine wf_iload 0 dX6_choice_27 rfl ?_
          refine wf_callUD (As := [.ref (a 0), .int (nI n)]) (rest := []) 15 (c_X6_reaches (k := 4) (by decide)) kU_X6_19_X3 rfl (by decide) (by decide) (Nat.le_of_ble_eq_true rfl) rfl rfl rfl dX6_choice_29 ?_
          refine wf_if_ne_b 38 dX6_choice_32 (by decide) (fun c32 => ?_) (fun c32 => ?_)
          · rcases hco : eCh g 4 t n with _ | c0
            · refine wf_iload_n 1 dX6_choice_38 rfl ?_
              refine wf_bipush (-9) dX6_choice_39 (by decide) ?_
              refine wf_icmp_eq 55 dX6_choice_41 (by decide) (fun c41 => ?_) (fun c41 => ?_)
              · refine wf_iload 0 dX6_choice_55 rfl ?_
                refine wf_istore_n [(3, .int (nI n)), (4, .int (nI n)), (0, .ref (kk 4)), (1, .ref (a 0)), (2, .int (nI t))] dX6_choice_57 rfl (by decide) rfl ?_
                refine wf_iinc (nI (n + 1)) 1 [(4, .int (nI (n + 1))), (3, .int (nI n)), (0, .ref (kk 4)), (1, .ref (a 0)), (2, .int (nI t))] dX6_choice_58 rfl (nI_1 n) (by decide) rfl ?_
                refine wf_goto 6 dX6_choice_61 (by decide) ?_
                refine wf_sub (lv' := [(4, .int (nI (n + 1))), (3, .int (nI n)), (0, .ref (kk 4)), (1, .ref (a 0)), (2, .int (nI t))]) [0, 1, 2, 3, 4] rfl ?_
                refine wf_lvc [(4, .int (nI (n + 1))), (3, .int (eO (eCh g 4 t (n + 1)))), (0, .ref (kk 4)), (1, .ref (a 0)), (2, .int (nI t))] (by rw [eS_new c22 c32 hco]; rfl) ?_
                exact ih6 (n + 1) (by omega) (by omega)
              · exact absurd rfl c41
            · have hc0 := eCh_lt g 4 t n c0 hco
              refine wf_iload_n 1 dX6_choice_38 rfl ?_
              refine wf_bipush (-9) dX6_choice_39 (by decide) ?_
              refine wf_icmp_eq 55 dX6_choice_41 (by decide) (fun c41 => ?_) (fun c41 => ?_)
              · exact absurd c41 (ne9 (by omega))
              · refine wf_aload_n 2 dX6_choice_44 rfl ?_
                refine wf_aload_n 3 dX6_choice_45 rfl ?_
                refine wf_iload 0 dX6_choice_46 rfl ?_
                refine wf_iload_n 1 dX6_choice_48 rfl ?_
                refine wf_callUD (As := [.ref (a 0), .int (nI n), .int (nI c0)]) (rest := []) 15 (c_X6_prefers (k := 4) hI (by omega) (by omega) (Or.inr rfl)) kU_X6_25_X3 rfl (by decide) (by decide) (Nat.le_of_ble_eq_true rfl) rfl rfl rfl dX6_choice_49 ?_
                refine wf_if_eq_b 58 dX6_choice_52 (by decide) (fun c52 => ?_) (fun c52 => ?_)
                · refine wf_iinc (nI (n + 1)) 0 [(4, .int (nI (n + 1))), (3, .int (nI c0)), (0, .ref (kk 4)), (1, .ref (a 0)), (2, .int (nI t))] dX6_choice_58 rfl (nI_1 n) (by decide) rfl ?_
                  refine wf_goto 6 dX6_choice_61 (by decide) ?_
                  refine wf_sub (lv' := [(4, .int (nI (n + 1))), (3, .int (nI c0)), (0, .ref (kk 4)), (1, .ref (a 0)), (2, .int (nI t))]) [0, 1, 2, 3, 4] rfl ?_
                  refine wf_lvc [(4, .int (nI (n + 1))), (3, .int (eO (eCh g 4 t (n + 1)))), (0, .ref (kk 4)), (1, .ref (a 0)), (2, .int (nI t))] (by rw [eS_not c22 c32 hco c52]; rfl) ?_
                  exact ih6 (n + 1) (by omega) (by omega)
                · refine wf_iload 0 dX6_choice_55 rfl ?_
                  refine wf_istore_n [(3, .int (nI n)), (4, .int (nI n)), (0, .ref (kk 4)), (1, .ref (a 0)), (2, .int (nI t))] dX6_choice_57 rfl (by decide) rfl ?_
                  refine wf_iinc (nI (n + 1)) 1 [(4, .int (nI (n + 1))), (3, .int (nI n)), (0, .ref (kk 4)), (1, .ref (a 0)), (2, .int (nI t))] dX6_choice_58 rfl (nI_1 n) (by decide) rfl ?_
                  refine wf_goto 6 dX6_choice_61 (by decide) ?_
                  refine wf_sub (lv' := [(4, .int (nI (n + 1))), (3, .int (nI n)), (0, .ref (kk 4)), (1, .ref (a 0)), (2, .int (nI t))]) [0, 1, 2, 3, 4] rfl ?_
                  refine wf_lvc [(4, .int (nI (n + 1))), (3, .int (eO (eCh g 4 t (n + 1)))), (0, .ref (kk 4)), (1, .ref (a 0)), (2, .int (nI t))] (by rw [eS_prf c22 c32 hco c52]; rfl) ?_
                  exact ih6 (n + 1) (by omega) (by omega)
          · refine wf_goto 58 dX6_choice_35 (by decide) ?_
            refine wf_iinc (nI (n + 1)) 0 [(4, .int (nI (n + 1))), (3, .int (eO (eCh g 4 t n))), (0, .ref (kk 4)), (1, .ref (a 0)), (2, .int (nI t))] dX6_choice_58 rfl (nI_1 n) (by decide) rfl ?_
            refine wf_goto 6 dX6_choice_61 (by decide) ?_
            refine wf_sub (lv' := [(4, .int (nI (n + 1))), (3, .int (eO (eCh g 4 t n))), (0, .ref (kk 4)), (1, .ref (a 0)), (2, .int (nI t))]) [0, 1, 2, 3, 4] rfl ?_
            rw [show eO (eCh g 4 t n) = eO (eCh g 4 t (n + 1)) from congrArg eO (eS_no2 c32).symm]
            exact ih6 (n + 1) (by omega) (by omega)
  refine wf_sub (lv' := [(4, .int (nI 0)), (3, .int (-9)), (0, .ref (kk 4)), (1, .ref (a 0)), (2, .int (nI t))]) [0, 1, 2, 3, 4] rfl ?_
  exact L6 _ 0 (Nat.lt_succ_self _) (Nat.zero_le _)
set_option maxHeartbeats 4000000 in
set_option maxRecDepth 100000 in
theorem c_X6_choice_5 {l : Launch} {E : Ev} {t : Nat} {g : Gd} {a kk : Nat → Nat} {r : va_W} (hI : Inv g) (ht : t < 1000) : CT l E yX6_choice cX6_choice 5 (some .int) rmX6_choice [.ref (kk 5), .ref (a 0), .int (nI t)] (wg E (kk 6) a g ++ (wk E kk ++ r)) (IS (some (.int (eO (eCho g 5 t)))) (wg E (kk 6) a g ++ (wk E kk ++ r))) := by
  refine CT.of (lv := [(0, .ref (kk 5)), (1, .ref (a 0)), (2, .int (nI t))]) false (by decide +kernel) (by decide) (Nat.le_of_ble_eq_true rfl) rfl ?_
  have f0 := hI.words
  have f1 := hI.birds
  have f2 := hI.gone
  have f3 := hI.hour
  refine wf_bipush (-9) dX6_choice_0 (by decide) ?_
  refine wf_istore_n [(3, .int (-9)), (0, .ref (kk 5)), (1, .ref (a 0)), (2, .int (nI t))] dX6_choice_2 rfl (by decide) rfl ?_
  refine wf_iconst (nI 0) dX6_choice_3 (by decide) ?_
  refine wf_istore [(4, .int (nI 0)), (3, .int (-9)), (0, .ref (kk 5)), (1, .ref (a 0)), (2, .int (nI t))] dX6_choice_4 (by decide) rfl ?_
  have L6 : ∀ (fu6 : Nat) (n : Nat), g 9 0 - n < fu6 → (n ≤ g 9 0) → WF l E RX6 cX6_choice 5 (some .int) rmX6_choice false (fun _ => True) (QM E (wg E (kk 6) a g ++ (wk E kk ++ r)) (IS (some (.int (eO (eCho g 5 t)))) (wg E (kk 6) a g ++ (wk E kk ++ r))) rmX6_choice) (wg E (kk 6) a g ++ (wk E kk ++ r)) 0 0 6 [(4, .int (nI n)), (3, .int (eO (eCh g 5 t n))), (0, .ref (kk 5)), (1, .ref (a 0)), (2, .int (nI t))] [] (wg E (kk 6) a g ++ (wk E kk ++ r)) := by
    intro fu6
    induction fu6 with
    | zero => intro n hn; exact absurd hn (Nat.not_lt_zero _)
    | succ fu6 ih6 =>
      intro n hn hn0
      refine wf_iload 0 dX6_choice_6 rfl ?_
      refine wf_aload_n 3 dX6_choice_8 rfl ?_
      refine wf_getf (C := RX2) (T := TX2) (N := 14) (v := .int (nI (g 9 0))) 0 4 in_X2 rfl rfl (by decide) fl_X6_9 rfl dX6_choice_9 ?_
      refine wf_icmp_ge_n 64 dX6_choice_12 (by decide) (by omega) (by omega) (fun c12 => ?_) (fun c12 => ?_)
      · refine wf_iload_n 1 dX6_choice_64 rfl ?_
        exact wf_iret .int rfl (vp_nar_int _) ⟨rfl, rfl⟩ ⟨congrArg (fun z => some (Value.int z)) (by rw [show n = g 9 0 by omega]; rfl), rfl⟩ dX6_choice_65
      · refine wf_aload_n 3 dX6_choice_15 rfl ?_
        refine wf_iload 0 dX6_choice_16 rfl ?_
        refine wf_iload_n 4 dX6_choice_18 rfl ?_
        refine wf_callVD (As := [.int (nI n), .int (nI t)]) (rest := []) 0 (c_X2_mayBeEaten hI (by omega) (by omega)) kV_X6_15 rfl (by decide) (by decide) (Nat.le_of_ble_eq_true rfl) rfl rfl rfl dX6_choice_19 ?_
        refine wf_if_eq_b 58 dX6_choice_22 (by decide) (fun c22 => ?_) (fun c22 => ?_)
        · refine wf_iinc (nI (n + 1)) 0 [(4, .int (nI (n + 1))), (3, .int (eO (eCh g 5 t n))), (0, .ref (kk 5)), (1, .ref (a 0)), (2, .int (nI t))] dX6_choice_58 rfl (nI_1 n) (by decide) rfl ?_
          refine wf_goto 6 dX6_choice_61 (by decide) ?_
          refine wf_sub (lv' := [(4, .int (nI (n + 1))), (3, .int (eO (eCh g 5 t n))), (0, .ref (kk 5)), (1, .ref (a 0)), (2, .int (nI t))]) [0, 1, 2, 3, 4] rfl ?_
          rw [show eO (eCh g 5 t n) = eO (eCh g 5 t (n + 1)) from congrArg eO (eS_no1 c22).symm]
          exact ih6 (n + 1) (by omega) (by omega)
        · refine wf_aload_n 2 dX6_choice_25 rfl ?_
          refine wf_aload_n 3 dX6_choice_26 rfl ?_
          refine wf_iload 0 dX6_choice_27 rfl ?_
          refine wf_callUD (As := [.ref (a 0), .int (nI n)]) (rest := []) 16 (c_X1_reaches hI (by omega)) kU_X6_19_X1 rfl (by decide) (by decide) (Nat.le_of_ble_eq_true rfl) rfl rfl rfl dX6_choice_29 ?_
          refine wf_if_ne_b 38 dX6_choice_32 (by decide) (fun c32 => ?_) (fun c32 => ?_)
          · rcases hco : eCh g 5 t n with _ | c0
            · refine wf_iload_n 1 dX6_choice_38 rfl ?_
              refine wf_bipush (-9) dX6_choice_39 (by decide) ?_
              refine wf_icmp_eq 55 dX6_choice_41 (by decide) (fun c41 => ?_) (fun c41 => ?_)
              · refine wf_iload 0 dX6_choice_55 rfl ?_
                refine wf_istore_n [(3, .int (nI n)), (4, .int (nI n)), (0, .ref (kk 5)), (1, .ref (a 0)), (2, .int (nI t))] dX6_choice_57 rfl (by decide) rfl ?_
                refine wf_iinc (nI (n + 1)) 1 [(4, .int (nI (n + 1))), (3, .int (nI n)), (0, .ref (kk 5)), (1, .ref (a 0)), (2, .int (nI t))] dX6_choice_58 rfl (nI_1 n) (by decide) rfl ?_
                refine wf_goto 6 dX6_choice_61 (by decide) ?_
                refine wf_sub (lv' := [(4, .int (nI (n + 1))), (3, .int (nI n)), (0, .ref (kk 5)), (1, .ref (a 0)), (2, .int (nI t))]) [0, 1, 2, 3, 4] rfl ?_
                refine wf_lvc [(4, .int (nI (n + 1))), (3, .int (eO (eCh g 5 t (n + 1)))), (0, .ref (kk 5)), (1, .ref (a 0)), (2, .int (nI t))] (by rw [eS_new c22 c32 hco]; rfl) ?_
                exact ih6 (n + 1) (by omega) (by omega)
              · exact absurd rfl c41
            · have hc0 := eCh_lt g 5 t n c0 hco
              refine wf_iload_n 1 dX6_choice_38 rfl ?_
              refine wf_bipush (-9) dX6_choice_39 (by decide) ?_
              refine wf_icmp_eq 55 dX6_choice_41 (by decide) (fun c41 => ?_) (fun c41 => ?_)
              · exact absurd c41 (ne9 (by omega))
              · refine wf_aload_n 2 dX6_choice_44 rfl ?_
                refine wf_aload_n 3 dX6_choice_45 rfl ?_
                refine wf_iload 0 dX6_choice_46 rfl ?_
                refine wf_iload_n 1 dX6_choice_48 rfl ?_
                refine wf_callUD (As := [.ref (a 0), .int (nI n), .int (nI c0)]) (rest := []) 16 (c_X0_prefers (k := 5) hI (by omega) (by omega) (Or.inr rfl)) kU_X6_25_X1 rfl (by decide) (by decide) (Nat.le_of_ble_eq_true rfl) rfl rfl rfl dX6_choice_49 ?_
                refine wf_if_eq_b 58 dX6_choice_52 (by decide) (fun c52 => ?_) (fun c52 => ?_)
                · refine wf_iinc (nI (n + 1)) 0 [(4, .int (nI (n + 1))), (3, .int (nI c0)), (0, .ref (kk 5)), (1, .ref (a 0)), (2, .int (nI t))] dX6_choice_58 rfl (nI_1 n) (by decide) rfl ?_
                  refine wf_goto 6 dX6_choice_61 (by decide) ?_
                  refine wf_sub (lv' := [(4, .int (nI (n + 1))), (3, .int (nI c0)), (0, .ref (kk 5)), (1, .ref (a 0)), (2, .int (nI t))]) [0, 1, 2, 3, 4] rfl ?_
                  refine wf_lvc [(4, .int (nI (n + 1))), (3, .int (eO (eCh g 5 t (n + 1)))), (0, .ref (kk 5)), (1, .ref (a 0)), (2, .int (nI t))] (by rw [eS_not c22 c32 hco c52]; rfl) ?_
                  exact ih6 (n + 1) (by omega) (by omega)
                · refine wf_iload 0 dX6_choice_55 rfl ?_
                  refine wf_istore_n [(3, .int (nI n)), (4, .int (nI n)), (0, .ref (kk 5)), (1, .ref (a 0)), (2, .int (nI t))] dX6_choice_57 rfl (by decide) rfl ?_
                  refine wf_iinc (nI (n + 1)) 1 [(4, .int (nI (n + 1))), (3, .int (nI n)), (0, .ref (kk 5)), (1, .ref (a 0)), (2, .int (nI t))] dX6_choice_58 rfl (nI_1 n) (by decide) rfl ?_
                  refine wf_goto 6 dX6_choice_61 (by decide) ?_
                  refine wf_sub (lv' := [(4, .int (nI (n + 1))), (3, .int (nI n)), (0, .ref (kk 5)), (1, .ref (a 0)), (2, .int (nI t))]) [0, 1, 2, 3, 4] rfl ?_
                  refine wf_lvc [(4, .int (nI (n + 1))), (3, .int (eO (eCh g 5 t (n + 1)))), (0, .ref (kk 5)), (1, .ref (a 0)), (2, .int (nI t))] (by rw [eS_prf c22 c32 hco c52]; rfl) ?_
                  exact ih6 (n + 1) (by omega) (by omega)
          · refine wf_goto 58 dX6_choice_35 (by decide) ?_
            refine wf_iinc (nI (n + 1)) 0 [(4, .int (nI (n + 1))), (3, .int (eO (eCh g 5 t n))), (0, .ref (kk 5)), (1, .ref (a 0)), (2, .int (nI t))] dX6_choice_58 rfl (nI_1 n) (by decide) rfl ?_
            refine wf_goto 6 dX6_choice_61 (by decide) ?_
            refine wf_sub (lv' := [(4, .int (nI (n + 1))), (3, .int (eO (eCh g 5 t n))), (0, .ref (kk 5)), (1, .ref (a 0)), (2, .int (nI t))]) [0, 1, 2, 3, 4] rfl ?_
            rw [show eO (eCh g 5 t n) = eO (eCh g 5 t (n + 1)) from congrArg eO (eS_no2 c32).symm]
            exact ih6 (n + 1) (by omega) (by omega)
  refine wf_sub (lv' := [(4, .int (nI 0)), (3, .int (-9)), (0, .ref (kk 5)), (1, .ref (a 0)), (2, .int (nI t))]) [0, 1, 2, 3, 4] rfl ?_
  exact L6 _ 0 (Nat.lt_succ_self _) (Nat.zero_le _)
end
section
theorem wf_dmeals {l : Launch} {E : Ev} {cc : ByteArray} {nL : Nat} {ret : Option FieldType} {rm : Room} {ini : Bool} {Xt : State → Prop} {QQ : Qe} {w0 : va_W} {ce sl pc : Nat} {lv : List (Nat × Value)} {rest : List Value} {g : Gd} {a kk : Nat → Nat} {r : va_W} {k : Nat} (hk : k ≤ 5)  (hR : 0 + 1 ≤ rm.frames ∧ 8 + (1 + 11) + 0 ≤ rm.locals) (hcs : ce ≤ rm.cells ∧ sl ≤ rm.slots) (hcat : (rest.map fun v => v.category).sum ≤ 8) (d : decode cc pc = .ok (.invokevirtual 91, 3)) (kont : WF l E RX2 cc nL ret rm ini Xt QQ w0 ce sl (pc + 3) lv (.int (nI (if k = 4 then 2 else 1)) :: rest) (wg E (kk 6) a g ++ (wk E kk ++ r))) : WF l E RX2 cc nL ret rm ini Xt QQ w0 ce sl pc lv (.ref (kk k) :: rest) (wg E (kk 6) a g ++ (wk E kk ++ r)) := by
  rcases (show k = 0 ∨ k = 1 ∨ k = 2 ∨ k = 3 ∨ k = 4 ∨ k = 5 by omega) with rfl | rfl | rfl | rfl | rfl | rfl
  · exact wf_callUD (As := []) (rest := rest) 11 (c_X6_meals) kU_X2_91_X6 rfl hR ⟨rfl, rfl, hcs⟩ hcat rfl rfl rfl d kont
  · exact wf_callUD (As := []) (rest := rest) 12 (c_X6_meals) kU_X2_91_X7 rfl hR ⟨rfl, rfl, hcs⟩ hcat rfl rfl rfl d kont
  · exact wf_callUD (As := []) (rest := rest) 13 (c_X6_meals) kU_X2_91_X0 rfl hR ⟨rfl, rfl, hcs⟩ hcat rfl rfl rfl d kont
  · exact wf_callUD (As := []) (rest := rest) 14 (c_X6_meals) kU_X2_91_X5 rfl hR ⟨rfl, rfl, hcs⟩ hcat rfl rfl rfl d kont
  · exact wf_callUD (As := []) (rest := rest) 15 (c_X3_meals) kU_X2_91_X3 rfl hR ⟨rfl, rfl, hcs⟩ hcat rfl rfl rfl d kont
  · exact wf_callUD (As := []) (rest := rest) 16 (c_X6_meals) kU_X2_91_X1 rfl hR ⟨rfl, rfl, hcs⟩ hcat rfl rfl rfl d kont
theorem wf_dchoice {l : Launch} {E : Ev} {cc : ByteArray} {nL : Nat} {ret : Option FieldType} {rm : Room} {ini : Bool} {Xt : State → Prop} {QQ : Qe} {w0 : va_W} {ce sl pc : Nat} {lv : List (Nat × Value)} {rest : List Value} {g : Gd} {a kk : Nat → Nat} {r : va_W} {k t : Nat} (hk : k ≤ 5) (hI : Inv g) (ht : t < 1000) (hR : 2 + 1 ≤ rm.frames ∧ 8 + (5 + 11) + 45 ≤ rm.locals) (hcs : ce ≤ rm.cells ∧ sl ≤ rm.slots) (hcat : (rest.map fun v => v.category).sum ≤ 8) (d : decode cc pc = .ok (.invokevirtual 96, 3)) (kont : WF l E RX2 cc nL ret rm ini Xt QQ w0 ce sl (pc + 3) lv (.int (eO (eCho g k t)) :: rest) (wg E (kk 6) a g ++ (wk E kk ++ r))) : WF l E RX2 cc nL ret rm ini Xt QQ w0 ce sl pc lv (.int (nI t) :: .ref (a 0) :: .ref (kk k) :: rest) (wg E (kk 6) a g ++ (wk E kk ++ r)) := by
  rcases (show k = 0 ∨ k = 1 ∨ k = 2 ∨ k = 3 ∨ k = 4 ∨ k = 5 by omega) with rfl | rfl | rfl | rfl | rfl | rfl
  · exact wf_callUD (As := [.ref (a 0), .int (nI t)]) (rest := rest) 11 (c_X6_choice_0 hI ht) kU_X2_96_X6 rfl hR ⟨rfl, rfl, hcs⟩ hcat rfl rfl rfl d kont
  · exact wf_callUD (As := [.ref (a 0), .int (nI t)]) (rest := rest) 12 (c_X6_choice_1 hI ht) kU_X2_96_X7 rfl hR ⟨rfl, rfl, hcs⟩ hcat rfl rfl rfl d kont
  · exact wf_callUD (As := [.ref (a 0), .int (nI t)]) (rest := rest) 13 (c_X6_choice_2 hI ht) kU_X2_96_X0 rfl hR ⟨rfl, rfl, hcs⟩ hcat rfl rfl rfl d kont
  · exact wf_callUD (As := [.ref (a 0), .int (nI t)]) (rest := rest) 14 (c_X6_choice_3 hI ht) kU_X2_96_X5 rfl hR ⟨rfl, rfl, hcs⟩ hcat rfl rfl rfl d kont
  · exact wf_callUD (As := [.ref (a 0), .int (nI t)]) (rest := rest) 15 (c_X6_choice_4 hI ht) kU_X2_96_X3 rfl hR ⟨rfl, rfl, hcs⟩ hcat rfl rfl rfl d kont
  · exact wf_callUD (As := [.ref (a 0), .int (nI t)]) (rest := rest) 16 (c_X6_choice_5 hI ht) kU_X2_96_X1 rfl hR ⟨rfl, rfl, hcs⟩ hcat rfl rfl rfl d kont
theorem wf_dchoice8 {l : Launch} {E : Ev} {cc : ByteArray} {nL : Nat} {ret : Option FieldType} {rm : Room} {ini : Bool} {Xt : State → Prop} {QQ : Qe} {w0 : va_W} {ce sl pc : Nat} {lv : List (Nat × Value)} {rest : List Value} {g : Gd} {a kk : Nat → Nat} {r : va_W} {k t : Nat} (hk : k ≤ 5) (hI : Inv g) (ht : t < 1000) (hR : 2 + 1 ≤ rm.frames ∧ 8 + (5 + 11) + 45 ≤ rm.locals) (hcs : ce ≤ rm.cells ∧ sl ≤ rm.slots) (hcat : (rest.map fun v => v.category).sum ≤ 8) (d : decode cc pc = .ok (.invokevirtual 131, 3)) (kont : WF l E RX8 cc nL ret rm ini Xt QQ w0 ce sl (pc + 3) lv (.int (eO (eCho g k t)) :: rest) (wg E (kk 6) a g ++ (wk E kk ++ r))) : WF l E RX8 cc nL ret rm ini Xt QQ w0 ce sl pc lv (.int (nI t) :: .ref (a 0) :: .ref (kk k) :: rest) (wg E (kk 6) a g ++ (wk E kk ++ r)) := by
  rcases (show k = 0 ∨ k = 1 ∨ k = 2 ∨ k = 3 ∨ k = 4 ∨ k = 5 by omega) with rfl | rfl | rfl | rfl | rfl | rfl
  · exact wf_callUD (As := [.ref (a 0), .int (nI t)]) (rest := rest) 11 (c_X6_choice_0 hI ht) kU_X8_131_X6 rfl hR ⟨rfl, rfl, hcs⟩ hcat rfl rfl rfl d kont
  · exact wf_callUD (As := [.ref (a 0), .int (nI t)]) (rest := rest) 12 (c_X6_choice_1 hI ht) kU_X8_131_X7 rfl hR ⟨rfl, rfl, hcs⟩ hcat rfl rfl rfl d kont
  · exact wf_callUD (As := [.ref (a 0), .int (nI t)]) (rest := rest) 13 (c_X6_choice_2 hI ht) kU_X8_131_X0 rfl hR ⟨rfl, rfl, hcs⟩ hcat rfl rfl rfl d kont
  · exact wf_callUD (As := [.ref (a 0), .int (nI t)]) (rest := rest) 14 (c_X6_choice_3 hI ht) kU_X8_131_X5 rfl hR ⟨rfl, rfl, hcs⟩ hcat rfl rfl rfl d kont
  · exact wf_callUD (As := [.ref (a 0), .int (nI t)]) (rest := rest) 15 (c_X6_choice_4 hI ht) kU_X8_131_X3 rfl hR ⟨rfl, rfl, hcs⟩ hcat rfl rfl rfl d kont
  · exact wf_callUD (As := [.ref (a 0), .int (nI t)]) (rest := rest) 16 (c_X6_choice_5 hI ht) kU_X8_131_X1 rfl hR ⟨rfl, rfl, hcs⟩ hcat rfl rfl rfl d kont
abbrev rmX2_passHour : Room := { frames := 3, cells := 0, slots := 0, locals := 69 }
set_option maxHeartbeats 4000000 in
set_option maxRecDepth 100000 in
theorem c_X2_passHour {l : Launch} {E : Ev} {g : Gd} {a kk : Nat → Nat} {r : va_W} (hI : Inv g) : CT l E yX2_passHour cX2_passHour 7 (some .int) rmX2_passHour [.ref (a 0)] (wg E (kk 6) a g ++ (wk E kk ++ r)) (IS (some (.int (nI (eLeftN g) - nI (eLeftN (eHr g))))) (wg E (kk 6) a (eHr g) ++ (wk E kk ++ r))) := by
  refine CT.of (lv := [(0, .ref (a 0))]) false (by decide +kernel) (by decide) (Nat.le_of_ble_eq_true rfl) rfl ?_
  have f0 := hI.words
  have f1 := hI.birds
  have f2 := hI.gone
  have f3 := hI.hour
  have f4 := hI.left
  refine wf_aload_n 0 dX2_passHour_0 rfl ?_
  refine wf_getf (C := RX2) (T := TX2) (N := 14) (v := .int (nI (g 9 3))) 0 13 in_X2 rfl rfl (by decide) fl_X2_59 rfl dX2_passHour_1 ?_
  refine wf_bipush (nI 8) dX2_passHour_4 (by decide) ?_
  refine wf_icmp_lt_n 11 dX2_passHour_6 (by decide) (by omega) (by omega) (fun c6 => ?_) (fun c6 => ?_)
  · refine wf_aload_n 0 dX2_passHour_11 rfl ?_
    refine wf_callVD (As := []) (rest := []) 0 (c_X2_countLeft hI) kV_X2_84 rfl (by decide) (by decide) (Nat.le_of_ble_eq_true rfl) rfl rfl rfl dX2_passHour_12 ?_
    refine wf_istore_n [(1, .int (nI (eLeftN g))), (0, .ref (a 0))] dX2_passHour_15 rfl (by decide) rfl ?_
    refine wf_iconst (nI 0) dX2_passHour_16 (by decide) ?_
    refine wf_istore_n [(2, .int (nI 0)), (1, .int (nI (eLeftN g))), (0, .ref (a 0))] dX2_passHour_17 rfl (by decide) rfl ?_
    have L18 : ∀ (fu18 : Nat) (b : Nat), g 9 1 - b < fu18 → (b ≤ g 9 1) → WF l E RX2 cX2_passHour 7 (some .int) rmX2_passHour false (fun _ => True) (QM E (wg E (kk 6) a g ++ (wk E kk ++ r)) (IS (some (.int (nI (eLeftN g) - nI (eLeftN (eHr g))))) (wg E (kk 6) a (eHr g) ++ (wk E kk ++ r))) rmX2_passHour) (wg E (kk 6) a g ++ (wk E kk ++ r)) 0 0 18 [(2, .int (nI b)), (0, .ref (a 0)), (1, .int (nI (eLeftN g)))] [] (wg E (kk 6) a (eBirds g b) ++ (wk E kk ++ r)) := by
      intro fu18
      induction fu18 with
      | zero => intro b hn; exact absurd hn (Nat.not_lt_zero _)
      | succ fu18 ih18 =>
        intro b hn hb
        have hB := hI.oBirds b
        have hbf : ∀ f i, ¬ (f = 9 ∧ i = 2) → eBirds g b f i = g f i := fun f i h => eBirds_f h
        have e91 := hbf 9 1 (by decide)
        have e93 := hbf 9 3 (by decide)
        have e5 := hbf 5 b (by omega)
        have e6 := hbf 6 b (by omega)
        have eK := hbf 3 b (by omega)
        have e4 := hbf 4 b (by omega)
        have g5 := hI.fro b
        have g6 := hI.til b
        have g4 := hI.taste b
        have g3 := hI.kind b
        refine wf_iload_n 0 dX2_passHour_18 rfl ?_
        refine wf_aload_n 1 dX2_passHour_19 rfl ?_
        refine wf_getf (C := RX2) (T := TX2) (N := 14) (v := .int (nI ((eBirds g b) 9 1))) 0 9 in_X2 rfl rfl (by decide) fl_X2_53 rfl dX2_passHour_20 ?_
        refine wf_icmp_ge_n 135 dX2_passHour_23 (by decide) (by omega) (by omega) (fun c23 => ?_) (fun c23 => ?_)
        · have hbe : b = g 9 1 := by omega
          subst hbe
          have hh : gs (eBirds g (g 9 1)) 9 3 (eBirds g (g 9 1) 9 3 + 1) = eHr g := by unfold eHr; rw [if_neg (by omega), e93]
          refine wf_aload_n 1 dX2_passHour_135 rfl ?_
          refine wf_dup dX2_passHour_136 rfl ?_
          refine wf_getf (C := RX2) (T := TX2) (N := 14) (v := .int (nI ((eBirds g (g 9 1)) 9 3))) 0 13 in_X2 rfl rfl (by decide) fl_X2_59 rfl dX2_passHour_137 ?_
          refine wf_iconst (nI 1) dX2_passHour_140 (by decide) ?_
          refine wf_iadd (nI (((eBirds g (g 9 1)) 9 3) + 1)) dX2_passHour_141 (nI_add ((eBirds g (g 9 1)) 9 3) 1) ?_
          refine wf_putf (C := RX2) (T := TX2) (N := 14) (ty := .int) 0 13 (wg E (kk 6) a (gs (eBirds g (g 9 1)) 9 3 (((eBirds g (g 9 1)) 9 3) + 1)) ++ (wk E kk ++ r)) tyX2 in_X2 tyX2_ok nmX2 rfl rfl (by decide) fl_X2_59 rfl (by decide +kernel) (by rfl) rfl (Nat.le_of_ble_eq_true rfl) (sf 0 (Nat.le_of_ble_eq_true rfl) (wg_put3 (((eBirds g (g 9 1)) 9 3) + 1))) dX2_passHour_142 ?_
          rw [hh]
          refine wf_iload_n 2 dX2_passHour_145 rfl ?_
          refine wf_aload_n 1 dX2_passHour_146 rfl ?_
          refine wf_callVD (As := []) (rest := [.int (nI (eLeftN g))]) 0 (c_X2_countLeft hI.oHr) kV_X2_84 rfl (by decide) (by decide) (Nat.le_of_ble_eq_true rfl) rfl rfl rfl dX2_passHour_147 ?_
          refine wf_isub ((nI (eLeftN g)) - (nI (eLeftN (eHr g)))) dX2_passHour_150 rfl ?_
          exact wf_iret .int rfl (vp_nar_int _) ⟨rfl, rfl⟩ ⟨congrArg (fun z => some (Value.int z)) (rfl), rfl⟩ dX2_passHour_151
        · refine wf_aload_n 1 dX2_passHour_26 rfl ?_
          refine wf_getf (C := RX2) (T := TX2) (N := 14) (v := .ref (a 6)) 0 7 in_X2 rfl rfl (by decide) fl_X2_27 rfl dX2_passHour_27 ?_
          refine wf_iload_n 0 dX2_passHour_30 rfl ?_
          refine wf_iald_n (nI ((eBirds g b) 5 b)) 6 rfl (by omega) (by decide) rfl dX2_passHour_31 ?_
          refine wf_aload_n 1 dX2_passHour_32 rfl ?_
          refine wf_getf (C := RX2) (T := TX2) (N := 14) (v := .int (nI ((eBirds g b) 9 3))) 0 13 in_X2 rfl rfl (by decide) fl_X2_59 rfl dX2_passHour_33 ?_
          refine wf_icmp_gt_n 56 dX2_passHour_36 (by decide) (by omega) (by omega) (fun c36 => ?_) (fun c36 => ?_)
          · refine wf_iconst (nI 0) dX2_passHour_56 (by decide) ?_
            refine wf_istore_n [(3, .int (nI 0)), (2, .int (nI b)), (0, .ref (a 0)), (1, .int (nI (eLeftN g)))] dX2_passHour_57 rfl (by decide) rfl ?_
            refine wf_iload_n 0 dX2_passHour_58 rfl ?_
            refine wf_if_eq_n 73 dX2_passHour_59 (by decide) (by omega) (fun c59 => ?_) (fun c59 => ?_)
            · refine wf_iconst (nI 0) dX2_passHour_73 (by decide) ?_
              refine wf_istore [(4, .int (nI 0)), (3, .int (nI 0)), (2, .int (nI b)), (0, .ref (a 0)), (1, .int (nI (eLeftN g)))] dX2_passHour_74 (by decide) rfl ?_
              obtain ⟨M, hM, hM2⟩ : ∃ M, eMeals g b = M ∧ M = 0 := ⟨0, (by unfold eMeals; rw [if_neg (by omega)]), rfl⟩
              refine wf_lvc [(4, .int (nI M)), (3, .int (nI 0)), (2, .int (nI b)), (0, .ref (a 0)), (1, .int (nI (eLeftN g)))] (by rw [hM2]) ?_
              have hM3 : M ≤ 2 := by rw [hM2]; omega
              refine wf_iconst (nI 0) dX2_passHour_76 (by decide) ?_
              refine wf_istore [(5, .int (nI 0)), (4, .int (nI M)), (3, .int (nI 0)), (2, .int (nI b)), (0, .ref (a 0)), (1, .int (nI (eLeftN g)))] dX2_passHour_77 (by decide) rfl ?_
              have L79 : ∀ (fu79 : Nat) (i : Nat), M - i < fu79 → (i ≤ M) → WF l E RX2 cX2_passHour 7 (some .int) rmX2_passHour false (fun _ => True) (QM E (wg E (kk 6) a g ++ (wk E kk ++ r)) (IS (some (.int (nI (eLeftN g) - nI (eLeftN (eHr g))))) (wg E (kk 6) a (eHr g) ++ (wk E kk ++ r))) rmX2_passHour) (wg E (kk 6) a g ++ (wk E kk ++ r)) 0 0 79 [(5, .int (nI i)), (4, .int (nI M)), (2, .int (nI b)), (0, .ref (a 0)), (1, .int (nI (eLeftN g)))] [] (wg E (kk 6) a (eEats (eBirds g b) b i) ++ (wk E kk ++ r)) := by
                intro fu79
                induction fu79 with
                | zero => intro i hn; exact absurd hn (Nat.not_lt_zero _)
                | succ fu79 ih79 =>
                  intro i hn hi
                  have hE := hB.oEats b i
                  have hef : ∀ f j, ¬ (f = 9 ∧ j = 2) → eEats (eBirds g b) b i f j = g f j := fun f j h => (eEats_f h).trans (hbf f j h)
                  have d93 := hef 9 3 (by decide)
                  have d3 := hef 3 b (by omega)
                  have d4 := hef 4 b (by omega)
                  have d2 := hE.gone
                  have d0 := hef 9 0 (by decide)
                  refine wf_iload 0 dX2_passHour_79 rfl ?_
                  refine wf_iload 1 dX2_passHour_81 rfl ?_
                  refine wf_icmp_ge_n 129 dX2_passHour_83 (by decide) (by omega) (by omega) (fun c83 => ?_) (fun c83 => ?_)
                  · refine wf_iinc (nI (b + 1)) 2 [(2, .int (nI (b + 1))), (5, .int (nI i)), (4, .int (nI M)), (0, .ref (a 0)), (1, .int (nI (eLeftN g)))] dX2_passHour_129 rfl (nI_1 b) (by decide) rfl ?_
                    refine wf_goto 18 dX2_passHour_132 (by decide) ?_
                    refine wf_sub (lv' := [(2, .int (nI (b + 1))), (0, .ref (a 0)), (1, .int (nI (eLeftN g)))]) [0, 3, 4] rfl ?_
                    refine wf_world (wg E (kk 6) a (eBirds g (b + 1)) ++ (wk E kk ++ r)) (by rw [show eBirds g (b + 1) = eEats (eBirds g b) b (eMeals g b) from rfl, hM, show i = M by omega]) ?_
                    exact ih18 (b + 1) (by omega) (by omega)
                  · refine wf_aload_n 3 dX2_passHour_86 rfl ?_
                    refine wf_iload_n 2 dX2_passHour_87 rfl ?_
                    refine wf_callVD (As := [.int (nI b)]) (rest := []) 0 (c_X2_kindOf hE (by omega)) kV_X2_87 rfl (by decide) (by decide) (Nat.le_of_ble_eq_true rfl) rfl rfl rfl dX2_passHour_88 ?_
                    refine wf_aload_n 3 dX2_passHour_91 rfl ?_
                    refine wf_aload_n 3 dX2_passHour_92 rfl ?_
                    refine wf_getf (C := RX2) (T := TX2) (N := 14) (v := .ref (a 5)) 0 6 in_X2 rfl rfl (by decide) fl_X2_24 rfl dX2_passHour_93 ?_
                    refine wf_iload_n 2 dX2_passHour_96 rfl ?_
                    refine wf_iald_n (nI ((eEats (eBirds g b) b i) 4 b)) 5 rfl (by omega) (by decide) rfl dX2_passHour_97 ?_
                    refine wf_dchoice (k := ((eEats (eBirds g b) b i) 3 b)) (t := (eEats (eBirds g b) b i) 4 b) (by rw [d3]; exact g3) hE (by rw [d4]; omega) (by decide) (by decide) (Nat.le_of_ble_eq_true rfl) dX2_passHour_98 ?_
                    refine wf_istore [(6, .int (eO (eCho (eEats (eBirds g b) b i) ((eEats (eBirds g b) b i) 3 b) ((eEats (eBirds g b) b i) 4 b)))), (5, .int (nI i)), (4, .int (nI M)), (2, .int (nI b)), (0, .ref (a 0)), (1, .int (nI (eLeftN g)))] dX2_passHour_101 (by decide) rfl ?_
                    rcases hco : eCho (eEats (eBirds g b) b i) ((eEats (eBirds g b) b i) 3 b) ((eEats (eBirds g b) b i) 4 b) with _ | w
                    · refine wf_iload 0 dX2_passHour_103 rfl ?_
                      refine wf_bipush (-9) dX2_passHour_105 (by decide) ?_
                      refine wf_icmp_eq 123 dX2_passHour_107 (by decide) (fun c107 => ?_) (fun c107 => ?_)
                      · refine wf_iinc (nI (i + 1)) 1 [(5, .int (nI (i + 1))), (6, .int (eO none)), (4, .int (nI M)), (2, .int (nI b)), (0, .ref (a 0)), (1, .int (nI (eLeftN g)))] dX2_passHour_123 rfl (nI_1 i) (by decide) rfl ?_
                        refine wf_goto 79 dX2_passHour_126 (by decide) ?_
                        refine wf_sub (lv' := [(5, .int (nI (i + 1))), (4, .int (nI M)), (2, .int (nI b)), (0, .ref (a 0)), (1, .int (nI (eLeftN g)))]) [0, 2, 3, 4, 5] rfl ?_
                        refine wf_world (wg E (kk 6) a (eEats (eBirds g b) b (i + 1)) ++ (wk E kk ++ r)) (by rw [show eEats (eBirds g b) b (i + 1) = eGo (eEats (eBirds g b) b i) (eCho (eEats (eBirds g b) b i) ((eEats (eBirds g b) b i) 3 b) ((eEats (eBirds g b) b i) 4 b)) from rfl, hco]; rfl) ?_
                        exact ih79 (i + 1) (by omega) (by omega)
                      · exact absurd rfl c107
                    · have hw := eCh_lt _ _ _ _ w hco
                      have sh : 1 <<< w < 1024 := by rw [Nat.shiftLeft_eq, Nat.one_mul]; exact Nat.lt_of_lt_of_le (Nat.pow_lt_pow_right (by decide) (show w < 10 by omega)) (by decide)
                      refine wf_iload 0 dX2_passHour_103 rfl ?_
                      refine wf_bipush (-9) dX2_passHour_105 (by decide) ?_
                      refine wf_icmp_eq 123 dX2_passHour_107 (by decide) (fun c107 => ?_) (fun c107 => ?_)
                      · exact absurd c107 (ne9 (by omega))
                      · refine wf_aload_n 4 dX2_passHour_110 rfl ?_
                        refine wf_dup dX2_passHour_111 rfl ?_
                        refine wf_getf (C := RX2) (T := TX2) (N := 14) (v := .int (nI ((eEats (eBirds g b) b i) 9 2))) 0 12 in_X2 rfl rfl (by decide) fl_X2_56 rfl dX2_passHour_112 ?_
                        refine wf_iconst (nI 1) dX2_passHour_115 (by decide) ?_
                        refine wf_iload 0 dX2_passHour_116 rfl ?_
                        refine wf_ishl (nI (1 <<< w)) dX2_passHour_118 (nI_shl (by omega) (by omega)) ?_
                        refine wf_ior (nI (((eEats (eBirds g b) b i) 9 2) ||| (1 <<< w))) dX2_passHour_119 (nI_lor (by omega) (by omega)) ?_
                        refine wf_putf (C := RX2) (T := TX2) (N := 14) (ty := .int) 0 12 (wg E (kk 6) a (gs (eEats (eBirds g b) b i) 9 2 (((eEats (eBirds g b) b i) 9 2) ||| (1 <<< w))) ++ (wk E kk ++ r)) tyX2 in_X2 tyX2_ok nmX2 rfl rfl (by decide) fl_X2_56 rfl (by decide +kernel) (by rfl) rfl (Nat.le_of_ble_eq_true rfl) (sf 0 (Nat.le_of_ble_eq_true rfl) (wg_put2 (((eEats (eBirds g b) b i) 9 2) ||| (1 <<< w)))) dX2_passHour_120 ?_
                        refine wf_iinc (nI (i + 1)) 1 [(5, .int (nI (i + 1))), (6, .int (nI w)), (4, .int (nI M)), (2, .int (nI b)), (0, .ref (a 0)), (1, .int (nI (eLeftN g)))] dX2_passHour_123 rfl (nI_1 i) (by decide) rfl ?_
                        refine wf_goto 79 dX2_passHour_126 (by decide) ?_
                        refine wf_sub (lv' := [(5, .int (nI (i + 1))), (4, .int (nI M)), (2, .int (nI b)), (0, .ref (a 0)), (1, .int (nI (eLeftN g)))]) [0, 2, 3, 4, 5] rfl ?_
                        refine wf_world (wg E (kk 6) a (eEats (eBirds g b) b (i + 1)) ++ (wk E kk ++ r)) (by rw [show eEats (eBirds g b) b (i + 1) = eGo (eEats (eBirds g b) b i) (eCho (eEats (eBirds g b) b i) ((eEats (eBirds g b) b i) 3 b) ((eEats (eBirds g b) b i) 4 b)) from rfl, hco]; rfl) ?_
                        exact ih79 (i + 1) (by omega) (by omega)
              refine wf_sub (lv' := [(5, .int (nI 0)), (4, .int (nI M)), (2, .int (nI b)), (0, .ref (a 0)), (1, .int (nI (eLeftN g)))]) [0, 1, 3, 4, 5] rfl ?_
              exact L79 _ 0 (Nat.lt_succ_self _) (Nat.zero_le _)
            · exact absurd rfl c59
          · refine wf_aload_n 1 dX2_passHour_39 rfl ?_
            refine wf_getf (C := RX2) (T := TX2) (N := 14) (v := .int (nI ((eBirds g b) 9 3))) 0 13 in_X2 rfl rfl (by decide) fl_X2_59 rfl dX2_passHour_40 ?_
            refine wf_aload_n 1 dX2_passHour_43 rfl ?_
            refine wf_getf (C := RX2) (T := TX2) (N := 14) (v := .ref (a 7)) 0 8 in_X2 rfl rfl (by decide) fl_X2_30 rfl dX2_passHour_44 ?_
            refine wf_iload_n 0 dX2_passHour_47 rfl ?_
            refine wf_iald_n (nI ((eBirds g b) 6 b)) 7 rfl (by omega) (by decide) rfl dX2_passHour_48 ?_
            refine wf_icmp_gt_n 56 dX2_passHour_49 (by decide) (by omega) (by omega) (fun c49 => ?_) (fun c49 => ?_)
            · refine wf_iconst (nI 0) dX2_passHour_56 (by decide) ?_
              refine wf_istore_n [(3, .int (nI 0)), (2, .int (nI b)), (0, .ref (a 0)), (1, .int (nI (eLeftN g)))] dX2_passHour_57 rfl (by decide) rfl ?_
              refine wf_iload_n 0 dX2_passHour_58 rfl ?_
              refine wf_if_eq_n 73 dX2_passHour_59 (by decide) (by omega) (fun c59 => ?_) (fun c59 => ?_)
              · refine wf_iconst (nI 0) dX2_passHour_73 (by decide) ?_
                refine wf_istore [(4, .int (nI 0)), (3, .int (nI 0)), (2, .int (nI b)), (0, .ref (a 0)), (1, .int (nI (eLeftN g)))] dX2_passHour_74 (by decide) rfl ?_
                obtain ⟨M, hM, hM2⟩ : ∃ M, eMeals g b = M ∧ M = 0 := ⟨0, (by unfold eMeals; rw [if_neg (by omega)]), rfl⟩
                refine wf_lvc [(4, .int (nI M)), (3, .int (nI 0)), (2, .int (nI b)), (0, .ref (a 0)), (1, .int (nI (eLeftN g)))] (by rw [hM2]) ?_
                have hM3 : M ≤ 2 := by rw [hM2]; omega
                refine wf_iconst (nI 0) dX2_passHour_76 (by decide) ?_
                refine wf_istore [(5, .int (nI 0)), (4, .int (nI M)), (3, .int (nI 0)), (2, .int (nI b)), (0, .ref (a 0)), (1, .int (nI (eLeftN g)))] dX2_passHour_77 (by decide) rfl ?_
                have L79 : ∀ (fu79 : Nat) (i : Nat), M - i < fu79 → (i ≤ M) → WF l E RX2 cX2_passHour 7 (some .int) rmX2_passHour false (fun _ => True) (QM E (wg E (kk 6) a g ++ (wk E kk ++ r)) (IS (some (.int (nI (eLeftN g) - nI (eLeftN (eHr g))))) (wg E (kk 6) a (eHr g) ++ (wk E kk ++ r))) rmX2_passHour) (wg E (kk 6) a g ++ (wk E kk ++ r)) 0 0 79 [(5, .int (nI i)), (4, .int (nI M)), (2, .int (nI b)), (0, .ref (a 0)), (1, .int (nI (eLeftN g)))] [] (wg E (kk 6) a (eEats (eBirds g b) b i) ++ (wk E kk ++ r)) := by
                  intro fu79
                  induction fu79 with
                  | zero => intro i hn; exact absurd hn (Nat.not_lt_zero _)
                  | succ fu79 ih79 =>
                    intro i hn hi
                    have hE := hB.oEats b i
                    have hef : ∀ f j, ¬ (f = 9 ∧ j = 2) → eEats (eBirds g b) b i f j = g f j := fun f j h => (eEats_f h).trans (hbf f j h)
                    have d93 := hef 9 3 (by decide)
                    have d3 := hef 3 b (by omega)
                    have d4 := hef 4 b (by omega)
                    have d2 := hE.gone
                    have d0 := hef 9 0 (by decide)
                    refine wf_iload 0 dX2_passHour_79 rfl ?_
                    refine wf_iload 1 dX2_passHour_81 rfl ?_
                    refine wf_icmp_ge_n 129 dX2_passHour_83 (by decide) (by omega) (by omega) (fun c83 => ?_) (fun c83 => ?_)
                    · refine wf_iinc (nI (b + 1)) 2 [(2, .int (nI (b + 1))), (5, .int (nI i)), (4, .int (nI M)), (0, .ref (a 0)), (1, .int (nI (eLeftN g)))] dX2_passHour_129 rfl (nI_1 b) (by decide) rfl ?_
                      refine wf_goto 18 dX2_passHour_132 (by decide) ?_
                      refine wf_sub (lv' := [(2, .int (nI (b + 1))), (0, .ref (a 0)), (1, .int (nI (eLeftN g)))]) [0, 3, 4] rfl ?_
                      refine wf_world (wg E (kk 6) a (eBirds g (b + 1)) ++ (wk E kk ++ r)) (by rw [show eBirds g (b + 1) = eEats (eBirds g b) b (eMeals g b) from rfl, hM, show i = M by omega]) ?_
                      exact ih18 (b + 1) (by omega) (by omega)
                    · refine wf_aload_n 3 dX2_passHour_86 rfl ?_
                      refine wf_iload_n 2 dX2_passHour_87 rfl ?_
                      refine wf_callVD (As := [.int (nI b)]) (rest := []) 0 (c_X2_kindOf hE (by omega)) kV_X2_87 rfl (by decide) (by decide) (Nat.le_of_ble_eq_true rfl) rfl rfl rfl dX2_passHour_88 ?_
                      refine wf_aload_n 3 dX2_passHour_91 rfl ?_
                      refine wf_aload_n 3 dX2_passHour_92 rfl ?_
                      refine wf_getf (C := RX2) (T := TX2) (N := 14) (v := .ref (a 5)) 0 6 in_X2 rfl rfl (by decide) fl_X2_24 rfl dX2_passHour_93 ?_
                      refine wf_iload_n 2 dX2_passHour_96 rfl ?_
                      refine wf_iald_n (nI ((eEats (eBirds g b) b i) 4 b)) 5 rfl (by omega) (by decide) rfl dX2_passHour_97 ?_
                      refine wf_dchoice (k := ((eEats (eBirds g b) b i) 3 b)) (t := (eEats (eBirds g b) b i) 4 b) (by rw [d3]; exact g3) hE (by rw [d4]; omega) (by decide) (by decide) (Nat.le_of_ble_eq_true rfl) dX2_passHour_98 ?_
                      refine wf_istore [(6, .int (eO (eCho (eEats (eBirds g b) b i) ((eEats (eBirds g b) b i) 3 b) ((eEats (eBirds g b) b i) 4 b)))), (5, .int (nI i)), (4, .int (nI M)), (2, .int (nI b)), (0, .ref (a 0)), (1, .int (nI (eLeftN g)))] dX2_passHour_101 (by decide) rfl ?_
                      rcases hco : eCho (eEats (eBirds g b) b i) ((eEats (eBirds g b) b i) 3 b) ((eEats (eBirds g b) b i) 4 b) with _ | w
                      · refine wf_iload 0 dX2_passHour_103 rfl ?_
                        refine wf_bipush (-9) dX2_passHour_105 (by decide) ?_
                        refine wf_icmp_eq 123 dX2_passHour_107 (by decide) (fun c107 => ?_) (fun c107 => ?_)
                        · refine wf_iinc (nI (i + 1)) 1 [(5, .int (nI (i + 1))), (6, .int (eO none)), (4, .int (nI M)), (2, .int (nI b)), (0, .ref (a 0)), (1, .int (nI (eLeftN g)))] dX2_passHour_123 rfl (nI_1 i) (by decide) rfl ?_
                          refine wf_goto 79 dX2_passHour_126 (by decide) ?_
                          refine wf_sub (lv' := [(5, .int (nI (i + 1))), (4, .int (nI M)), (2, .int (nI b)), (0, .ref (a 0)), (1, .int (nI (eLeftN g)))]) [0, 2, 3, 4, 5] rfl ?_
                          refine wf_world (wg E (kk 6) a (eEats (eBirds g b) b (i + 1)) ++ (wk E kk ++ r)) (by rw [show eEats (eBirds g b) b (i + 1) = eGo (eEats (eBirds g b) b i) (eCho (eEats (eBirds g b) b i) ((eEats (eBirds g b) b i) 3 b) ((eEats (eBirds g b) b i) 4 b)) from rfl, hco]; rfl) ?_
                          exact ih79 (i + 1) (by omega) (by omega)
                        · exact absurd rfl c107
                      · have hw := eCh_lt _ _ _ _ w hco
                        have sh : 1 <<< w < 1024 := by rw [Nat.shiftLeft_eq, Nat.one_mul]; exact Nat.lt_of_lt_of_le (Nat.pow_lt_pow_right (by decide) (show w < 10 by omega)) (by decide)
                        refine wf_iload 0 dX2_passHour_103 rfl ?_
                        refine wf_bipush (-9) dX2_passHour_105 (by decide) ?_
                        refine wf_icmp_eq 123 dX2_passHour_107 (by decide) (fun c107 => ?_) (fun c107 => ?_)
                        · exact absurd c107 (ne9 (by omega))
                        · refine wf_aload_n 4 dX2_passHour_110 rfl ?_
                          refine wf_dup dX2_passHour_111 rfl ?_
                          refine wf_getf (C := RX2) (T := TX2) (N := 14) (v := .int (nI ((eEats (eBirds g b) b i) 9 2))) 0 12 in_X2 rfl rfl (by decide) fl_X2_56 rfl dX2_passHour_112 ?_
                          refine wf_iconst (nI 1) dX2_passHour_115 (by decide) ?_
                          refine wf_iload 0 dX2_passHour_116 rfl ?_
                          refine wf_ishl (nI (1 <<< w)) dX2_passHour_118 (nI_shl (by omega) (by omega)) ?_
                          refine wf_ior (nI (((eEats (eBirds g b) b i) 9 2) ||| (1 <<< w))) dX2_passHour_119 (nI_lor (by omega) (by omega)) ?_
                          refine wf_putf (C := RX2) (T := TX2) (N := 14) (ty := .int) 0 12 (wg E (kk 6) a (gs (eEats (eBirds g b) b i) 9 2 (((eEats (eBirds g b) b i) 9 2) ||| (1 <<< w))) ++ (wk E kk ++ r)) tyX2 in_X2 tyX2_ok nmX2 rfl rfl (by decide) fl_X2_56 rfl (by decide +kernel) (by rfl) rfl (Nat.le_of_ble_eq_true rfl) (sf 0 (Nat.le_of_ble_eq_true rfl) (wg_put2 (((eEats (eBirds g b) b i) 9 2) ||| (1 <<< w)))) dX2_passHour_120 ?_
                          refine wf_iinc (nI (i + 1)) 1 [(5, .int (nI (i + 1))), (6, .int (nI w)), (4, .int (nI M)), (2, .int (nI b)), (0, .ref (a 0)), (1, .int (nI (eLeftN g)))] dX2_passHour_123 rfl (nI_1 i) (by decide) rfl ?_
                          refine wf_goto 79 dX2_passHour_126 (by decide) ?_
                          refine wf_sub (lv' := [(5, .int (nI (i + 1))), (4, .int (nI M)), (2, .int (nI b)), (0, .ref (a 0)), (1, .int (nI (eLeftN g)))]) [0, 2, 3, 4, 5] rfl ?_
                          refine wf_world (wg E (kk 6) a (eEats (eBirds g b) b (i + 1)) ++ (wk E kk ++ r)) (by rw [show eEats (eBirds g b) b (i + 1) = eGo (eEats (eBirds g b) b i) (eCho (eEats (eBirds g b) b i) ((eEats (eBirds g b) b i) 3 b) ((eEats (eBirds g b) b i) 4 b)) from rfl, hco]; rfl) ?_
                          exact ih79 (i + 1) (by omega) (by omega)
                refine wf_sub (lv' := [(5, .int (nI 0)), (4, .int (nI M)), (2, .int (nI b)), (0, .ref (a 0)), (1, .int (nI (eLeftN g)))]) [0, 1, 3, 4, 5] rfl ?_
                exact L79 _ 0 (Nat.lt_succ_self _) (Nat.zero_le _)
              · exact absurd rfl c59
            · refine wf_iconst (nI 1) dX2_passHour_52 (by decide) ?_
              refine wf_goto 57 dX2_passHour_53 (by decide) ?_
              refine wf_istore_n [(3, .int (nI 1)), (2, .int (nI b)), (0, .ref (a 0)), (1, .int (nI (eLeftN g)))] dX2_passHour_57 rfl (by decide) rfl ?_
              refine wf_iload_n 0 dX2_passHour_58 rfl ?_
              refine wf_if_eq_n 73 dX2_passHour_59 (by decide) (by omega) (fun c59 => ?_) (fun c59 => ?_)
              · exact absurd c59 (by decide)
              · refine wf_aload_n 2 dX2_passHour_62 rfl ?_
                refine wf_iload_n 1 dX2_passHour_63 rfl ?_
                refine wf_callVD (As := [.int (nI b)]) (rest := []) 0 (c_X2_kindOf hB (by omega)) kV_X2_87 rfl (by decide) (by decide) (Nat.le_of_ble_eq_true rfl) rfl rfl rfl dX2_passHour_64 ?_
                refine wf_dmeals (k := ((eBirds g b) 3 b)) (by have := hI.kind b; rw [eK]; omega) (by decide) (by decide) (Nat.le_of_ble_eq_true rfl) dX2_passHour_67 ?_
                rw [eK]
                refine wf_goto 74 dX2_passHour_70 (by decide) ?_
                refine wf_istore [(4, .int (nI (if g 3 b = 4 then 2 else 1))), (3, .int (nI 1)), (2, .int (nI b)), (0, .ref (a 0)), (1, .int (nI (eLeftN g)))] dX2_passHour_74 (by decide) rfl ?_
                obtain ⟨M, hM, hM2⟩ : ∃ M, eMeals g b = M ∧ M = (if g 3 b = 4 then 2 else 1) := ⟨(if g 3 b = 4 then 2 else 1), (by unfold eMeals; rw [if_pos (by omega)]), rfl⟩
                refine wf_lvc [(4, .int (nI M)), (3, .int (nI 1)), (2, .int (nI b)), (0, .ref (a 0)), (1, .int (nI (eLeftN g)))] (by rw [hM2]) ?_
                have hM3 : M ≤ 2 := by rw [hM2]; split <;> omega
                refine wf_iconst (nI 0) dX2_passHour_76 (by decide) ?_
                refine wf_istore [(5, .int (nI 0)), (4, .int (nI M)), (3, .int (nI 1)), (2, .int (nI b)), (0, .ref (a 0)), (1, .int (nI (eLeftN g)))] dX2_passHour_77 (by decide) rfl ?_
                have L79 : ∀ (fu79 : Nat) (i : Nat), M - i < fu79 → (i ≤ M) → WF l E RX2 cX2_passHour 7 (some .int) rmX2_passHour false (fun _ => True) (QM E (wg E (kk 6) a g ++ (wk E kk ++ r)) (IS (some (.int (nI (eLeftN g) - nI (eLeftN (eHr g))))) (wg E (kk 6) a (eHr g) ++ (wk E kk ++ r))) rmX2_passHour) (wg E (kk 6) a g ++ (wk E kk ++ r)) 0 0 79 [(5, .int (nI i)), (4, .int (nI M)), (2, .int (nI b)), (0, .ref (a 0)), (1, .int (nI (eLeftN g)))] [] (wg E (kk 6) a (eEats (eBirds g b) b i) ++ (wk E kk ++ r)) := by
                  intro fu79
                  induction fu79 with
                  | zero => intro i hn; exact absurd hn (Nat.not_lt_zero _)
                  | succ fu79 ih79 =>
                    intro i hn hi
                    have hE := hB.oEats b i
                    have hef : ∀ f j, ¬ (f = 9 ∧ j = 2) → eEats (eBirds g b) b i f j = g f j := fun f j h => (eEats_f h).trans (hbf f j h)
                    have d93 := hef 9 3 (by decide)
                    have d3 := hef 3 b (by omega)
                    have d4 := hef 4 b (by omega)
                    have d2 := hE.gone
                    have d0 := hef 9 0 (by decide)
                    refine wf_iload 0 dX2_passHour_79 rfl ?_
                    refine wf_iload 1 dX2_passHour_81 rfl ?_
                    refine wf_icmp_ge_n 129 dX2_passHour_83 (by decide) (by omega) (by omega) (fun c83 => ?_) (fun c83 => ?_)
                    · refine wf_iinc (nI (b + 1)) 2 [(2, .int (nI (b + 1))), (5, .int (nI i)), (4, .int (nI M)), (0, .ref (a 0)), (1, .int (nI (eLeftN g)))] dX2_passHour_129 rfl (nI_1 b) (by decide) rfl ?_
                      refine wf_goto 18 dX2_passHour_132 (by decide) ?_
                      refine wf_sub (lv' := [(2, .int (nI (b + 1))), (0, .ref (a 0)), (1, .int (nI (eLeftN g)))]) [0, 3, 4] rfl ?_
                      refine wf_world (wg E (kk 6) a (eBirds g (b + 1)) ++ (wk E kk ++ r)) (by rw [show eBirds g (b + 1) = eEats (eBirds g b) b (eMeals g b) from rfl, hM, show i = M by omega]) ?_
                      exact ih18 (b + 1) (by omega) (by omega)
                    · refine wf_aload_n 3 dX2_passHour_86 rfl ?_
                      refine wf_iload_n 2 dX2_passHour_87 rfl ?_
                      refine wf_callVD (As := [.int (nI b)]) (rest := []) 0 (c_X2_kindOf hE (by omega)) kV_X2_87 rfl (by decide) (by decide) (Nat.le_of_ble_eq_true rfl) rfl rfl rfl dX2_passHour_88 ?_
                      refine wf_aload_n 3 dX2_passHour_91 rfl ?_
                      refine wf_aload_n 3 dX2_passHour_92 rfl ?_
                      refine wf_getf (C := RX2) (T := TX2) (N := 14) (v := .ref (a 5)) 0 6 in_X2 rfl rfl (by decide) fl_X2_24 rfl dX2_passHour_93 ?_
                      refine wf_iload_n 2 dX2_passHour_96 rfl ?_
                      refine wf_iald_n (nI ((eEats (eBirds g b) b i) 4 b)) 5 rfl (by omega) (by decide) rfl dX2_passHour_97 ?_
                      refine wf_dchoice (k := ((eEats (eBirds g b) b i) 3 b)) (t := (eEats (eBirds g b) b i) 4 b) (by rw [d3]; exact g3) hE (by rw [d4]; omega) (by decide) (by decide) (Nat.le_of_ble_eq_true rfl) dX2_passHour_98 ?_
                      refine wf_istore [(6, .int (eO (eCho (eEats (eBirds g b) b i) ((eEats (eBirds g b) b i) 3 b) ((eEats (eBirds g b) b i) 4 b)))), (5, .int (nI i)), (4, .int (nI M)), (2, .int (nI b)), (0, .ref (a 0)), (1, .int (nI (eLeftN g)))] dX2_passHour_101 (by decide) rfl ?_
                      rcases hco : eCho (eEats (eBirds g b) b i) ((eEats (eBirds g b) b i) 3 b) ((eEats (eBirds g b) b i) 4 b) with _ | w
                      · refine wf_iload 0 dX2_passHour_103 rfl ?_
                        refine wf_bipush (-9) dX2_passHour_105 (by decide) ?_
                        refine wf_icmp_eq 123 dX2_passHour_107 (by decide) (fun c107 => ?_) (fun c107 => ?_)
                        · refine wf_iinc (nI (i + 1)) 1 [(5, .int (nI (i + 1))), (6, .int (eO none)), (4, .int (nI M)), (2, .int (nI b)), (0, .ref (a 0)), (1, .int (nI (eLeftN g)))] dX2_passHour_123 rfl (nI_1 i) (by decide) rfl ?_
                          refine wf_goto 79 dX2_passHour_126 (by decide) ?_
                          refine wf_sub (lv' := [(5, .int (nI (i + 1))), (4, .int (nI M)), (2, .int (nI b)), (0, .ref (a 0)), (1, .int (nI (eLeftN g)))]) [0, 2, 3, 4, 5] rfl ?_
                          refine wf_world (wg E (kk 6) a (eEats (eBirds g b) b (i + 1)) ++ (wk E kk ++ r)) (by rw [show eEats (eBirds g b) b (i + 1) = eGo (eEats (eBirds g b) b i) (eCho (eEats (eBirds g b) b i) ((eEats (eBirds g b) b i) 3 b) ((eEats (eBirds g b) b i) 4 b)) from rfl, hco]; rfl) ?_
                          exact ih79 (i + 1) (by omega) (by omega)
                        · exact absurd rfl c107
                      · have hw := eCh_lt _ _ _ _ w hco
                        have sh : 1 <<< w < 1024 := by rw [Nat.shiftLeft_eq, Nat.one_mul]; exact Nat.lt_of_lt_of_le (Nat.pow_lt_pow_right (by decide) (show w < 10 by omega)) (by decide)
                        refine wf_iload 0 dX2_passHour_103 rfl ?_
                        refine wf_bipush (-9) dX2_passHour_105 (by decide) ?_
                        refine wf_icmp_eq 123 dX2_passHour_107 (by decide) (fun c107 => ?_) (fun c107 => ?_)
                        · exact absurd c107 (ne9 (by omega))
                        · refine wf_aload_n 4 dX2_passHour_110 rfl ?_
                          refine wf_dup dX2_passHour_111 rfl ?_
                          refine wf_getf (C := RX2) (T := TX2) (N := 14) (v := .int (nI ((eEats (eBirds g b) b i) 9 2))) 0 12 in_X2 rfl rfl (by decide) fl_X2_56 rfl dX2_passHour_112 ?_
                          refine wf_iconst (nI 1) dX2_passHour_115 (by decide) ?_
                          refine wf_iload 0 dX2_passHour_116 rfl ?_
                          refine wf_ishl (nI (1 <<< w)) dX2_passHour_118 (nI_shl (by omega) (by omega)) ?_
                          refine wf_ior (nI (((eEats (eBirds g b) b i) 9 2) ||| (1 <<< w))) dX2_passHour_119 (nI_lor (by omega) (by omega)) ?_
                          refine wf_putf (C := RX2) (T := TX2) (N := 14) (ty := .int) 0 12 (wg E (kk 6) a (gs (eEats (eBirds g b) b i) 9 2 (((eEats (eBirds g b) b i) 9 2) ||| (1 <<< w))) ++ (wk E kk ++ r)) tyX2 in_X2 tyX2_ok nmX2 rfl rfl (by decide) fl_X2_56 rfl (by decide +kernel) (by rfl) rfl (Nat.le_of_ble_eq_true rfl) (sf 0 (Nat.le_of_ble_eq_true rfl) (wg_put2 (((eEats (eBirds g b) b i) 9 2) ||| (1 <<< w)))) dX2_passHour_120 ?_
                          refine wf_iinc (nI (i + 1)) 1 [(5, .int (nI (i + 1))), (6, .int (nI w)), (4, .int (nI M)), (2, .int (nI b)), (0, .ref (a 0)), (1, .int (nI (eLeftN g)))] dX2_passHour_123 rfl (nI_1 i) (by decide) rfl ?_
                          refine wf_goto 79 dX2_passHour_126 (by decide) ?_
                          refine wf_sub (lv' := [(5, .int (nI (i + 1))), (4, .int (nI M)), (2, .int (nI b)), (0, .ref (a 0)), (1, .int (nI (eLeftN g)))]) [0, 2, 3, 4, 5] rfl ?_
                          refine wf_world (wg E (kk 6) a (eEats (eBirds g b) b (i + 1)) ++ (wk E kk ++ r)) (by rw [show eEats (eBirds g b) b (i + 1) = eGo (eEats (eBirds g b) b i) (eCho (eEats (eBirds g b) b i) ((eEats (eBirds g b) b i) 3 b) ((eEats (eBirds g b) b i) 4 b)) from rfl, hco]; rfl) ?_
                          exact ih79 (i + 1) (by omega) (by omega)
                refine wf_sub (lv' := [(5, .int (nI 0)), (4, .int (nI M)), (2, .int (nI b)), (0, .ref (a 0)), (1, .int (nI (eLeftN g)))]) [0, 1, 3, 4, 5] rfl ?_
                exact L79 _ 0 (Nat.lt_succ_self _) (Nat.zero_le _)
    refine wf_sub (lv' := [(2, .int (nI 0)), (0, .ref (a 0)), (1, .int (nI (eLeftN g)))]) [0, 2, 1] rfl ?_
    exact L18 _ 0 (Nat.lt_succ_self _) (Nat.zero_le _)
  · refine wf_iconst (nI 0) dX2_passHour_9 (by decide) ?_
    exact wf_iret .int rfl (vp_nar_int _) ⟨rfl, rfl⟩ ⟨congrArg (fun z => some (Value.int z)) (by rw [eHr_dusk (by omega)]; exact (Int32.sub_self _).symm), (by rw [eHr_dusk (by omega)])⟩ dX2_passHour_10
end
section
abbrev rmX2_passTillDusk : Room := { frames := 4, cells := 0, slots := 0, locals := 95 }
set_option maxHeartbeats 4000000 in
set_option maxRecDepth 100000 in
theorem c_X2_passTillDusk {l : Launch} {E : Ev} {g : Gd} {a kk : Nat → Nat} {r : va_W} (hI : Inv g) : CT l E yX2_passTillDusk cX2_passTillDusk 2 (some .int) rmX2_passTillDusk [.ref (a 0)] (wg E (kk 6) a g ++ (wk E kk ++ r)) (IS (some (.int (nI (eLeftN (eDk g))))) (wg E (kk 6) a (eDk g) ++ (wk E kk ++ r))) := by
  refine CT.of (lv := [(0, .ref (a 0))]) false (by decide +kernel) (by decide) (Nat.le_of_ble_eq_true rfl) rfl ?_
  have f0 := hI.words
  have f1 := hI.birds
  have f2 := hI.gone
  have f3 := hI.hour
  refine wf_aload_n 0 dX2_passTillDusk_0 rfl ?_
  refine wf_getf (C := RX2) (T := TX2) (N := 14) (v := .int (nI (g 9 3))) 0 13 in_X2 rfl rfl (by decide) fl_X2_59 rfl dX2_passTillDusk_1 ?_
  refine wf_istore_n [(1, .int (nI (g 9 3))), (0, .ref (a 0))] dX2_passTillDusk_4 rfl (by decide) rfl ?_
  have L5 : ∀ (fu5 : Nat) (i : Nat), 8 - i < fu5 → (g 9 3 ≤ i) → (i ≤ 8) → WF l E RX2 cX2_passTillDusk 2 (some .int) rmX2_passTillDusk false (fun _ => True) (QM E (wg E (kk 6) a g ++ (wk E kk ++ r)) (IS (some (.int (nI (eLeftN (eDk g))))) (wg E (kk 6) a (eDk g) ++ (wk E kk ++ r))) rmX2_passTillDusk) (wg E (kk 6) a g ++ (wk E kk ++ r)) 0 0 5 [(1, .int (nI i)), (0, .ref (a 0))] [] (wg E (kk 6) a (eHrs g (i - g 9 3)) ++ (wk E kk ++ r)) := by
    intro fu5
    induction fu5 with
    | zero => intro i hn; exact absurd hn (Nat.not_lt_zero _)
    | succ fu5 ih5 =>
      intro i hn hi1 hi2
      have hH := hI.oHrs (i - g 9 3)
      have e93 := eHrs_hour (g := g) (i - g 9 3) (by omega)
      refine wf_iload_n 0 dX2_passTillDusk_5 rfl ?_
      refine wf_bipush (nI 8) dX2_passTillDusk_6 (by decide) ?_
      refine wf_icmp_ge_n 22 dX2_passTillDusk_8 (by decide) (by omega) (by omega) (fun c8 => ?_) (fun c8 => ?_)
      · have hie : i = 8 := by omega
        subst hie
        refine wf_aload_n 1 dX2_passTillDusk_22 rfl ?_
        refine wf_callVD (As := []) (rest := []) 0 (c_X2_countLeft (hI.oHrs _)) kV_X2_84 rfl (by decide) (by decide) (Nat.le_of_ble_eq_true rfl) rfl rfl rfl dX2_passTillDusk_23 ?_
        exact wf_iret .int rfl (vp_nar_int _) ⟨rfl, rfl⟩ ⟨congrArg (fun z => some (Value.int z)) (rfl), rfl⟩ dX2_passTillDusk_26
      · refine wf_aload_n 1 dX2_passTillDusk_11 rfl ?_
        refine wf_callVD (As := []) (rest := []) 0 (c_X2_passHour hH) kV_X2_100 rfl (by decide) (by decide) (Nat.le_of_ble_eq_true rfl) rfl rfl rfl dX2_passTillDusk_12 ?_
        refine wf_pop dX2_passTillDusk_15 rfl ?_
        refine wf_iinc (nI (i + 1)) 0 [(1, .int (nI (i + 1))), (0, .ref (a 0))] dX2_passTillDusk_16 rfl (nI_1 i) (by decide) rfl ?_
        refine wf_goto 5 dX2_passTillDusk_19 (by decide) ?_
        refine wf_sub (lv' := [(1, .int (nI (i + 1))), (0, .ref (a 0))]) [0, 1] rfl ?_
        refine wf_world (wg E (kk 6) a (eHrs g (i + 1 - g 9 3)) ++ (wk E kk ++ r)) (by rw [show i + 1 - g 9 3 = (i - g 9 3) + 1 by omega]; rfl) ?_
        exact ih5 (i + 1) (by omega) (by omega) (by omega)
  refine wf_sub (lv' := [(1, .int (nI (g 9 3))), (0, .ref (a 0))]) [0, 1] rfl ?_
  refine wf_world (wg E (kk 6) a (eHrs g (g 9 3 - g 9 3)) ++ (wk E kk ++ r)) (by rw [Nat.sub_self]; rfl) ?_
  exact L5 _ (g 9 3) (Nat.lt_succ_self _) (Nat.le_refl _) f3
abbrev rmX2_hourOfGoing : Room := { frames := 4, cells := 0, slots := 0, locals := 95 }
set_option maxHeartbeats 4000000 in
set_option maxRecDepth 100000 in
theorem c_X2_hourOfGoing {l : Launch} {E : Ev} {w : Nat} {g : Gd} {a kk : Nat → Nat} {r : va_W} (hI : Inv g) (hw : w < 10) : CT l E yX2_hourOfGoing cX2_hourOfGoing 3 (some .int) rmX2_hourOfGoing [.ref (a 0), .int (nI w)] (wg E (kk 6) a g ++ (wk E kk ++ r)) (fun v w2 => v = some (.int (nI (eGoes g w (8 - g 9 3)))) ∧ ∃ g2, Inv g2 ∧ w2 = (wg E (kk 6) a g2 ++ (wk E kk ++ r))) := by
  refine CT.of (lv := [(0, .ref (a 0)), (1, .int (nI w))]) false (by decide +kernel) (by decide) (Nat.le_of_ble_eq_true rfl) rfl ?_
  have f0 := hI.words
  have f1 := hI.birds
  have f2 := hI.gone
  have f3 := hI.hour
  refine wf_aload_n 0 dX2_hourOfGoing_0 rfl ?_
  refine wf_getf (C := RX2) (T := TX2) (N := 14) (v := .int (nI (g 9 3))) 0 13 in_X2 rfl rfl (by decide) fl_X2_59 rfl dX2_hourOfGoing_1 ?_
  refine wf_istore_n [(2, .int (nI (g 9 3))), (0, .ref (a 0)), (1, .int (nI w))] dX2_hourOfGoing_4 rfl (by decide) rfl ?_
  have L5 : ∀ (fu5 : Nat) (i : Nat), 8 - i < fu5 → (g 9 3 ≤ i) → (i ≤ 8) → (eGoes (eHrs g (i - g 9 3)) w (8 - i) = eGoes g w (8 - g 9 3)) → WF l E RX2 cX2_hourOfGoing 3 (some .int) rmX2_hourOfGoing false (fun _ => True) (QM E (wg E (kk 6) a g ++ (wk E kk ++ r)) (fun v w2 => v = some (.int (nI (eGoes g w (8 - g 9 3)))) ∧ ∃ g2, Inv g2 ∧ w2 = (wg E (kk 6) a g2 ++ (wk E kk ++ r))) rmX2_hourOfGoing) (wg E (kk 6) a g ++ (wk E kk ++ r)) 0 0 5 [(2, .int (nI i)), (0, .ref (a 0)), (1, .int (nI w))] [] (wg E (kk 6) a (eHrs g (i - g 9 3)) ++ (wk E kk ++ r)) := by
    intro fu5
    induction fu5 with
    | zero => intro i hn; exact absurd hn (Nat.not_lt_zero _)
    | succ fu5 ih5 =>
      intro i hn hi1 hi2 hgo
      have hH := hI.oHrs (i - g 9 3)
      have e93 := eHrs_hour (g := g) (i - g 9 3) (by omega)
      refine wf_iload_n 0 dX2_hourOfGoing_5 rfl ?_
      refine wf_bipush (nI 8) dX2_hourOfGoing_6 (by decide) ?_
      refine wf_icmp_ge_n 32 dX2_hourOfGoing_8 (by decide) (by omega) (by omega) (fun c8 => ?_) (fun c8 => ?_)
      · refine wf_bipush (nI 8) dX2_hourOfGoing_32 (by decide) ?_
        exact wf_iret .int rfl (vp_nar_int _) ⟨rfl, rfl⟩ (⟨by rw [← hgo, show 8 - i = 0 by omega]; rfl, _, hH, rfl⟩) dX2_hourOfGoing_34
      · refine wf_aload_n 1 dX2_hourOfGoing_11 rfl ?_
        refine wf_callVD (As := []) (rest := []) 0 (c_X2_passHour hH) kV_X2_100 rfl (by decide) (by decide) (Nat.le_of_ble_eq_true rfl) rfl rfl rfl dX2_hourOfGoing_12 ?_
        refine wf_pop dX2_hourOfGoing_15 rfl ?_
        refine wf_aload_n 1 dX2_hourOfGoing_16 rfl ?_
        refine wf_iload_n 2 dX2_hourOfGoing_17 rfl ?_
        refine wf_callVD (As := [.int (nI w)]) (rest := []) 0 (c_X2_isGone hH.oHr (by omega)) kV_X2_73 rfl (by decide) (by decide) (Nat.le_of_ble_eq_true rfl) rfl rfl rfl dX2_hourOfGoing_18 ?_
        refine wf_if_eq_b 26 dX2_hourOfGoing_21 (by decide) (fun c21 => ?_) (fun c21 => ?_)
        · refine wf_iinc (nI (i + 1)) 0 [(2, .int (nI (i + 1))), (0, .ref (a 0)), (1, .int (nI w))] dX2_hourOfGoing_26 rfl (nI_1 i) (by decide) rfl ?_
          refine wf_goto 5 dX2_hourOfGoing_29 (by decide) ?_
          refine wf_sub (lv' := [(2, .int (nI (i + 1))), (0, .ref (a 0)), (1, .int (nI w))]) [0, 1, 2] rfl ?_
          refine wf_world (wg E (kk 6) a (eHrs g (i + 1 - g 9 3)) ++ (wk E kk ++ r)) (by rw [show i + 1 - g 9 3 = (i - g 9 3) + 1 by omega]; rfl) ?_
          exact ih5 (i + 1) (by omega) (by omega) (by omega) (by rw [← hgo, show 8 - i = (8 - (i + 1)) + 1 by omega, show i + 1 - g 9 3 = (i - g 9 3) + 1 by omega]; show _ = (if _ then _ else _); rw [if_neg (by rw [c21]; decide)]; rfl)
        · refine wf_iload_n 0 dX2_hourOfGoing_24 rfl ?_
          exact wf_iret .int rfl (vp_nar_int _) ⟨rfl, rfl⟩ (⟨by rw [← hgo, show 8 - i = (7 - i) + 1 by omega]; show _ = some (Value.int (nI (if _ then _ else _))); rw [if_pos c21, e93, show g 9 3 + (i - g 9 3) = i by omega], _, hH.oHr, rfl⟩) dX2_hourOfGoing_25
  refine wf_sub (lv' := [(2, .int (nI (g 9 3))), (0, .ref (a 0)), (1, .int (nI w))]) [0, 1, 2] rfl ?_
  refine wf_world (wg E (kk 6) a (eHrs g (g 9 3 - g 9 3)) ++ (wk E kk ++ r)) (by rw [Nat.sub_self]; rfl) ?_
  exact L5 _ (g 9 3) (Nat.lt_succ_self _) (Nat.le_refl _) f3 (by rw [Nat.sub_self]; rfl)
abbrev rmX2_countLeftOf : Room := { frames := 1, cells := 0, slots := 0, locals := 21 }
set_option maxHeartbeats 4000000 in
set_option maxRecDepth 100000 in
theorem c_X2_countLeftOf {l : Launch} {E : Ev} {m : Nat} {g : Gd} {a kk : Nat → Nat} {r : va_W} (hI : Inv g) (hm : m < 1000) : CT l E yX2_countLeftOf cX2_countLeftOf 4 (some .int) rmX2_countLeftOf [.ref (a 0), .int (nI m)] (wg E (kk 6) a g ++ (wk E kk ++ r)) (IS (some (.int (nI (eOf g m (g 9 0))))) (wg E (kk 6) a g ++ (wk E kk ++ r))) := by
  refine CT.of (lv := [(0, .ref (a 0)), (1, .int (nI m))]) false (by decide +kernel) (by decide) (Nat.le_of_ble_eq_true rfl) rfl ?_
  have f0 := hI.words
  have f1 := hI.birds
  have f2 := hI.gone
  have f3 := hI.hour
  refine wf_iconst (nI 0) dX2_countLeftOf_0 (by decide) ?_
  refine wf_istore_n [(2, .int (nI 0)), (0, .ref (a 0)), (1, .int (nI m))] dX2_countLeftOf_1 rfl (by decide) rfl ?_
  refine wf_iconst (nI 0) dX2_countLeftOf_2 (by decide) ?_
  refine wf_istore_n [(3, .int (nI 0)), (2, .int (nI 0)), (0, .ref (a 0)), (1, .int (nI m))] dX2_countLeftOf_3 rfl (by decide) rfl ?_
  have L4 : ∀ (fu4 : Nat) (n : Nat), g 9 0 - n < fu4 → (n ≤ g 9 0) → WF l E RX2 cX2_countLeftOf 4 (some .int) rmX2_countLeftOf false (fun _ => True) (QM E (wg E (kk 6) a g ++ (wk E kk ++ r)) (IS (some (.int (nI (eOf g m (g 9 0))))) (wg E (kk 6) a g ++ (wk E kk ++ r))) rmX2_countLeftOf) (wg E (kk 6) a g ++ (wk E kk ++ r)) 0 0 4 [(3, .int (nI n)), (2, .int (nI (eOf g m n))), (0, .ref (a 0)), (1, .int (nI m))] [] (wg E (kk 6) a g ++ (wk E kk ++ r)) := by
    intro fu4
    induction fu4 with
    | zero => intro n hn; exact absurd hn (Nat.not_lt_zero _)
    | succ fu4 ih4 =>
      intro n hn hn0
      have f6 := hI.mean n
      have f7 := eOf_le g m n
      refine wf_iload_n 0 dX2_countLeftOf_4 rfl ?_
      refine wf_aload_n 2 dX2_countLeftOf_5 rfl ?_
      refine wf_getf (C := RX2) (T := TX2) (N := 14) (v := .int (nI (g 9 0))) 0 4 in_X2 rfl rfl (by decide) fl_X2_49 rfl dX2_countLeftOf_6 ?_
      refine wf_icmp_ge_n 39 dX2_countLeftOf_9 (by decide) (by omega) (by omega) (fun c9 => ?_) (fun c9 => ?_)
      · refine wf_iload_n 1 dX2_countLeftOf_39 rfl ?_
        exact wf_iret .int rfl (vp_nar_int _) ⟨rfl, rfl⟩ ⟨congrArg (fun z => some (Value.int z)) (by rw [show n = g 9 0 by omega]), rfl⟩ dX2_countLeftOf_40
      · refine wf_aload_n 2 dX2_countLeftOf_12 rfl ?_
        refine wf_iload_n 0 dX2_countLeftOf_13 rfl ?_
        refine wf_callVD (As := [.int (nI n)]) (rest := []) 0 (c_X2_isGone hI (by omega)) kV_X2_73 rfl (by decide) (by decide) (Nat.le_of_ble_eq_true rfl) rfl rfl rfl dX2_countLeftOf_14 ?_
        refine wf_if_ne_b 33 dX2_countLeftOf_17 (by decide) (fun c17 => ?_) (fun c17 => ?_)
        · refine wf_iinc (nI (n + 1)) 0 [(3, .int (nI (n + 1))), (2, .int (nI (eOf g m n))), (0, .ref (a 0)), (1, .int (nI m))] dX2_countLeftOf_33 rfl (nI_1 n) (by decide) rfl ?_
          refine wf_goto 4 dX2_countLeftOf_36 (by decide) ?_
          refine wf_sub (lv' := [(3, .int (nI (n + 1))), (2, .int (nI (eOf g m n))), (0, .ref (a 0)), (1, .int (nI m))]) [0, 1, 2, 3] rfl ?_
          refine wf_lvc [(3, .int (nI (n + 1))), (2, .int (nI (eOf g m (n + 1)))), (0, .ref (a 0)), (1, .int (nI m))] (by rw [show (eOf g m n) = eOf g m (n + 1) from by show _ = eOf g m n + (if _ then _ else _); rw [if_neg (by rw [c17]; simp), Nat.add_zero]]) ?_
          exact ih4 (n + 1) (by omega) (by omega)
        · refine wf_aload_n 2 dX2_countLeftOf_20 rfl ?_
          refine wf_getf (C := RX2) (T := TX2) (N := 14) (v := .ref (a 3)) 0 3 in_X2 rfl rfl (by decide) fl_X2_18 rfl dX2_countLeftOf_21 ?_
          refine wf_iload_n 0 dX2_countLeftOf_24 rfl ?_
          refine wf_iald_n (nI (g 2 n)) 3 rfl (by omega) (by decide) rfl dX2_countLeftOf_25 ?_
          refine wf_iload_n 3 dX2_countLeftOf_26 rfl ?_
          refine wf_icmp_ne_n 33 dX2_countLeftOf_27 (by decide) (by omega) (by omega) (fun c27 => ?_) (fun c27 => ?_)
          · refine wf_iinc (nI (n + 1)) 0 [(3, .int (nI (n + 1))), (2, .int (nI (eOf g m n))), (0, .ref (a 0)), (1, .int (nI m))] dX2_countLeftOf_33 rfl (nI_1 n) (by decide) rfl ?_
            refine wf_goto 4 dX2_countLeftOf_36 (by decide) ?_
            refine wf_sub (lv' := [(3, .int (nI (n + 1))), (2, .int (nI (eOf g m n))), (0, .ref (a 0)), (1, .int (nI m))]) [0, 1, 2, 3] rfl ?_
            refine wf_lvc [(3, .int (nI (n + 1))), (2, .int (nI (eOf g m (n + 1)))), (0, .ref (a 0)), (1, .int (nI m))] (by rw [show (eOf g m n) = eOf g m (n + 1) from by show _ = eOf g m n + (if _ then _ else _); rw [if_neg (fun z => c27 z.2), Nat.add_zero]]) ?_
            exact ih4 (n + 1) (by omega) (by omega)
          · refine wf_iinc (nI (eOf g m n + 1)) 1 [(2, .int (nI (eOf g m n + 1))), (3, .int (nI n)), (0, .ref (a 0)), (1, .int (nI m))] dX2_countLeftOf_30 rfl (nI_1 (eOf g m n)) (by decide) rfl ?_
            refine wf_iinc (nI (n + 1)) 1 [(3, .int (nI (n + 1))), (2, .int (nI (eOf g m n + 1))), (0, .ref (a 0)), (1, .int (nI m))] dX2_countLeftOf_33 rfl (nI_1 n) (by decide) rfl ?_
            refine wf_goto 4 dX2_countLeftOf_36 (by decide) ?_
            refine wf_sub (lv' := [(3, .int (nI (n + 1))), (2, .int (nI (eOf g m n + 1))), (0, .ref (a 0)), (1, .int (nI m))]) [0, 1, 2, 3] rfl ?_
            refine wf_lvc [(3, .int (nI (n + 1))), (2, .int (nI (eOf g m (n + 1)))), (0, .ref (a 0)), (1, .int (nI m))] (by rw [show (eOf g m n + 1) = eOf g m (n + 1) from by show _ = eOf g m n + (if _ then _ else _); rw [if_pos ⟨c17, c27⟩]]) ?_
            exact ih4 (n + 1) (by omega) (by omega)
  refine wf_sub (lv' := [(3, .int (nI 0)), (2, .int (nI 0)), (0, .ref (a 0)), (1, .int (nI m))]) [0, 1, 2, 3] rfl ?_
  exact L4 _ 0 (Nat.lt_succ_self _) (Nat.zero_le _)
abbrev rmX2_leftMeanings : Room := { frames := 1, cells := 0, slots := 0, locals := 21 }
set_option maxHeartbeats 4000000 in
set_option maxRecDepth 100000 in
theorem c_X2_leftMeanings {l : Launch} {E : Ev} {g : Gd} {a kk : Nat → Nat} {r : va_W} (hI : Inv g) : CT l E yX2_leftMeanings cX2_leftMeanings 3 (some .int) rmX2_leftMeanings [.ref (a 0)] (wg E (kk 6) a g ++ (wk E kk ++ r)) (IS (some (.int (nI (eMean g (g 9 0))))) (wg E (kk 6) a g ++ (wk E kk ++ r))) := by
  refine CT.of (lv := [(0, .ref (a 0))]) false (by decide +kernel) (by decide) (Nat.le_of_ble_eq_true rfl) rfl ?_
  have f0 := hI.words
  have f1 := hI.birds
  have f2 := hI.gone
  have f3 := hI.hour
  refine wf_iconst (nI 0) dX2_leftMeanings_0 (by decide) ?_
  refine wf_istore_n [(1, .int (nI 0)), (0, .ref (a 0))] dX2_leftMeanings_1 rfl (by decide) rfl ?_
  refine wf_iconst (nI 0) dX2_leftMeanings_2 (by decide) ?_
  refine wf_istore_n [(2, .int (nI 0)), (1, .int (nI 0)), (0, .ref (a 0))] dX2_leftMeanings_3 rfl (by decide) rfl ?_
  have L4 : ∀ (fu4 : Nat) (n : Nat), g 9 0 - n < fu4 → (n ≤ g 9 0) → WF l E RX2 cX2_leftMeanings 3 (some .int) rmX2_leftMeanings false (fun _ => True) (QM E (wg E (kk 6) a g ++ (wk E kk ++ r)) (IS (some (.int (nI (eMean g (g 9 0))))) (wg E (kk 6) a g ++ (wk E kk ++ r))) rmX2_leftMeanings) (wg E (kk 6) a g ++ (wk E kk ++ r)) 0 0 4 [(2, .int (nI n)), (1, .int (nI (eMean g n))), (0, .ref (a 0))] [] (wg E (kk 6) a g ++ (wk E kk ++ r)) := by
    intro fu4
    induction fu4 with
    | zero => intro n hn; exact absurd hn (Nat.not_lt_zero _)
    | succ fu4 ih4 =>
      intro n hn hn0
      have f6 := hI.mean n
      have f7 := eMean_lt hI n
      have f8 : 1 <<< g 2 n < 1024 := by rw [Nat.shiftLeft_eq, Nat.one_mul]; exact Nat.lt_of_lt_of_le (Nat.pow_lt_pow_right (by decide) (show g 2 n < 10 by omega)) (by decide)
      refine wf_iload_n 0 dX2_leftMeanings_4 rfl ?_
      refine wf_aload_n 2 dX2_leftMeanings_5 rfl ?_
      refine wf_getf (C := RX2) (T := TX2) (N := 14) (v := .int (nI (g 9 0))) 0 4 in_X2 rfl rfl (by decide) fl_X2_49 rfl dX2_leftMeanings_6 ?_
      refine wf_icmp_ge_n 37 dX2_leftMeanings_9 (by decide) (by omega) (by omega) (fun c9 => ?_) (fun c9 => ?_)
      · refine wf_iload_n 1 dX2_leftMeanings_37 rfl ?_
        exact wf_iret .int rfl (vp_nar_int _) ⟨rfl, rfl⟩ ⟨congrArg (fun z => some (Value.int z)) (by rw [show n = g 9 0 by omega]), rfl⟩ dX2_leftMeanings_38
      · refine wf_aload_n 2 dX2_leftMeanings_12 rfl ?_
        refine wf_iload_n 0 dX2_leftMeanings_13 rfl ?_
        refine wf_callVD (As := [.int (nI n)]) (rest := []) 0 (c_X2_isGone hI (by omega)) kV_X2_73 rfl (by decide) (by decide) (Nat.le_of_ble_eq_true rfl) rfl rfl rfl dX2_leftMeanings_14 ?_
        refine wf_if_ne_b 31 dX2_leftMeanings_17 (by decide) (fun c17 => ?_) (fun c17 => ?_)
        · refine wf_iinc (nI (n + 1)) 0 [(2, .int (nI (n + 1))), (1, .int (nI (eMean g n))), (0, .ref (a 0))] dX2_leftMeanings_31 rfl (nI_1 n) (by decide) rfl ?_
          refine wf_goto 4 dX2_leftMeanings_34 (by decide) ?_
          refine wf_sub (lv' := [(2, .int (nI (n + 1))), (1, .int (nI (eMean g n))), (0, .ref (a 0))]) [0, 1, 2] rfl ?_
          refine wf_lvc [(2, .int (nI (n + 1))), (1, .int (nI (eMean g (n + 1)))), (0, .ref (a 0))] (by rw [show (eMean g n) = eMean g (n + 1) from by show _ = (if _ then _ else _); rw [if_pos c17]]) ?_
          exact ih4 (n + 1) (by omega) (by omega)
        · refine wf_iload_n 1 dX2_leftMeanings_20 rfl ?_
          refine wf_iconst (nI 1) dX2_leftMeanings_21 (by decide) ?_
          refine wf_aload_n 2 dX2_leftMeanings_22 rfl ?_
          refine wf_getf (C := RX2) (T := TX2) (N := 14) (v := .ref (a 3)) 0 3 in_X2 rfl rfl (by decide) fl_X2_18 rfl dX2_leftMeanings_23 ?_
          refine wf_iload_n 0 dX2_leftMeanings_26 rfl ?_
          refine wf_iald_n (nI (g 2 n)) 3 rfl (by omega) (by decide) rfl dX2_leftMeanings_27 ?_
          refine wf_ishl (nI (1 <<< (g 2 n))) dX2_leftMeanings_28 (nI_shl (by omega) (by omega)) ?_
          refine wf_ior (nI ((eMean g n) ||| (1 <<< (g 2 n)))) dX2_leftMeanings_29 (nI_lor (by omega) (by omega)) ?_
          refine wf_istore_n [(1, .int (nI ((eMean g n) ||| (1 <<< (g 2 n))))), (2, .int (nI n)), (0, .ref (a 0))] dX2_leftMeanings_30 rfl (by decide) rfl ?_
          refine wf_iinc (nI (n + 1)) 1 [(2, .int (nI (n + 1))), (1, .int (nI ((eMean g n) ||| (1 <<< (g 2 n))))), (0, .ref (a 0))] dX2_leftMeanings_31 rfl (nI_1 n) (by decide) rfl ?_
          refine wf_goto 4 dX2_leftMeanings_34 (by decide) ?_
          refine wf_sub (lv' := [(2, .int (nI (n + 1))), (1, .int (nI ((eMean g n) ||| (1 <<< (g 2 n))))), (0, .ref (a 0))]) [0, 1, 2] rfl ?_
          refine wf_lvc [(2, .int (nI (n + 1))), (1, .int (nI (eMean g (n + 1)))), (0, .ref (a 0))] (by rw [show ((eMean g n) ||| (1 <<< (g 2 n))) = eMean g (n + 1) from by show _ = (if _ then _ else _); rw [if_neg (by rw [c17]; decide)]]) ?_
          exact ih4 (n + 1) (by omega) (by omega)
  refine wf_sub (lv' := [(2, .int (nI 0)), (1, .int (nI 0)), (0, .ref (a 0))]) [0, 1, 2] rfl ?_
  exact L4 _ 0 (Nat.lt_succ_self _) (Nat.zero_le _)
abbrev rmX2_strengthLeft : Room := { frames := 1, cells := 0, slots := 0, locals := 22 }
set_option maxHeartbeats 4000000 in
set_option maxRecDepth 100000 in
theorem c_X2_strengthLeft {l : Launch} {E : Ev} {g : Gd} {a kk : Nat → Nat} {r : va_W} (hI : Inv g) : CT l E yX2_strengthLeft cX2_strengthLeft 3 (some .int) rmX2_strengthLeft [.ref (a 0)] (wg E (kk 6) a g ++ (wk E kk ++ r)) (IS (some (.int (nI (eSum g (g 9 0))))) (wg E (kk 6) a g ++ (wk E kk ++ r))) := by
  refine CT.of (lv := [(0, .ref (a 0))]) false (by decide +kernel) (by decide) (Nat.le_of_ble_eq_true rfl) rfl ?_
  have f0 := hI.words
  have f1 := hI.birds
  have f2 := hI.gone
  have f3 := hI.hour
  refine wf_iconst (nI 0) dX2_strengthLeft_0 (by decide) ?_
  refine wf_istore_n [(1, .int (nI 0)), (0, .ref (a 0))] dX2_strengthLeft_1 rfl (by decide) rfl ?_
  refine wf_iconst (nI 0) dX2_strengthLeft_2 (by decide) ?_
  refine wf_istore_n [(2, .int (nI 0)), (1, .int (nI 0)), (0, .ref (a 0))] dX2_strengthLeft_3 rfl (by decide) rfl ?_
  have L4 : ∀ (fu4 : Nat) (n : Nat), g 9 0 - n < fu4 → (n ≤ g 9 0) → WF l E RX2 cX2_strengthLeft 3 (some .int) rmX2_strengthLeft false (fun _ => True) (QM E (wg E (kk 6) a g ++ (wk E kk ++ r)) (IS (some (.int (nI (eSum g (g 9 0))))) (wg E (kk 6) a g ++ (wk E kk ++ r))) rmX2_strengthLeft) (wg E (kk 6) a g ++ (wk E kk ++ r)) 0 0 4 [(2, .int (nI n)), (1, .int (nI (eSum g n))), (0, .ref (a 0))] [] (wg E (kk 6) a g ++ (wk E kk ++ r)) := by
    intro fu4
    induction fu4 with
    | zero => intro n hn; exact absurd hn (Nat.not_lt_zero _)
    | succ fu4 ih4 =>
      intro n hn hn0
      refine wf_iload_n 0 dX2_strengthLeft_4 rfl ?_
      refine wf_aload_n 2 dX2_strengthLeft_5 rfl ?_
      refine wf_getf (C := RX2) (T := TX2) (N := 14) (v := .int (nI (g 9 0))) 0 4 in_X2 rfl rfl (by decide) fl_X2_49 rfl dX2_strengthLeft_6 ?_
      refine wf_icmp_ge_n 34 dX2_strengthLeft_9 (by decide) (by omega) (by omega) (fun c9 => ?_) (fun c9 => ?_)
      · refine wf_iload_n 1 dX2_strengthLeft_34 rfl ?_
        exact wf_iret .int rfl (vp_nar_int _) ⟨rfl, rfl⟩ ⟨congrArg (fun z => some (Value.int z)) (by rw [show n = g 9 0 by omega]), rfl⟩ dX2_strengthLeft_35
      · refine wf_aload_n 2 dX2_strengthLeft_12 rfl ?_
        refine wf_iload_n 0 dX2_strengthLeft_13 rfl ?_
        refine wf_callVD (As := [.int (nI n)]) (rest := []) 0 (c_X2_isGone hI (by omega)) kV_X2_73 rfl (by decide) (by decide) (Nat.le_of_ble_eq_true rfl) rfl rfl rfl dX2_strengthLeft_14 ?_
        refine wf_if_ne_b 28 dX2_strengthLeft_17 (by decide) (fun c17 => ?_) (fun c17 => ?_)
        · refine wf_iinc (nI (n + 1)) 0 [(2, .int (nI (n + 1))), (1, .int (nI (eSum g n))), (0, .ref (a 0))] dX2_strengthLeft_28 rfl (nI_1 n) (by decide) rfl ?_
          refine wf_goto 4 dX2_strengthLeft_31 (by decide) ?_
          refine wf_sub (lv' := [(2, .int (nI (n + 1))), (1, .int (nI (eSum g n))), (0, .ref (a 0))]) [0, 1, 2] rfl ?_
          refine wf_lvc [(2, .int (nI (n + 1))), (1, .int (nI (eSum g (n + 1)))), (0, .ref (a 0))] (by rw [show (eSum g n) = eSum g (n + 1) from by show _ = eSum g n + (if _ then _ else _); rw [if_pos c17, Nat.add_zero]]) ?_
          exact ih4 (n + 1) (by omega) (by omega)
        · refine wf_iload_n 1 dX2_strengthLeft_20 rfl ?_
          refine wf_aload_n 2 dX2_strengthLeft_21 rfl ?_
          refine wf_iload_n 0 dX2_strengthLeft_22 rfl ?_
          refine wf_callVD (As := [.int (nI n)]) (rest := [.int (nI (eSum g n))]) 0 (c_X2_strength hI (by omega)) kV_X2_80 rfl (by decide) (by decide) (Nat.le_of_ble_eq_true rfl) rfl rfl rfl dX2_strengthLeft_23 ?_
          refine wf_iadd (nI ((eSum g n) + (eStr g n))) dX2_strengthLeft_26 (nI_add (eSum g n) (eStr g n)) ?_
          refine wf_istore_n [(1, .int (nI ((eSum g n) + (eStr g n)))), (2, .int (nI n)), (0, .ref (a 0))] dX2_strengthLeft_27 rfl (by decide) rfl ?_
          refine wf_iinc (nI (n + 1)) 1 [(2, .int (nI (n + 1))), (1, .int (nI ((eSum g n) + (eStr g n)))), (0, .ref (a 0))] dX2_strengthLeft_28 rfl (nI_1 n) (by decide) rfl ?_
          refine wf_goto 4 dX2_strengthLeft_31 (by decide) ?_
          refine wf_sub (lv' := [(2, .int (nI (n + 1))), (1, .int (nI ((eSum g n) + (eStr g n)))), (0, .ref (a 0))]) [0, 1, 2] rfl ?_
          refine wf_lvc [(2, .int (nI (n + 1))), (1, .int (nI (eSum g (n + 1)))), (0, .ref (a 0))] (by rw [show ((eSum g n) + (eStr g n)) = eSum g (n + 1) from by show _ = eSum g n + (if _ then _ else _); rw [if_neg (by rw [c17]; decide)]]) ?_
          exact ih4 (n + 1) (by omega) (by omega)
  refine wf_sub (lv' := [(2, .int (nI 0)), (1, .int (nI 0)), (0, .ref (a 0))]) [0, 1, 2] rfl ?_
  exact L4 _ 0 (Nat.lt_succ_self _) (Nat.zero_le _)
abbrev rmX2_placeOtherThan : Room := { frames := 1, cells := 0, slots := 0, locals := 21 }
set_option maxHeartbeats 4000000 in
set_option maxRecDepth 100000 in
theorem c_X2_placeOtherThan {l : Launch} {E : Ev} {g : Gd} {a kk : Nat → Nat} {r : va_W} {ax al : Nat → Nat} {an am ai : Nat} {y : Gd} (hI : Inv g) (hy : ∀ i, y 2 i ≤ 9) (hy2 : y 0 2 ≤ 10) : CT l E yX2_placeOtherThan cX2_placeOtherThan 5 (some .int) rmX2_placeOtherThan [.ref (a 0), .ref (ax 1), .int (nI (y 0 2))] (wg E (kk 6) a g ++ (wk E kk ++ (wl E al y ++ (wx E ax an am ai (al 0) y ++ r)))) (IS (some (.int (eO (eOther g (y 2) (y 0 2) (g 9 0) 0 0)))) (wg E (kk 6) a g ++ (wk E kk ++ (wl E al y ++ (wx E ax an am ai (al 0) y ++ r))))) := by
  refine CT.of (lv := [(0, .ref (a 0)), (1, .ref (ax 1)), (2, .int (nI (y 0 2)))]) false (by decide +kernel) (by decide) (Nat.le_of_ble_eq_true rfl) rfl ?_
  have f0 := hI.words
  have f1 := hI.birds
  have f2 := hI.gone
  have f3 := hI.hour
  refine wf_iconst (nI 0) dX2_placeOtherThan_0 (by decide) ?_
  refine wf_istore_n [(3, .int (nI 0)), (0, .ref (a 0)), (1, .ref (ax 1)), (2, .int (nI (y 0 2)))] dX2_placeOtherThan_1 rfl (by decide) rfl ?_
  refine wf_iconst (nI 0) dX2_placeOtherThan_2 (by decide) ?_
  refine wf_istore [(4, .int (nI 0)), (3, .int (nI 0)), (0, .ref (a 0)), (1, .ref (ax 1)), (2, .int (nI (y 0 2)))] dX2_placeOtherThan_3 (by decide) rfl ?_
  have L5 : ∀ (fu5 : Nat) (n : Nat) (p : Nat), g 9 0 - n < fu5 → (n ≤ g 9 0) → (p ≤ n) → (eOther g (y 2) (y 0 2) (g 9 0 - n) n p = eOther g (y 2) (y 0 2) (g 9 0) 0 0) → WF l E RX2 cX2_placeOtherThan 5 (some .int) rmX2_placeOtherThan false (fun _ => True) (QM E (wg E (kk 6) a g ++ (wk E kk ++ (wl E al y ++ (wx E ax an am ai (al 0) y ++ r)))) (IS (some (.int (eO (eOther g (y 2) (y 0 2) (g 9 0) 0 0)))) (wg E (kk 6) a g ++ (wk E kk ++ (wl E al y ++ (wx E ax an am ai (al 0) y ++ r))))) rmX2_placeOtherThan) (wg E (kk 6) a g ++ (wk E kk ++ (wl E al y ++ (wx E ax an am ai (al 0) y ++ r)))) 0 0 5 [(4, .int (nI n)), (3, .int (nI p)), (0, .ref (a 0)), (1, .ref (ax 1)), (2, .int (nI (y 0 2)))] [] (wg E (kk 6) a g ++ (wk E kk ++ (wl E al y ++ (wx E ax an am ai (al 0) y ++ r)))) := by
    intro fu5
    induction fu5 with
    | zero => intro n p hn; exact absurd hn (Nat.not_lt_zero _)
    | succ fu5 ih5 =>
      intro n p hn hn0 hp0 ho
      have f6 := hI.mean n
      have f7 := hy p
      refine wf_iload 0 dX2_placeOtherThan_5 rfl ?_
      refine wf_aload_n 2 dX2_placeOtherThan_7 rfl ?_
      refine wf_getf (C := RX2) (T := TX2) (N := 14) (v := .int (nI (g 9 0))) 0 4 in_X2 rfl rfl (by decide) fl_X2_49 rfl dX2_placeOtherThan_8 ?_
      refine wf_icmp_ge_n 55 dX2_placeOtherThan_11 (by decide) (by omega) (by omega) (fun c11 => ?_) (fun c11 => ?_)
      · refine wf_iload_n 1 dX2_placeOtherThan_55 rfl ?_
        refine wf_iload_n 4 dX2_placeOtherThan_56 rfl ?_
        refine wf_icmp_ge_n 64 dX2_placeOtherThan_57 (by decide) (by omega) (by omega) (fun c57 => ?_) (fun c57 => ?_)
        · refine wf_bipush (-9) dX2_placeOtherThan_64 (by decide) ?_
          exact wf_iret .int rfl (vp_nar_int _) ⟨rfl, rfl⟩ ⟨congrArg (fun z => some (Value.int z)) (by rw [← ho, show g 9 0 - n = 0 by omega]; show _ = eO (if _ then _ else _); rw [if_neg (by omega)]; rfl), rfl⟩ dX2_placeOtherThan_66
        · refine wf_iload_n 1 dX2_placeOtherThan_60 rfl ?_
          refine wf_goto 66 dX2_placeOtherThan_61 (by decide) ?_
          exact wf_iret .int rfl (vp_nar_int _) ⟨rfl, rfl⟩ ⟨congrArg (fun z => some (Value.int z)) (by rw [← ho, show g 9 0 - n = 0 by omega]; show _ = eO (if _ then _ else _); rw [if_pos c57]; rfl), rfl⟩ dX2_placeOtherThan_66
      · refine wf_aload_n 2 dX2_placeOtherThan_14 rfl ?_
        refine wf_iload 0 dX2_placeOtherThan_15 rfl ?_
        refine wf_callVD (As := [.int (nI n)]) (rest := []) 0 (c_X2_isGone hI (by omega)) kV_X2_73 rfl (by decide) (by decide) (Nat.le_of_ble_eq_true rfl) rfl rfl rfl dX2_placeOtherThan_17 ?_
        refine wf_if_eq_b 26 dX2_placeOtherThan_20 (by decide) (fun c20 => ?_) (fun c20 => ?_)
        · refine wf_iload_n 1 dX2_placeOtherThan_26 rfl ?_
          refine wf_iload_n 4 dX2_placeOtherThan_27 rfl ?_
          refine wf_icmp_ge_n 44 dX2_placeOtherThan_28 (by decide) (by omega) (by omega) (fun c28 => ?_) (fun c28 => ?_)
          · refine wf_iload_n 1 dX2_placeOtherThan_44 rfl ?_
            exact wf_iret .int rfl (vp_nar_int _) ⟨rfl, rfl⟩ ⟨congrArg (fun z => some (Value.int z)) (by rw [← ho, show g 9 0 - n = (g 9 0 - (n + 1)) + 1 by omega]; show _ = eO (if _ then _ else if _ then _ else _); rw [if_neg (by rw [c20]; decide), if_pos (Or.inl c28)]; rfl), rfl⟩ dX2_placeOtherThan_45
          · refine wf_aload_n 3 dX2_placeOtherThan_31 rfl ?_
            refine wf_iload_n 1 dX2_placeOtherThan_32 rfl ?_
            refine wf_iald_n (nI (y 2 p)) 20 rfl (by omega) (by decide) rfl dX2_placeOtherThan_33 ?_
            refine wf_aload_n 2 dX2_placeOtherThan_34 rfl ?_
            refine wf_getf (C := RX2) (T := TX2) (N := 14) (v := .ref (a 3)) 0 3 in_X2 rfl rfl (by decide) fl_X2_18 rfl dX2_placeOtherThan_35 ?_
            refine wf_iload 0 dX2_placeOtherThan_38 rfl ?_
            refine wf_iald_n (nI (g 2 n)) 3 rfl (by omega) (by decide) rfl dX2_placeOtherThan_40 ?_
            refine wf_icmp_eq_n 46 dX2_placeOtherThan_41 (by decide) (by omega) (by omega) (fun c41 => ?_) (fun c41 => ?_)
            · refine wf_iinc (nI (p + 1)) 1 [(3, .int (nI (p + 1))), (4, .int (nI n)), (0, .ref (a 0)), (1, .ref (ax 1)), (2, .int (nI (y 0 2)))] dX2_placeOtherThan_46 rfl (nI_1 p) (by decide) rfl ?_
              refine wf_iinc (nI (n + 1)) 1 [(4, .int (nI (n + 1))), (3, .int (nI (p + 1))), (0, .ref (a 0)), (1, .ref (ax 1)), (2, .int (nI (y 0 2)))] dX2_placeOtherThan_49 rfl (nI_1 n) (by decide) rfl ?_
              refine wf_goto 5 dX2_placeOtherThan_52 (by decide) ?_
              refine wf_sub (lv' := [(4, .int (nI (n + 1))), (3, .int (nI (p + 1))), (0, .ref (a 0)), (1, .ref (ax 1)), (2, .int (nI (y 0 2)))]) [0, 1, 2, 3, 4] rfl ?_
              exact ih5 (n + 1) (p + 1) (by omega) (by omega) (by omega) (by rw [← ho, show g 9 0 - n = (g 9 0 - (n + 1)) + 1 by omega]; symm; show (if _ then _ else if _ then _ else _) = _; rw [if_neg (by rw [c20]; decide), if_neg (by omega)])
            · refine wf_iload_n 1 dX2_placeOtherThan_44 rfl ?_
              exact wf_iret .int rfl (vp_nar_int _) ⟨rfl, rfl⟩ ⟨congrArg (fun z => some (Value.int z)) (by rw [← ho, show g 9 0 - n = (g 9 0 - (n + 1)) + 1 by omega]; show _ = eO (if _ then _ else if _ then _ else _); rw [if_neg (by rw [c20]; decide), if_pos (Or.inr c41)]; rfl), rfl⟩ dX2_placeOtherThan_45
        · refine wf_goto 49 dX2_placeOtherThan_23 (by decide) ?_
          refine wf_iinc (nI (n + 1)) 0 [(4, .int (nI (n + 1))), (3, .int (nI p)), (0, .ref (a 0)), (1, .ref (ax 1)), (2, .int (nI (y 0 2)))] dX2_placeOtherThan_49 rfl (nI_1 n) (by decide) rfl ?_
          refine wf_goto 5 dX2_placeOtherThan_52 (by decide) ?_
          refine wf_sub (lv' := [(4, .int (nI (n + 1))), (3, .int (nI p)), (0, .ref (a 0)), (1, .ref (ax 1)), (2, .int (nI (y 0 2)))]) [0, 1, 2, 3, 4] rfl ?_
          exact ih5 (n + 1) p (by omega) (by omega) (by omega) (by rw [← ho, show g 9 0 - n = (g 9 0 - (n + 1)) + 1 by omega]; symm; show (if _ then _ else if _ then _ else _) = _; rw [if_pos c20])
  refine wf_sub (lv' := [(4, .int (nI 0)), (3, .int (nI 0)), (0, .ref (a 0)), (1, .ref (ax 1)), (2, .int (nI (y 0 2)))]) [0, 1, 2, 3, 4] rfl ?_
  exact L5 _ 0 0 (Nat.lt_succ_self _) (Nat.zero_le _) (Nat.zero_le _) rfl
end
section
abbrev rmX2_keepAway : Room := { frames := 0, cells := 0, slots := 0, locals := 0 }
set_option maxHeartbeats 4000000 in
set_option maxRecDepth 100000 in
theorem c_X2_keepAway {l : Launch} {E : Ev} {b : Nat} {g : Gd} {a kk : Nat → Nat} {r : va_W} (hb : b < 4) : CT l E yX2_keepAway cX2_keepAway 2 none rmX2_keepAway [.ref (a 0), .int (nI b)] (wg E (kk 6) a g ++ (wk E kk ++ r)) (IS (none) (wg E (kk 6) a (gs g 5 b 8) ++ (wk E kk ++ r))) := by
  refine CT.of (lv := [(0, .ref (a 0)), (1, .int (nI b))]) false (by decide +kernel) (by decide) (Nat.le_of_ble_eq_true rfl) rfl ?_
  refine wf_aload_n 0 dX2_keepAway_0 rfl ?_
  refine wf_getf (C := RX2) (T := TX2) (N := 14) (v := .ref (a 6)) 0 7 in_X2 rfl rfl (by decide) fl_X2_27 rfl dX2_keepAway_1 ?_
  refine wf_iload_n 1 dX2_keepAway_4 rfl ?_
  refine wf_bipush (nI 8) dX2_keepAway_5 (by decide) ?_
  refine wf_iast_n (wg E (kk 6) a (gs g 5 b 8) ++ (wk E kk ++ r)) 6 rfl (by omega) (by decide) (sf 6 (Nat.le_of_ble_eq_true rfl) (wg_set5 b 8)) dX2_keepAway_7 ?_
  exact wf_vret rfl ⟨rfl, rfl⟩ ⟨rfl, rfl⟩ dX2_keepAway_8
abbrev rmX2_setBitter : Room := { frames := 1, cells := 0, slots := 0, locals := 20 }
set_option maxHeartbeats 4000000 in
set_option maxRecDepth 100000 in
theorem c_X2_setBitter {l : Launch} {E : Ev} {i v : Nat} {g : Gd} {a kk : Nat → Nat} {r : va_W} (hi : i < 3) : CT l E yX2_setBitter cX2_setBitter 3 none rmX2_setBitter [.ref (a 0), .int (nI i), .int (nI v)] (wg E (kk 6) a g ++ (wk E kk ++ r)) (IS (none) (wg E (kk 6) a (gs g 7 i v) ++ (wk E kk ++ r))) := by
  refine CT.of (lv := [(0, .ref (a 0)), (1, .int (nI i)), (2, .int (nI v))]) false (by decide +kernel) (by decide) (Nat.le_of_ble_eq_true rfl) rfl ?_
  refine wf_iload_n 1 dX2_setBitter_0 rfl ?_
  refine wf_callNSD (As := [.int (nI i)]) (rest := []) (c_X8_isInk) kNS_X2_66 rfl (by decide) (by decide) (Nat.le_of_ble_eq_true rfl) rfl dX2_setBitter_1 ?_
  refine wf_if_eq_b 14 dX2_setBitter_4 (by decide) (fun c4 => ?_) (fun c4 => ?_)
  · exact absurd c4 (by rw [eHas_n (by omega) (by decide), decide_eq_true hi]; decide)
  · refine wf_aload_n 0 dX2_setBitter_7 rfl ?_
    refine wf_getf (C := RX2) (T := TX2) (N := 14) (v := .ref (a 8)) 0 10 in_X2 rfl rfl (by decide) fl_X2_33 rfl dX2_setBitter_8 ?_
    refine wf_iload_n 1 dX2_setBitter_11 rfl ?_
    refine wf_iload_n 2 dX2_setBitter_12 rfl ?_
    refine wf_iast_n (wg E (kk 6) a (gs g 7 i v) ++ (wk E kk ++ r)) 8 rfl (by omega) (by decide) (sf 8 (Nat.le_of_ble_eq_true rfl) (wg_set7 i v)) dX2_setBitter_13 ?_
    exact wf_vret rfl ⟨rfl, rfl⟩ ⟨rfl, rfl⟩ dX2_setBitter_14
abbrev rmX2_addWord : Room := { frames := 1, cells := 0, slots := 0, locals := 20 }
set_option maxHeartbeats 4000000 in
set_option maxRecDepth 100000 in
theorem c_X2_addWord {l : Launch} {E : Ev} {s i m : Nat} {g : Gd} {a kk : Nat → Nat} {r : va_W} (hw : g 9 0 < 10) (hi : i < 3) : CT l E yX2_addWord cX2_addWord 4 none rmX2_addWord [.ref (a 0), .int (nI s), .int (nI i), .int (nI m)] (wg E (kk 6) a g ++ (wk E kk ++ r)) (IS (none) (wg E (kk 6) a (gs (gs (gs (gs g 0 (g 9 0) s) 1 (g 9 0) i) 2 (g 9 0) m) 9 0 (g 9 0 + 1)) ++ (wk E kk ++ r))) := by
  refine CT.of (lv := [(0, .ref (a 0)), (1, .int (nI s)), (2, .int (nI i)), (3, .int (nI m))]) false (by decide +kernel) (by decide) (Nat.le_of_ble_eq_true rfl) rfl ?_
  refine wf_aload_n 0 dX2_addWord_0 rfl ?_
  refine wf_getf (C := RX2) (T := TX2) (N := 14) (v := .int (nI (g 9 0))) 0 4 in_X2 rfl rfl (by decide) fl_X2_49 rfl dX2_addWord_1 ?_
  refine wf_bipush (nI 10) dX2_addWord_4 (by decide) ?_
  refine wf_icmp_ge_n 16 dX2_addWord_6 (by decide) (by omega) (by omega) (fun c6 => ?_) (fun c6 => ?_)
  · exact absurd c6 (by omega)
  · refine wf_iload_n 2 dX2_addWord_9 rfl ?_
    refine wf_callNSD (As := [.int (nI i)]) (rest := []) (c_X8_isInk) kNS_X2_66 rfl (by decide) (by decide) (Nat.le_of_ble_eq_true rfl) rfl dX2_addWord_10 ?_
    refine wf_if_ne_b 17 dX2_addWord_13 (by decide) (fun c13 => ?_) (fun c13 => ?_)
    · refine wf_aload_n 0 dX2_addWord_17 rfl ?_
      refine wf_getf (C := RX2) (T := TX2) (N := 14) (v := .ref (a 1)) 0 1 in_X2 rfl rfl (by decide) fl_X2_9 rfl dX2_addWord_18 ?_
      refine wf_aload_n 0 dX2_addWord_21 rfl ?_
      refine wf_getf (C := RX2) (T := TX2) (N := 14) (v := .int (nI (g 9 0))) 0 4 in_X2 rfl rfl (by decide) fl_X2_49 rfl dX2_addWord_22 ?_
      refine wf_iload_n 1 dX2_addWord_25 rfl ?_
      refine wf_iast_n (wg E (kk 6) a (gs g 0 (g 9 0) s) ++ (wk E kk ++ r)) 1 rfl (by omega) (by decide) (sf 1 (Nat.le_of_ble_eq_true rfl) (wg_set0 (g 9 0) s)) dX2_addWord_26 ?_
      refine wf_aload_n 0 dX2_addWord_27 rfl ?_
      refine wf_getf (C := RX2) (T := TX2) (N := 14) (v := .ref (a 2)) 0 2 in_X2 rfl rfl (by decide) fl_X2_15 rfl dX2_addWord_28 ?_
      refine wf_aload_n 0 dX2_addWord_31 rfl ?_
      refine wf_getf (C := RX2) (T := TX2) (N := 14) (v := .int (nI (g 9 0))) 0 4 in_X2 rfl rfl (by decide) fl_X2_49 rfl dX2_addWord_32 ?_
      refine wf_iload_n 2 dX2_addWord_35 rfl ?_
      refine wf_iast_n (wg E (kk 6) a (gs (gs g 0 (g 9 0) s) 1 (g 9 0) i) ++ (wk E kk ++ r)) 2 rfl (by omega) (by decide) (sf 2 (Nat.le_of_ble_eq_true rfl) (wg_set1 (g 9 0) i)) dX2_addWord_36 ?_
      refine wf_aload_n 0 dX2_addWord_37 rfl ?_
      refine wf_getf (C := RX2) (T := TX2) (N := 14) (v := .ref (a 3)) 0 3 in_X2 rfl rfl (by decide) fl_X2_18 rfl dX2_addWord_38 ?_
      refine wf_aload_n 0 dX2_addWord_41 rfl ?_
      refine wf_getf (C := RX2) (T := TX2) (N := 14) (v := .int (nI (g 9 0))) 0 4 in_X2 rfl rfl (by decide) fl_X2_49 rfl dX2_addWord_42 ?_
      refine wf_iload_n 3 dX2_addWord_45 rfl ?_
      refine wf_iast_n (wg E (kk 6) a (gs (gs (gs g 0 (g 9 0) s) 1 (g 9 0) i) 2 (g 9 0) m) ++ (wk E kk ++ r)) 3 rfl (by omega) (by decide) (sf 3 (Nat.le_of_ble_eq_true rfl) (wg_set2 (g 9 0) m)) dX2_addWord_46 ?_
      refine wf_aload_n 0 dX2_addWord_47 rfl ?_
      refine wf_dup dX2_addWord_48 rfl ?_
      refine wf_getf (C := RX2) (T := TX2) (N := 14) (v := .int (nI (g 9 0))) 0 4 in_X2 rfl rfl (by decide) fl_X2_49 rfl dX2_addWord_49 ?_
      refine wf_iconst (nI 1) dX2_addWord_52 (by decide) ?_
      refine wf_iadd (nI ((g 9 0) + 1)) dX2_addWord_53 (nI_add (g 9 0) 1) ?_
      refine wf_putf (C := RX2) (T := TX2) (N := 14) (ty := .int) 0 4 (wg E (kk 6) a (gs (gs (gs (gs g 0 (g 9 0) s) 1 (g 9 0) i) 2 (g 9 0) m) 9 0 ((g 9 0) + 1)) ++ (wk E kk ++ r)) tyX2 in_X2 tyX2_ok nmX2 rfl rfl (by decide) fl_X2_49 rfl (by decide +kernel) (by rfl) rfl (Nat.le_of_ble_eq_true rfl) (sf 0 (Nat.le_of_ble_eq_true rfl) (wg_put0 ((g 9 0) + 1))) dX2_addWord_54 ?_
      exact wf_vret rfl ⟨rfl, rfl⟩ ⟨rfl, rfl⟩ dX2_addWord_57
    · exact absurd c13 (by rw [eHas_n (by omega) (by decide), decide_eq_true hi]; decide)
abbrev rmX2_addBird : Room := { frames := 0, cells := 0, slots := 0, locals := 0 }
set_option maxHeartbeats 4000000 in
set_option maxRecDepth 100000 in
theorem c_X2_addBird {l : Launch} {E : Ev} {k t f u : Nat} {g : Gd} {a kk : Nat → Nat} {r : va_W} (hb : g 9 1 < 4) (hk : k < 6) : CT l E yX2_addBird cX2_addBird 5 none rmX2_addBird [.ref (a 0), .int (nI k), .int (nI t), .int (nI f), .int (nI u)] (wg E (kk 6) a g ++ (wk E kk ++ r)) (IS (none) (wg E (kk 6) a (gs (gs (gs (gs (gs g 3 (g 9 1) k) 4 (g 9 1) t) 5 (g 9 1) f) 6 (g 9 1) u) 9 1 (g 9 1 + 1)) ++ (wk E kk ++ r))) := by
  refine CT.of (lv := [(0, .ref (a 0)), (1, .int (nI k)), (2, .int (nI t)), (3, .int (nI f)), (4, .int (nI u))]) false (by decide +kernel) (by decide) (Nat.le_of_ble_eq_true rfl) rfl ?_
  refine wf_aload_n 0 dX2_addBird_0 rfl ?_
  refine wf_getf (C := RX2) (T := TX2) (N := 14) (v := .int (nI (g 9 1))) 0 9 in_X2 rfl rfl (by decide) fl_X2_53 rfl dX2_addBird_1 ?_
  refine wf_iconst (nI 4) dX2_addBird_4 (by decide) ?_
  refine wf_icmp_ge_n 21 dX2_addBird_5 (by decide) (by omega) (by omega) (fun c5 => ?_) (fun c5 => ?_)
  · exact absurd c5 (by omega)
  · refine wf_iload_n 1 dX2_addBird_8 rfl ?_
    refine wf_if_lt 21 dX2_addBird_9 (by decide) (fun c9 => ?_) (fun c9 => ?_)
    · exact absurd c9 (nI_pos (by omega))
    · refine wf_iload_n 1 dX2_addBird_12 rfl ?_
      refine wf_aload_n 0 dX2_addBird_13 rfl ?_
      refine wf_getf (C := RX2) (T := TX2) (N := 14) (v := .ref (kk 6)) 0 0 in_X2 rfl rfl (by decide) fl_X2_39 rfl dX2_addBird_14 ?_
      refine wf_alen (t0 := 2) (nI 6) 10 rfl rfl rfl dX2_addBird_17 ?_
      refine wf_icmp_lt_n 22 dX2_addBird_18 (by decide) (by omega) (by omega) (fun c18 => ?_) (fun c18 => ?_)
      · refine wf_aload_n 0 dX2_addBird_22 rfl ?_
        refine wf_getf (C := RX2) (T := TX2) (N := 14) (v := .ref (a 4)) 0 5 in_X2 rfl rfl (by decide) fl_X2_21 rfl dX2_addBird_23 ?_
        refine wf_aload_n 0 dX2_addBird_26 rfl ?_
        refine wf_getf (C := RX2) (T := TX2) (N := 14) (v := .int (nI (g 9 1))) 0 9 in_X2 rfl rfl (by decide) fl_X2_53 rfl dX2_addBird_27 ?_
        refine wf_iload_n 1 dX2_addBird_30 rfl ?_
        refine wf_iast_n (wg E (kk 6) a (gs g 3 (g 9 1) k) ++ (wk E kk ++ r)) 4 rfl (by omega) (by decide) (sf 4 (Nat.le_of_ble_eq_true rfl) (wg_set3 (g 9 1) k)) dX2_addBird_31 ?_
        refine wf_aload_n 0 dX2_addBird_32 rfl ?_
        refine wf_getf (C := RX2) (T := TX2) (N := 14) (v := .ref (a 5)) 0 6 in_X2 rfl rfl (by decide) fl_X2_24 rfl dX2_addBird_33 ?_
        refine wf_aload_n 0 dX2_addBird_36 rfl ?_
        refine wf_getf (C := RX2) (T := TX2) (N := 14) (v := .int (nI (g 9 1))) 0 9 in_X2 rfl rfl (by decide) fl_X2_53 rfl dX2_addBird_37 ?_
        refine wf_iload_n 2 dX2_addBird_40 rfl ?_
        refine wf_iast_n (wg E (kk 6) a (gs (gs g 3 (g 9 1) k) 4 (g 9 1) t) ++ (wk E kk ++ r)) 5 rfl (by omega) (by decide) (sf 5 (Nat.le_of_ble_eq_true rfl) (wg_set4 (g 9 1) t)) dX2_addBird_41 ?_
        refine wf_aload_n 0 dX2_addBird_42 rfl ?_
        refine wf_getf (C := RX2) (T := TX2) (N := 14) (v := .ref (a 6)) 0 7 in_X2 rfl rfl (by decide) fl_X2_27 rfl dX2_addBird_43 ?_
        refine wf_aload_n 0 dX2_addBird_46 rfl ?_
        refine wf_getf (C := RX2) (T := TX2) (N := 14) (v := .int (nI (g 9 1))) 0 9 in_X2 rfl rfl (by decide) fl_X2_53 rfl dX2_addBird_47 ?_
        refine wf_iload_n 3 dX2_addBird_50 rfl ?_
        refine wf_iast_n (wg E (kk 6) a (gs (gs (gs g 3 (g 9 1) k) 4 (g 9 1) t) 5 (g 9 1) f) ++ (wk E kk ++ r)) 6 rfl (by omega) (by decide) (sf 6 (Nat.le_of_ble_eq_true rfl) (wg_set5 (g 9 1) f)) dX2_addBird_51 ?_
        refine wf_aload_n 0 dX2_addBird_52 rfl ?_
        refine wf_getf (C := RX2) (T := TX2) (N := 14) (v := .ref (a 7)) 0 8 in_X2 rfl rfl (by decide) fl_X2_30 rfl dX2_addBird_53 ?_
        refine wf_aload_n 0 dX2_addBird_56 rfl ?_
        refine wf_getf (C := RX2) (T := TX2) (N := 14) (v := .int (nI (g 9 1))) 0 9 in_X2 rfl rfl (by decide) fl_X2_53 rfl dX2_addBird_57 ?_
        refine wf_iload 4 dX2_addBird_60 rfl ?_
        refine wf_iast_n (wg E (kk 6) a (gs (gs (gs (gs g 3 (g 9 1) k) 4 (g 9 1) t) 5 (g 9 1) f) 6 (g 9 1) u) ++ (wk E kk ++ r)) 7 rfl (by omega) (by decide) (sf 7 (Nat.le_of_ble_eq_true rfl) (wg_set6 (g 9 1) u)) dX2_addBird_62 ?_
        refine wf_aload_n 0 dX2_addBird_63 rfl ?_
        refine wf_dup dX2_addBird_64 rfl ?_
        refine wf_getf (C := RX2) (T := TX2) (N := 14) (v := .int (nI (g 9 1))) 0 9 in_X2 rfl rfl (by decide) fl_X2_53 rfl dX2_addBird_65 ?_
        refine wf_iconst (nI 1) dX2_addBird_68 (by decide) ?_
        refine wf_iadd (nI ((g 9 1) + 1)) dX2_addBird_69 (nI_add (g 9 1) 1) ?_
        refine wf_putf (C := RX2) (T := TX2) (N := 14) (ty := .int) 0 9 (wg E (kk 6) a (gs (gs (gs (gs (gs g 3 (g 9 1) k) 4 (g 9 1) t) 5 (g 9 1) f) 6 (g 9 1) u) 9 1 ((g 9 1) + 1)) ++ (wk E kk ++ r)) tyX2 in_X2 tyX2_ok nmX2 rfl rfl (by decide) fl_X2_53 rfl (by decide +kernel) (by rfl) rfl (Nat.le_of_ble_eq_true rfl) (sf 0 (Nat.le_of_ble_eq_true rfl) (wg_put1 ((g 9 1) + 1))) dX2_addBird_70 ?_
        exact wf_vret rfl ⟨rfl, rfl⟩ ⟨rfl, rfl⟩ dX2_addBird_73
      · exact absurd c18 (by omega)
def eWset (g : Gd) (w h z : Nat) : Gd := gs g 8 h (if z = 0 then ldf (g 8 h) (1 <<< w) else ldf (g 8 h) (1 <<< w) ||| (1 <<< w))
abbrev rmX2_setWatched : Room := { frames := 1, cells := 0, slots := 0, locals := 21 }
set_option maxHeartbeats 4000000 in
set_option maxRecDepth 100000 in
theorem c_X2_setWatched {l : Launch} {E : Ev} {w h z : Nat} {g : Gd} {a kk : Nat → Nat} {r : va_W} (hI : Inv g) (hw : w < g 9 0) (hh : h < 8) (hz : z ≤ 1) : CT l E yX2_setWatched cX2_setWatched 5 none rmX2_setWatched [.ref (a 0), .int (nI w), .int (nI h), .int (nI z)] (wg E (kk 6) a g ++ (wk E kk ++ r)) (IS (none) (wg E (kk 6) a (eWset g w h z) ++ (wk E kk ++ r))) := by
  refine CT.of (lv := [(0, .ref (a 0)), (1, .int (nI w)), (2, .int (nI h)), (3, .int (nI z))]) false (by decide +kernel) (by decide) (Nat.le_of_ble_eq_true rfl) rfl ?_
  have f0 := hI.words
  have f1 := hI.birds
  have f2 := hI.gone
  have f3 := hI.hour
  have f4 := hI.wat h
  have sh : 1 <<< w < 1024 := by rw [Nat.shiftLeft_eq, Nat.one_mul]; exact Nat.lt_of_lt_of_le (Nat.pow_lt_pow_right (by decide) (show w < 10 by omega)) (by decide)
  have f5 := ldf_le (g 8 h) (1 <<< w)
  refine wf_aload_n 0 dX2_setWatched_0 rfl ?_
  refine wf_iload_n 1 dX2_setWatched_1 rfl ?_
  refine wf_callVD (As := [.int (nI w)]) (rest := []) 0 (c_X2_hasWord ) kV_X2_70 rfl (by decide) (by decide) (Nat.le_of_ble_eq_true rfl) rfl rfl rfl dX2_setWatched_2 ?_
  refine wf_if_eq_b 18 dX2_setWatched_5 (by decide) (fun c5 => ?_) (fun c5 => ?_)
  · exact absurd c5 (by rw [eHas_n (by omega) (by omega), decide_eq_true hw]; decide)
  · refine wf_iload_n 2 dX2_setWatched_8 rfl ?_
    refine wf_if_lt 18 dX2_setWatched_9 (by decide) (fun c9 => ?_) (fun c9 => ?_)
    · exact absurd c9 (nI_pos (by omega))
    · refine wf_iload_n 2 dX2_setWatched_12 rfl ?_
      refine wf_bipush (nI 8) dX2_setWatched_13 (by decide) ?_
      refine wf_icmp_lt_n 19 dX2_setWatched_15 (by decide) (by omega) (by omega) (fun c15 => ?_) (fun c15 => ?_)
      · refine wf_aload_n 0 dX2_setWatched_19 rfl ?_
        refine wf_getf (C := RX2) (T := TX2) (N := 14) (v := .ref (a 9)) 0 11 in_X2 rfl rfl (by decide) fl_X2_36 rfl dX2_setWatched_20 ?_
        refine wf_iload_n 2 dX2_setWatched_23 rfl ?_
        refine wf_iald_n (nI (g 8 h)) 9 rfl (by omega) (by decide) rfl dX2_setWatched_24 ?_
        refine wf_iconst (nI 1) dX2_setWatched_25 (by decide) ?_
        refine wf_iload_n 1 dX2_setWatched_26 rfl ?_
        refine wf_ishl (nI (1 <<< w)) dX2_setWatched_27 (nI_shl (by omega) (by omega)) ?_
        refine wf_iconst (-1) dX2_setWatched_28 (by decide) ?_
        refine wf_ixor (nI (1 <<< w) ^^^ -1) dX2_setWatched_29 rfl ?_
        refine wf_iand (nI (ldf (g 8 h) (1 <<< w))) dX2_setWatched_30 (nI_andn (by omega) (by omega)) ?_
        refine wf_istore [(4, .int (nI (ldf (g 8 h) (1 <<< w)))), (0, .ref (a 0)), (1, .int (nI w)), (2, .int (nI h)), (3, .int (nI z))] dX2_setWatched_31 (by decide) rfl ?_
        refine wf_aload_n 1 dX2_setWatched_33 rfl ?_
        refine wf_getf (C := RX2) (T := TX2) (N := 14) (v := .ref (a 9)) 0 11 in_X2 rfl rfl (by decide) fl_X2_36 rfl dX2_setWatched_34 ?_
        refine wf_iload_n 3 dX2_setWatched_37 rfl ?_
        refine wf_iload_n 4 dX2_setWatched_38 rfl ?_
        refine wf_if_eq_n 51 dX2_setWatched_39 (by decide) (by omega) (fun c39 => ?_) (fun c39 => ?_)
        · refine wf_iload 0 dX2_setWatched_51 rfl ?_
          refine wf_iast_n (wg E (kk 6) a (gs g 8 h (ldf (g 8 h) (1 <<< w))) ++ (wk E kk ++ r)) 9 rfl (by omega) (by decide) (sf 9 (Nat.le_of_ble_eq_true rfl) (wg_set8 h (ldf (g 8 h) (1 <<< w)))) dX2_setWatched_53 ?_
          exact wf_vret rfl ⟨rfl, rfl⟩ ⟨rfl, (by unfold eWset; rw [if_pos c39])⟩ dX2_setWatched_54
        · refine wf_iload 0 dX2_setWatched_42 rfl ?_
          refine wf_iconst (nI 1) dX2_setWatched_44 (by decide) ?_
          refine wf_iload_n 2 dX2_setWatched_45 rfl ?_
          refine wf_ishl (nI (1 <<< w)) dX2_setWatched_46 (nI_shl (by omega) (by omega)) ?_
          refine wf_ior (nI ((ldf (g 8 h) (1 <<< w)) ||| (1 <<< w))) dX2_setWatched_47 (nI_lor (by omega) (by omega)) ?_
          refine wf_goto 53 dX2_setWatched_48 (by decide) ?_
          refine wf_iast_n (wg E (kk 6) a (gs g 8 h ((ldf (g 8 h) (1 <<< w)) ||| (1 <<< w))) ++ (wk E kk ++ r)) 9 rfl (by omega) (by decide) (sf 9 (Nat.le_of_ble_eq_true rfl) (wg_set8 h ((ldf (g 8 h) (1 <<< w)) ||| (1 <<< w)))) dX2_setWatched_53 ?_
          exact wf_vret rfl ⟨rfl, rfl⟩ ⟨rfl, (by unfold eWset; rw [if_neg c39])⟩ dX2_setWatched_54
      · exact absurd c15 (by omega)
abbrev rmX2_becomeAs : Room := { frames := 1, cells := 0, slots := 0, locals := 40 }
set_option maxHeartbeats 4000000 in
set_option maxRecDepth 100000 in
theorem c_X2_becomeAs {l : Launch} {E : Ev} {b : Nat → Nat} {g2 : Gd} {g : Gd} {a kk : Nat → Nat} {r : va_W} {ax al : Nat → Nat} {an am ai : Nat} {y : Gd}  : CT l E yX2_becomeAs cX2_becomeAs 2 none rmX2_becomeAs [.ref (a 0), .ref (b 0)] (wg E (kk 6) a g ++ (wk E kk ++ (wl E al y ++ (wx E ax an am ai (al 0) y ++ (wg E (kk 6) b g2 ++ r))))) (IS (none) (wg E (kk 6) a g2 ++ (wk E kk ++ (wl E al y ++ (wx E ax an am ai (al 0) y ++ (wg E (kk 6) b g2 ++ r)))))) := by
  refine CT.of (lv := [(0, .ref (a 0)), (1, .ref (b 0))]) false (by decide +kernel) (by decide) (Nat.le_of_ble_eq_true rfl) rfl ?_
  refine wf_aload_n 1 dX2_becomeAs_0 rfl ?_
  refine wf_getf (C := RX2) (T := TX2) (N := 14) (v := .ref (b 1)) 22 1 in_X2 rfl rfl (by decide) fl_X2_9 rfl dX2_becomeAs_1 ?_
  refine wf_iconst (nI 0) dX2_becomeAs_4 (by decide) ?_
  refine wf_aload_n 0 dX2_becomeAs_5 rfl ?_
  refine wf_getf (C := RX2) (T := TX2) (N := 14) (v := .ref (a 1)) 0 1 in_X2 rfl rfl (by decide) fl_X2_9 rfl dX2_becomeAs_6 ?_
  refine wf_iconst (nI 0) dX2_becomeAs_9 (by decide) ?_
  refine wf_bipush (nI 10) dX2_becomeAs_10 (by decide) ?_
  refine wf_copyg 23 1 10 (wg E (kk 6) a (gcp g g2 0) ++ (wk E kk ++ (wl E al y ++ (wx E ax an am ai (al 0) y ++ (wg E (kk 6) b g2 ++ r))))) kac_X2_43 rfl rfl (by decide) (by decide) (by decide) (sf 1 (Nat.le_of_ble_eq_true rfl) (rfl)) dX2_becomeAs_12 ?_
  refine wf_aload_n 1 dX2_becomeAs_15 rfl ?_
  refine wf_getf (C := RX2) (T := TX2) (N := 14) (v := .ref (b 2)) 22 2 in_X2 rfl rfl (by decide) fl_X2_15 rfl dX2_becomeAs_16 ?_
  refine wf_iconst (nI 0) dX2_becomeAs_19 (by decide) ?_
  refine wf_aload_n 0 dX2_becomeAs_20 rfl ?_
  refine wf_getf (C := RX2) (T := TX2) (N := 14) (v := .ref (a 2)) 0 2 in_X2 rfl rfl (by decide) fl_X2_15 rfl dX2_becomeAs_21 ?_
  refine wf_iconst (nI 0) dX2_becomeAs_24 (by decide) ?_
  refine wf_bipush (nI 10) dX2_becomeAs_25 (by decide) ?_
  refine wf_copyg 24 2 10 (wg E (kk 6) a (gcp (gcp g g2 0) g2 1) ++ (wk E kk ++ (wl E al y ++ (wx E ax an am ai (al 0) y ++ (wg E (kk 6) b g2 ++ r))))) kac_X2_43 rfl rfl (by decide) (by decide) (by decide) (sf 2 (Nat.le_of_ble_eq_true rfl) (rfl)) dX2_becomeAs_27 ?_
  refine wf_aload_n 1 dX2_becomeAs_30 rfl ?_
  refine wf_getf (C := RX2) (T := TX2) (N := 14) (v := .ref (b 3)) 22 3 in_X2 rfl rfl (by decide) fl_X2_18 rfl dX2_becomeAs_31 ?_
  refine wf_iconst (nI 0) dX2_becomeAs_34 (by decide) ?_
  refine wf_aload_n 0 dX2_becomeAs_35 rfl ?_
  refine wf_getf (C := RX2) (T := TX2) (N := 14) (v := .ref (a 3)) 0 3 in_X2 rfl rfl (by decide) fl_X2_18 rfl dX2_becomeAs_36 ?_
  refine wf_iconst (nI 0) dX2_becomeAs_39 (by decide) ?_
  refine wf_bipush (nI 10) dX2_becomeAs_40 (by decide) ?_
  refine wf_copyg 25 3 10 (wg E (kk 6) a (gcp (gcp (gcp g g2 0) g2 1) g2 2) ++ (wk E kk ++ (wl E al y ++ (wx E ax an am ai (al 0) y ++ (wg E (kk 6) b g2 ++ r))))) kac_X2_43 rfl rfl (by decide) (by decide) (by decide) (sf 3 (Nat.le_of_ble_eq_true rfl) (rfl)) dX2_becomeAs_42 ?_
  refine wf_aload_n 0 dX2_becomeAs_45 rfl ?_
  refine wf_aload_n 1 dX2_becomeAs_46 rfl ?_
  refine wf_getf (C := RX2) (T := TX2) (N := 14) (v := .int (nI (g2 9 0))) 22 4 in_X2 rfl rfl (by decide) fl_X2_49 rfl dX2_becomeAs_47 ?_
  refine wf_putf (C := RX2) (T := TX2) (N := 14) (ty := .int) 0 4 (wg E (kk 6) a (gs (gcp (gcp (gcp g g2 0) g2 1) g2 2) 9 0 (g2 9 0)) ++ (wk E kk ++ (wl E al y ++ (wx E ax an am ai (al 0) y ++ (wg E (kk 6) b g2 ++ r))))) tyX2 in_X2 tyX2_ok nmX2 rfl rfl (by decide) fl_X2_49 rfl (by decide +kernel) (by rfl) rfl (Nat.le_of_ble_eq_true rfl) (sf 0 (Nat.le_of_ble_eq_true rfl) (wg_put0 (g2 9 0))) dX2_becomeAs_50 ?_
  refine wf_aload_n 1 dX2_becomeAs_53 rfl ?_
  refine wf_getf (C := RX2) (T := TX2) (N := 14) (v := .ref (b 4)) 22 5 in_X2 rfl rfl (by decide) fl_X2_21 rfl dX2_becomeAs_54 ?_
  refine wf_iconst (nI 0) dX2_becomeAs_57 (by decide) ?_
  refine wf_aload_n 0 dX2_becomeAs_58 rfl ?_
  refine wf_getf (C := RX2) (T := TX2) (N := 14) (v := .ref (a 4)) 0 5 in_X2 rfl rfl (by decide) fl_X2_21 rfl dX2_becomeAs_59 ?_
  refine wf_iconst (nI 0) dX2_becomeAs_62 (by decide) ?_
  refine wf_iconst (nI 4) dX2_becomeAs_63 (by decide) ?_
  refine wf_copyg 26 4 4 (wg E (kk 6) a (gcp (gs (gcp (gcp (gcp g g2 0) g2 1) g2 2) 9 0 (g2 9 0)) g2 3) ++ (wk E kk ++ (wl E al y ++ (wx E ax an am ai (al 0) y ++ (wg E (kk 6) b g2 ++ r))))) kac_X2_43 rfl rfl (by decide) (by decide) (by decide) (sf 4 (Nat.le_of_ble_eq_true rfl) (rfl)) dX2_becomeAs_64 ?_
  refine wf_aload_n 1 dX2_becomeAs_67 rfl ?_
  refine wf_getf (C := RX2) (T := TX2) (N := 14) (v := .ref (b 5)) 22 6 in_X2 rfl rfl (by decide) fl_X2_24 rfl dX2_becomeAs_68 ?_
  refine wf_iconst (nI 0) dX2_becomeAs_71 (by decide) ?_
  refine wf_aload_n 0 dX2_becomeAs_72 rfl ?_
  refine wf_getf (C := RX2) (T := TX2) (N := 14) (v := .ref (a 5)) 0 6 in_X2 rfl rfl (by decide) fl_X2_24 rfl dX2_becomeAs_73 ?_
  refine wf_iconst (nI 0) dX2_becomeAs_76 (by decide) ?_
  refine wf_iconst (nI 4) dX2_becomeAs_77 (by decide) ?_
  refine wf_copyg 27 5 4 (wg E (kk 6) a (gcp (gcp (gs (gcp (gcp (gcp g g2 0) g2 1) g2 2) 9 0 (g2 9 0)) g2 3) g2 4) ++ (wk E kk ++ (wl E al y ++ (wx E ax an am ai (al 0) y ++ (wg E (kk 6) b g2 ++ r))))) kac_X2_43 rfl rfl (by decide) (by decide) (by decide) (sf 5 (Nat.le_of_ble_eq_true rfl) (rfl)) dX2_becomeAs_78 ?_
  refine wf_aload_n 1 dX2_becomeAs_81 rfl ?_
  refine wf_getf (C := RX2) (T := TX2) (N := 14) (v := .ref (b 6)) 22 7 in_X2 rfl rfl (by decide) fl_X2_27 rfl dX2_becomeAs_82 ?_
  refine wf_iconst (nI 0) dX2_becomeAs_85 (by decide) ?_
  refine wf_aload_n 0 dX2_becomeAs_86 rfl ?_
  refine wf_getf (C := RX2) (T := TX2) (N := 14) (v := .ref (a 6)) 0 7 in_X2 rfl rfl (by decide) fl_X2_27 rfl dX2_becomeAs_87 ?_
  refine wf_iconst (nI 0) dX2_becomeAs_90 (by decide) ?_
  refine wf_iconst (nI 4) dX2_becomeAs_91 (by decide) ?_
  refine wf_copyg 28 6 4 (wg E (kk 6) a (gcp (gcp (gcp (gs (gcp (gcp (gcp g g2 0) g2 1) g2 2) 9 0 (g2 9 0)) g2 3) g2 4) g2 5) ++ (wk E kk ++ (wl E al y ++ (wx E ax an am ai (al 0) y ++ (wg E (kk 6) b g2 ++ r))))) kac_X2_43 rfl rfl (by decide) (by decide) (by decide) (sf 6 (Nat.le_of_ble_eq_true rfl) (rfl)) dX2_becomeAs_92 ?_
  refine wf_aload_n 1 dX2_becomeAs_95 rfl ?_
  refine wf_getf (C := RX2) (T := TX2) (N := 14) (v := .ref (b 7)) 22 8 in_X2 rfl rfl (by decide) fl_X2_30 rfl dX2_becomeAs_96 ?_
  refine wf_iconst (nI 0) dX2_becomeAs_99 (by decide) ?_
  refine wf_aload_n 0 dX2_becomeAs_100 rfl ?_
  refine wf_getf (C := RX2) (T := TX2) (N := 14) (v := .ref (a 7)) 0 8 in_X2 rfl rfl (by decide) fl_X2_30 rfl dX2_becomeAs_101 ?_
  refine wf_iconst (nI 0) dX2_becomeAs_104 (by decide) ?_
  refine wf_iconst (nI 4) dX2_becomeAs_105 (by decide) ?_
  refine wf_copyg 29 7 4 (wg E (kk 6) a (gcp (gcp (gcp (gcp (gs (gcp (gcp (gcp g g2 0) g2 1) g2 2) 9 0 (g2 9 0)) g2 3) g2 4) g2 5) g2 6) ++ (wk E kk ++ (wl E al y ++ (wx E ax an am ai (al 0) y ++ (wg E (kk 6) b g2 ++ r))))) kac_X2_43 rfl rfl (by decide) (by decide) (by decide) (sf 7 (Nat.le_of_ble_eq_true rfl) (rfl)) dX2_becomeAs_106 ?_
  refine wf_aload_n 0 dX2_becomeAs_109 rfl ?_
  refine wf_aload_n 1 dX2_becomeAs_110 rfl ?_
  refine wf_getf (C := RX2) (T := TX2) (N := 14) (v := .int (nI (g2 9 1))) 22 9 in_X2 rfl rfl (by decide) fl_X2_53 rfl dX2_becomeAs_111 ?_
  refine wf_putf (C := RX2) (T := TX2) (N := 14) (ty := .int) 0 9 (wg E (kk 6) a (gs (gcp (gcp (gcp (gcp (gs (gcp (gcp (gcp g g2 0) g2 1) g2 2) 9 0 (g2 9 0)) g2 3) g2 4) g2 5) g2 6) 9 1 (g2 9 1)) ++ (wk E kk ++ (wl E al y ++ (wx E ax an am ai (al 0) y ++ (wg E (kk 6) b g2 ++ r))))) tyX2 in_X2 tyX2_ok nmX2 rfl rfl (by decide) fl_X2_53 rfl (by decide +kernel) (by rfl) rfl (Nat.le_of_ble_eq_true rfl) (sf 0 (Nat.le_of_ble_eq_true rfl) (wg_put1 (g2 9 1))) dX2_becomeAs_114 ?_
  refine wf_aload_n 1 dX2_becomeAs_117 rfl ?_
  refine wf_getf (C := RX2) (T := TX2) (N := 14) (v := .ref (b 8)) 22 10 in_X2 rfl rfl (by decide) fl_X2_33 rfl dX2_becomeAs_118 ?_
  refine wf_iconst (nI 0) dX2_becomeAs_121 (by decide) ?_
  refine wf_aload_n 0 dX2_becomeAs_122 rfl ?_
  refine wf_getf (C := RX2) (T := TX2) (N := 14) (v := .ref (a 8)) 0 10 in_X2 rfl rfl (by decide) fl_X2_33 rfl dX2_becomeAs_123 ?_
  refine wf_iconst (nI 0) dX2_becomeAs_126 (by decide) ?_
  refine wf_iconst (nI 3) dX2_becomeAs_127 (by decide) ?_
  refine wf_copyg 30 8 3 (wg E (kk 6) a (gcp (gs (gcp (gcp (gcp (gcp (gs (gcp (gcp (gcp g g2 0) g2 1) g2 2) 9 0 (g2 9 0)) g2 3) g2 4) g2 5) g2 6) 9 1 (g2 9 1)) g2 7) ++ (wk E kk ++ (wl E al y ++ (wx E ax an am ai (al 0) y ++ (wg E (kk 6) b g2 ++ r))))) kac_X2_43 rfl rfl (by decide) (by decide) (by decide) (sf 8 (Nat.le_of_ble_eq_true rfl) (rfl)) dX2_becomeAs_128 ?_
  refine wf_aload_n 1 dX2_becomeAs_131 rfl ?_
  refine wf_getf (C := RX2) (T := TX2) (N := 14) (v := .ref (b 9)) 22 11 in_X2 rfl rfl (by decide) fl_X2_36 rfl dX2_becomeAs_132 ?_
  refine wf_iconst (nI 0) dX2_becomeAs_135 (by decide) ?_
  refine wf_aload_n 0 dX2_becomeAs_136 rfl ?_
  refine wf_getf (C := RX2) (T := TX2) (N := 14) (v := .ref (a 9)) 0 11 in_X2 rfl rfl (by decide) fl_X2_36 rfl dX2_becomeAs_137 ?_
  refine wf_iconst (nI 0) dX2_becomeAs_140 (by decide) ?_
  refine wf_bipush (nI 8) dX2_becomeAs_141 (by decide) ?_
  refine wf_copyg 31 9 8 (wg E (kk 6) a (gcp (gcp (gs (gcp (gcp (gcp (gcp (gs (gcp (gcp (gcp g g2 0) g2 1) g2 2) 9 0 (g2 9 0)) g2 3) g2 4) g2 5) g2 6) 9 1 (g2 9 1)) g2 7) g2 8) ++ (wk E kk ++ (wl E al y ++ (wx E ax an am ai (al 0) y ++ (wg E (kk 6) b g2 ++ r))))) kac_X2_43 rfl rfl (by decide) (by decide) (by decide) (sf 9 (Nat.le_of_ble_eq_true rfl) (rfl)) dX2_becomeAs_143 ?_
  refine wf_aload_n 0 dX2_becomeAs_146 rfl ?_
  refine wf_aload_n 1 dX2_becomeAs_147 rfl ?_
  refine wf_getf (C := RX2) (T := TX2) (N := 14) (v := .int (nI (g2 9 2))) 22 12 in_X2 rfl rfl (by decide) fl_X2_56 rfl dX2_becomeAs_148 ?_
  refine wf_putf (C := RX2) (T := TX2) (N := 14) (ty := .int) 0 12 (wg E (kk 6) a (gs (gcp (gcp (gs (gcp (gcp (gcp (gcp (gs (gcp (gcp (gcp g g2 0) g2 1) g2 2) 9 0 (g2 9 0)) g2 3) g2 4) g2 5) g2 6) 9 1 (g2 9 1)) g2 7) g2 8) 9 2 (g2 9 2)) ++ (wk E kk ++ (wl E al y ++ (wx E ax an am ai (al 0) y ++ (wg E (kk 6) b g2 ++ r))))) tyX2 in_X2 tyX2_ok nmX2 rfl rfl (by decide) fl_X2_56 rfl (by decide +kernel) (by rfl) rfl (Nat.le_of_ble_eq_true rfl) (sf 0 (Nat.le_of_ble_eq_true rfl) (wg_put2 (g2 9 2))) dX2_becomeAs_151 ?_
  refine wf_aload_n 0 dX2_becomeAs_154 rfl ?_
  refine wf_aload_n 1 dX2_becomeAs_155 rfl ?_
  refine wf_getf (C := RX2) (T := TX2) (N := 14) (v := .int (nI (g2 9 3))) 22 13 in_X2 rfl rfl (by decide) fl_X2_59 rfl dX2_becomeAs_156 ?_
  refine wf_putf (C := RX2) (T := TX2) (N := 14) (ty := .int) 0 13 (wg E (kk 6) a (gs (gs (gcp (gcp (gs (gcp (gcp (gcp (gcp (gs (gcp (gcp (gcp g g2 0) g2 1) g2 2) 9 0 (g2 9 0)) g2 3) g2 4) g2 5) g2 6) 9 1 (g2 9 1)) g2 7) g2 8) 9 2 (g2 9 2)) 9 3 (g2 9 3)) ++ (wk E kk ++ (wl E al y ++ (wx E ax an am ai (al 0) y ++ (wg E (kk 6) b g2 ++ r))))) tyX2 in_X2 tyX2_ok nmX2 rfl rfl (by decide) fl_X2_59 rfl (by decide +kernel) (by rfl) rfl (Nat.le_of_ble_eq_true rfl) (sf 0 (Nat.le_of_ble_eq_true rfl) (wg_put3 (g2 9 3))) dX2_becomeAs_159 ?_
  exact wf_vret rfl ⟨rfl, rfl⟩ ⟨rfl, rfl⟩ dX2_becomeAs_162
end
