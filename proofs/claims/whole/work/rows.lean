section
-- ===== PART A: goes FIRST, ahead of the names: the tables' words, and 'selects' of the private methods out of them =====
/-- a private method of a class that the tables say can be made, by its rows of tables_1 -/
def lw_okq (q : MethodName × Nat) : Prop := (q.1.cls ≠ "java/lang/invoke/MethodHandle" ∧ q.1.cls ≠ "java/lang/invoke/VarHandle") ∧ Cond.instantiable q.1.cls q.2 ∈ tables_1 ∧ Cond.privateMethod q.1 ∈ tables_1 ∧ Cond.instanceMethod q.1 ∈ tables_1
theorem lw_p0 : lw_okq (⟨"EatenByDusk", "refuse", "(I)I"⟩, 8) := ⟨⟨by decide +kernel, by decide +kernel⟩, List.mem_of_getElem? (i := 20) (by decide +kernel), List.mem_of_getElem? (i := 179) (by decide +kernel), List.mem_of_getElem? (i := 180) (by decide +kernel)⟩
theorem lw_p1 : lw_okq (⟨"EatenByDusk$Letters", "misspeltPlace", "()I"⟩, 2) := ⟨⟨by decide +kernel, by decide +kernel⟩, List.mem_of_getElem? (i := 135) (by decide +kernel), List.mem_of_getElem? (i := 200) (by decide +kernel), List.mem_of_getElem? (i := 201) (by decide +kernel)⟩
theorem lw_p2 : lw_okq (⟨"EatenByDusk$Letters", "letterAt", "(I)C"⟩, 2) := ⟨⟨by decide +kernel, by decide +kernel⟩, List.mem_of_getElem? (i := 135) (by decide +kernel), List.mem_of_getElem? (i := 204) (by decide +kernel), List.mem_of_getElem? (i := 205) (by decide +kernel)⟩
theorem lw_p3 : lw_okq (⟨"EatenByDusk$Letters", "unfitPlace", "(II)I"⟩, 2) := ⟨⟨by decide +kernel, by decide +kernel⟩, List.mem_of_getElem? (i := 135) (by decide +kernel), List.mem_of_getElem? (i := 330) (by decide +kernel), List.mem_of_getElem? (i := 331) (by decide +kernel)⟩
theorem lw_p4 : lw_okq (⟨"EatenByDusk$Letters", "beginsStatement", "(I)Z"⟩, 2) := ⟨⟨by decide +kernel, by decide +kernel⟩, List.mem_of_getElem? (i := 135) (by decide +kernel), List.mem_of_getElem? (i := 334) (by decide +kernel), List.mem_of_getElem? (i := 335) (by decide +kernel)⟩
theorem lw_p5 : lw_okq (⟨"EatenByDusk$Letters", "isFit", "(III)Z"⟩, 2) := ⟨⟨by decide +kernel, by decide +kernel⟩, List.mem_of_getElem? (i := 135) (by decide +kernel), List.mem_of_getElem? (i := 338) (by decide +kernel), List.mem_of_getElem? (i := 339) (by decide +kernel)⟩
theorem lw_p6 : lw_okq (⟨"EatenByDusk$Letters", "digitAt", "(I)I"⟩, 2) := ⟨⟨by decide +kernel, by decide +kernel⟩, List.mem_of_getElem? (i := 135) (by decide +kernel), List.mem_of_getElem? (i := 342) (by decide +kernel), List.mem_of_getElem? (i := 343) (by decide +kernel)⟩
theorem lw_p7 : lw_okq (⟨"EatenByDusk$Letters", "tellStatement", "(ILEatenByDusk$Garden;)V"⟩, 2) := ⟨⟨by decide +kernel, by decide +kernel⟩, List.mem_of_getElem? (i := 135) (by decide +kernel), List.mem_of_getElem? (i := 356) (by decide +kernel), List.mem_of_getElem? (i := 357) (by decide +kernel)⟩
theorem lw_p8 : lw_okq (⟨"EatenByDusk", "mindAsNow", "()LEatenByDusk$Garden;"⟩, 8) := ⟨⟨by decide +kernel, by decide +kernel⟩, List.mem_of_getElem? (i := 20) (by decide +kernel), List.mem_of_getElem? (i := 526) (by decide +kernel), List.mem_of_getElem? (i := 527) (by decide +kernel)⟩
theorem lw_p9 : lw_okq (⟨"EatenByDusk", "isKeptByWatching", "(II)Z"⟩, 8) := ⟨⟨by decide +kernel, by decide +kernel⟩, List.mem_of_getElem? (i := 20) (by decide +kernel), List.mem_of_getElem? (i := 582) (by decide +kernel), List.mem_of_getElem? (i := 583) (by decide +kernel)⟩
theorem lw_p10 : lw_okq (⟨"EatenByDusk", "countLeftByBitters", "(I)I"⟩, 8) := ⟨⟨by decide +kernel, by decide +kernel⟩, List.mem_of_getElem? (i := 20) (by decide +kernel), List.mem_of_getElem? (i := 623) (by decide +kernel), List.mem_of_getElem? (i := 624) (by decide +kernel)⟩
theorem lw_p11 : lw_okq (⟨"EatenByDuskModel", "no", "(I)I"⟩, 27) := ⟨⟨by decide +kernel, by decide +kernel⟩, List.mem_of_getElem? (i := 668) (by decide +kernel), List.mem_of_getElem? (i := 763) (by decide +kernel), List.mem_of_getElem? (i := 764) (by decide +kernel)⟩
theorem lw_p12 : lw_okq (⟨"EatenByDuskModel", "statement", "()Z"⟩, 27) := ⟨⟨by decide +kernel, by decide +kernel⟩, List.mem_of_getElem? (i := 668) (by decide +kernel), List.mem_of_getElem? (i := 771) (by decide +kernel), List.mem_of_getElem? (i := 772) (by decide +kernel)⟩
theorem lw_p13 : lw_okq (⟨"EatenByDuskModel", "next", "()I"⟩, 27) := ⟨⟨by decide +kernel, by decide +kernel⟩, List.mem_of_getElem? (i := 668) (by decide +kernel), List.mem_of_getElem? (i := 775) (by decide +kernel), List.mem_of_getElem? (i := 776) (by decide +kernel)⟩
theorem lw_p14 : lw_okq (⟨"EatenByDuskModel", "readsKind", "(I)Z"⟩, 27) := ⟨⟨by decide +kernel, by decide +kernel⟩, List.mem_of_getElem? (i := 668) (by decide +kernel), List.mem_of_getElem? (i := 779) (by decide +kernel), List.mem_of_getElem? (i := 780) (by decide +kernel)⟩
theorem lw_p15 : lw_okq (⟨"EatenByDuskModel", "readsOnes", "(II)Z"⟩, 27) := ⟨⟨by decide +kernel, by decide +kernel⟩, List.mem_of_getElem? (i := 668) (by decide +kernel), List.mem_of_getElem? (i := 786) (by decide +kernel), List.mem_of_getElem? (i := 787) (by decide +kernel)⟩
def lw_privs_1 : List (MethodName × Nat) := [(⟨"EatenByDusk", "refuse", "(I)I"⟩, 8), (⟨"EatenByDusk$Letters", "misspeltPlace", "()I"⟩, 2), (⟨"EatenByDusk$Letters", "letterAt", "(I)C"⟩, 2), (⟨"EatenByDusk$Letters", "unfitPlace", "(II)I"⟩, 2), (⟨"EatenByDusk$Letters", "beginsStatement", "(I)Z"⟩, 2), (⟨"EatenByDusk$Letters", "isFit", "(III)Z"⟩, 2), (⟨"EatenByDusk$Letters", "digitAt", "(I)I"⟩, 2), (⟨"EatenByDusk$Letters", "tellStatement", "(ILEatenByDusk$Garden;)V"⟩, 2), (⟨"EatenByDusk", "mindAsNow", "()LEatenByDusk$Garden;"⟩, 8), (⟨"EatenByDusk", "isKeptByWatching", "(II)Z"⟩, 8), (⟨"EatenByDusk", "countLeftByBitters", "(I)I"⟩, 8), (⟨"EatenByDuskModel", "no", "(I)I"⟩, 27), (⟨"EatenByDuskModel", "statement", "()Z"⟩, 27), (⟨"EatenByDuskModel", "next", "()I"⟩, 27), (⟨"EatenByDuskModel", "readsKind", "(I)Z"⟩, 27), (⟨"EatenByDuskModel", "readsOnes", "(II)Z"⟩, 27)]
theorem lw_r1 : ∀ q ∈ lw_privs_1, lw_okq q := List.forall_mem_cons.mpr ⟨lw_p0, List.forall_mem_cons.mpr ⟨lw_p1, List.forall_mem_cons.mpr ⟨lw_p2, List.forall_mem_cons.mpr ⟨lw_p3, List.forall_mem_cons.mpr ⟨lw_p4, List.forall_mem_cons.mpr ⟨lw_p5, List.forall_mem_cons.mpr ⟨lw_p6, List.forall_mem_cons.mpr ⟨lw_p7, List.forall_mem_cons.mpr ⟨lw_p8, List.forall_mem_cons.mpr ⟨lw_p9, List.forall_mem_cons.mpr ⟨lw_p10, List.forall_mem_cons.mpr ⟨lw_p11, List.forall_mem_cons.mpr ⟨lw_p12, List.forall_mem_cons.mpr ⟨lw_p13, List.forall_mem_cons.mpr ⟨lw_p14, List.forall_mem_cons.mpr ⟨lw_p15, fun _ h => absurd h List.not_mem_nil⟩⟩⟩⟩⟩⟩⟩⟩⟩⟩⟩⟩⟩⟩⟩⟩
theorem lw_p16 : lw_okq (⟨"EatenByDuskModel", "passesAll", "(IZ)V"⟩, 27) := ⟨⟨by decide +kernel, by decide +kernel⟩, List.mem_of_getElem? (i := 668) (by decide +kernel), List.mem_of_getElem? (i := 793) (by decide +kernel), List.mem_of_getElem? (i := 794) (by decide +kernel)⟩
theorem lw_p17 : lw_okq (⟨"EatenByDuskModel", "passes", "([I)V"⟩, 27) := ⟨⟨by decide +kernel, by decide +kernel⟩, List.mem_of_getElem? (i := 668) (by decide +kernel), List.mem_of_getElem? (i := 797) (by decide +kernel), List.mem_of_getElem? (i := 798) (by decide +kernel)⟩
theorem lw_p18 : lw_okq (⟨"EatenByDuskModel", "passOne", "(I)I"⟩, 27) := ⟨⟨by decide +kernel, by decide +kernel⟩, List.mem_of_getElem? (i := 668) (by decide +kernel), List.mem_of_getElem? (i := 801) (by decide +kernel), List.mem_of_getElem? (i := 802) (by decide +kernel)⟩
theorem lw_p19 : lw_okq (⟨"EatenByDuskModel", "comes", "(I)Z"⟩, 27) := ⟨⟨by decide +kernel, by decide +kernel⟩, List.mem_of_getElem? (i := 668) (by decide +kernel), List.mem_of_getElem? (i := 805) (by decide +kernel), List.mem_of_getElem? (i := 806) (by decide +kernel)⟩
theorem lw_p20 : lw_okq (⟨"EatenByDuskModel", "comesWord", "(I)Z"⟩, 27) := ⟨⟨by decide +kernel, by decide +kernel⟩, List.mem_of_getElem? (i := 668) (by decide +kernel), List.mem_of_getElem? (i := 809) (by decide +kernel), List.mem_of_getElem? (i := 810) (by decide +kernel)⟩
theorem lw_p21 : lw_okq (⟨"EatenByDuskModel", "comesBird", "(I)Z"⟩, 27) := ⟨⟨by decide +kernel, by decide +kernel⟩, List.mem_of_getElem? (i := 668) (by decide +kernel), List.mem_of_getElem? (i := 813) (by decide +kernel), List.mem_of_getElem? (i := 814) (by decide +kernel)⟩
theorem lw_p22 : lw_okq (⟨"EatenByDuskModel", "comesWatch", "(I)Z"⟩, 27) := ⟨⟨by decide +kernel, by decide +kernel⟩, List.mem_of_getElem? (i := 668) (by decide +kernel), List.mem_of_getElem? (i := 817) (by decide +kernel), List.mem_of_getElem? (i := 818) (by decide +kernel)⟩
theorem lw_p23 : lw_okq (⟨"EatenByDuskModel", "isWord", "(I)Z"⟩, 27) := ⟨⟨by decide +kernel, by decide +kernel⟩, List.mem_of_getElem? (i := 668) (by decide +kernel), List.mem_of_getElem? (i := 821) (by decide +kernel), List.mem_of_getElem? (i := 822) (by decide +kernel)⟩
theorem lw_p24 : lw_okq (⟨"EatenByDuskModel", "strengthOf", "(I)I"⟩, 27) := ⟨⟨by decide +kernel, by decide +kernel⟩, List.mem_of_getElem? (i := 668) (by decide +kernel), List.mem_of_getElem? (i := 837) (by decide +kernel), List.mem_of_getElem? (i := 838) (by decide +kernel)⟩
theorem lw_p25 : lw_okq (⟨"EatenByDuskModel", "isBird", "(I)Z"⟩, 27) := ⟨⟨by decide +kernel, by decide +kernel⟩, List.mem_of_getElem? (i := 668) (by decide +kernel), List.mem_of_getElem? (i := 845) (by decide +kernel), List.mem_of_getElem? (i := 846) (by decide +kernel)⟩
theorem lw_p26 : lw_okq (⟨"EatenByDuskModel", "eatsBy", "(I)I"⟩, 27) := ⟨⟨by decide +kernel, by decide +kernel⟩, List.mem_of_getElem? (i := 668) (by decide +kernel), List.mem_of_getElem? (i := 849) (by decide +kernel), List.mem_of_getElem? (i := 850) (by decide +kernel)⟩
theorem lw_p27 : lw_okq (⟨"EatenByDuskModel", "mayEat", "(II)Z"⟩, 27) := ⟨⟨by decide +kernel, by decide +kernel⟩, List.mem_of_getElem? (i := 668) (by decide +kernel), List.mem_of_getElem? (i := 853) (by decide +kernel), List.mem_of_getElem? (i := 854) (by decide +kernel)⟩
theorem lw_p28 : lw_okq (⟨"EatenByDuskModel", "isGone", "(I)Z"⟩, 27) := ⟨⟨by decide +kernel, by decide +kernel⟩, List.mem_of_getElem? (i := 668) (by decide +kernel), List.mem_of_getElem? (i := 857) (by decide +kernel), List.mem_of_getElem? (i := 858) (by decide +kernel)⟩
theorem lw_p29 : lw_okq (⟨"EatenByDuskModel", "isRather", "(III)Z"⟩, 27) := ⟨⟨by decide +kernel, by decide +kernel⟩, List.mem_of_getElem? (i := 668) (by decide +kernel), List.mem_of_getElem? (i := 861) (by decide +kernel), List.mem_of_getElem? (i := 862) (by decide +kernel)⟩
theorem lw_p30 : lw_okq (⟨"EatenByDuskModel", "goesHour", "()I"⟩, 27) := ⟨⟨by decide +kernel, by decide +kernel⟩, List.mem_of_getElem? (i := 668) (by decide +kernel), List.mem_of_getElem? (i := 884) (by decide +kernel), List.mem_of_getElem? (i := 885) (by decide +kernel)⟩
theorem lw_p31 : lw_okq (⟨"EatenByDuskModel", "eats", "(I)I"⟩, 27) := ⟨⟨by decide +kernel, by decide +kernel⟩, List.mem_of_getElem? (i := 668) (by decide +kernel), List.mem_of_getElem? (i := 888) (by decide +kernel), List.mem_of_getElem? (i := 889) (by decide +kernel)⟩
def lw_privs_2 : List (MethodName × Nat) := [(⟨"EatenByDuskModel", "passesAll", "(IZ)V"⟩, 27), (⟨"EatenByDuskModel", "passes", "([I)V"⟩, 27), (⟨"EatenByDuskModel", "passOne", "(I)I"⟩, 27), (⟨"EatenByDuskModel", "comes", "(I)Z"⟩, 27), (⟨"EatenByDuskModel", "comesWord", "(I)Z"⟩, 27), (⟨"EatenByDuskModel", "comesBird", "(I)Z"⟩, 27), (⟨"EatenByDuskModel", "comesWatch", "(I)Z"⟩, 27), (⟨"EatenByDuskModel", "isWord", "(I)Z"⟩, 27), (⟨"EatenByDuskModel", "strengthOf", "(I)I"⟩, 27), (⟨"EatenByDuskModel", "isBird", "(I)Z"⟩, 27), (⟨"EatenByDuskModel", "eatsBy", "(I)I"⟩, 27), (⟨"EatenByDuskModel", "mayEat", "(II)Z"⟩, 27), (⟨"EatenByDuskModel", "isGone", "(I)Z"⟩, 27), (⟨"EatenByDuskModel", "isRather", "(III)Z"⟩, 27), (⟨"EatenByDuskModel", "goesHour", "()I"⟩, 27), (⟨"EatenByDuskModel", "eats", "(I)I"⟩, 27)]
theorem lw_r2 : ∀ q ∈ lw_privs_2, lw_okq q := List.forall_mem_cons.mpr ⟨lw_p16, List.forall_mem_cons.mpr ⟨lw_p17, List.forall_mem_cons.mpr ⟨lw_p18, List.forall_mem_cons.mpr ⟨lw_p19, List.forall_mem_cons.mpr ⟨lw_p20, List.forall_mem_cons.mpr ⟨lw_p21, List.forall_mem_cons.mpr ⟨lw_p22, List.forall_mem_cons.mpr ⟨lw_p23, List.forall_mem_cons.mpr ⟨lw_p24, List.forall_mem_cons.mpr ⟨lw_p25, List.forall_mem_cons.mpr ⟨lw_p26, List.forall_mem_cons.mpr ⟨lw_p27, List.forall_mem_cons.mpr ⟨lw_p28, List.forall_mem_cons.mpr ⟨lw_p29, List.forall_mem_cons.mpr ⟨lw_p30, List.forall_mem_cons.mpr ⟨lw_p31, fun _ h => absurd h List.not_mem_nil⟩⟩⟩⟩⟩⟩⟩⟩⟩⟩⟩⟩⟩⟩⟩⟩
theorem lw_p32 : lw_okq (⟨"EatenByDuskModel", "leftNow", "()I"⟩, 27) := ⟨⟨by decide +kernel, by decide +kernel⟩, List.mem_of_getElem? (i := 668) (by decide +kernel), List.mem_of_getElem? (i := 900) (by decide +kernel), List.mem_of_getElem? (i := 901) (by decide +kernel)⟩
theorem lw_p33 : lw_okq (⟨"EatenByDuskModel", "goesIn", "(I)I"⟩, 27) := ⟨⟨by decide +kernel, by decide +kernel⟩, List.mem_of_getElem? (i := 668) (by decide +kernel), List.mem_of_getElem? (i := 908) (by decide +kernel), List.mem_of_getElem? (i := 909) (by decide +kernel)⟩
theorem lw_p34 : lw_okq (⟨"EatenByDuskModel", "leftAtDusk", "()I"⟩, 27) := ⟨⟨by decide +kernel, by decide +kernel⟩, List.mem_of_getElem? (i := 668) (by decide +kernel), List.mem_of_getElem? (i := 916) (by decide +kernel), List.mem_of_getElem? (i := 917) (by decide +kernel)⟩
theorem lw_p35 : lw_okq (⟨"EatenByDuskModel", "meaningsOf", "(I)I"⟩, 27) := ⟨⟨by decide +kernel, by decide +kernel⟩, List.mem_of_getElem? (i := 668) (by decide +kernel), List.mem_of_getElem? (i := 920) (by decide +kernel), List.mem_of_getElem? (i := 921) (by decide +kernel)⟩
theorem lw_p36 : lw_okq (⟨"EatenByDuskModel", "areWords", "(I)Z"⟩, 27) := ⟨⟨by decide +kernel, by decide +kernel⟩, List.mem_of_getElem? (i := 668) (by decide +kernel), List.mem_of_getElem? (i := 939) (by decide +kernel), List.mem_of_getElem? (i := 940) (by decide +kernel)⟩
theorem lw_p37 : lw_okq (⟨"EatenByDuskModel", "watchedLeft", "(II)I"⟩, 27) := ⟨⟨by decide +kernel, by decide +kernel⟩, List.mem_of_getElem? (i := 668) (by decide +kernel), List.mem_of_getElem? (i := 943) (by decide +kernel), List.mem_of_getElem? (i := 944) (by decide +kernel)⟩
theorem lw_p38 : lw_okq (⟨"EatenByDuskModel", "lower", "(I)I"⟩, 27) := ⟨⟨by decide +kernel, by decide +kernel⟩, List.mem_of_getElem? (i := 668) (by decide +kernel), List.mem_of_getElem? (i := 955) (by decide +kernel), List.mem_of_getElem? (i := 956) (by decide +kernel)⟩
theorem lw_p39 : lw_okq (⟨"EatenByDuskModel", "otherAt", "()I"⟩, 27) := ⟨⟨by decide +kernel, by decide +kernel⟩, List.mem_of_getElem? (i := 668) (by decide +kernel), List.mem_of_getElem? (i := 964) (by decide +kernel), List.mem_of_getElem? (i := 965) (by decide +kernel)⟩
def lw_privs_3 : List (MethodName × Nat) := [(⟨"EatenByDuskModel", "leftNow", "()I"⟩, 27), (⟨"EatenByDuskModel", "goesIn", "(I)I"⟩, 27), (⟨"EatenByDuskModel", "leftAtDusk", "()I"⟩, 27), (⟨"EatenByDuskModel", "meaningsOf", "(I)I"⟩, 27), (⟨"EatenByDuskModel", "areWords", "(I)Z"⟩, 27), (⟨"EatenByDuskModel", "watchedLeft", "(II)I"⟩, 27), (⟨"EatenByDuskModel", "lower", "(I)I"⟩, 27), (⟨"EatenByDuskModel", "otherAt", "()I"⟩, 27)]
theorem lw_r3 : ∀ q ∈ lw_privs_3, lw_okq q := List.forall_mem_cons.mpr ⟨lw_p32, List.forall_mem_cons.mpr ⟨lw_p33, List.forall_mem_cons.mpr ⟨lw_p34, List.forall_mem_cons.mpr ⟨lw_p35, List.forall_mem_cons.mpr ⟨lw_p36, List.forall_mem_cons.mpr ⟨lw_p37, List.forall_mem_cons.mpr ⟨lw_p38, List.forall_mem_cons.mpr ⟨lw_p39, fun _ h => absurd h List.not_mem_nil⟩⟩⟩⟩⟩⟩⟩⟩
def lw_privs : List (MethodName × Nat) := lw_privs_1 ++ (lw_privs_2 ++ (lw_privs_3))
def lw_tbl : List Cond := k2_sels lw_privs ++ tables_1
theorem lw_privs_ok : ∀ q ∈ lw_privs, lw_okq q := by
  show ∀ q ∈ lw_privs_1 ++ (lw_privs_2 ++ (lw_privs_3)), lw_okq q
  exact List.forall_mem_append.mpr ⟨lw_r1, List.forall_mem_append.mpr ⟨lw_r2, lw_r3⟩⟩
end
section
def RX0 : String := "EatenByDusk$Crow"
def TX0 : u_T := fun k => match k with
  | _ => ("", "", "", false)
def tyX0 : Nat → FieldType := fun k => match k with
  | _ => .int
theorem nmX0 : ∀ a, a < 0 → ∀ b, b < 0 → a ≠ b → (TX0 a).2.1 ≠ (TX0 b).2.1 := by decide +kernel
theorem tyX0_ok : ∀ k, k < 0 → parseFieldDescriptor (TX0 k).2.2.1 = some (tyX0 k) := by decide +kernel
abbrev cX0_init : ByteArray := prog_2_method_1_code
def yX0_init : MethodName := ⟨RX0, "<init>", "()V"⟩
abbrev cX0_prefers : ByteArray := prog_2_method_2_code
def yX0_prefers : MethodName := ⟨RX0, "prefers", "(LEatenByDusk$Garden;II)Z"⟩
def RX1 : String := "EatenByDusk$Finch"
def TX1 : u_T := fun k => match k with
  | _ => ("", "", "", false)
def tyX1 : Nat → FieldType := fun k => match k with
  | _ => .int
theorem nmX1 : ∀ a, a < 0 → ∀ b, b < 0 → a ≠ b → (TX1 a).2.1 ≠ (TX1 b).2.1 := by decide +kernel
theorem tyX1_ok : ∀ k, k < 0 → parseFieldDescriptor (TX1 k).2.2.1 = some (tyX1 k) := by decide +kernel
abbrev cX1_init : ByteArray := prog_3_method_1_code
def yX1_init : MethodName := ⟨RX1, "<init>", "()V"⟩
abbrev cX1_reaches : ByteArray := prog_3_method_2_code
def yX1_reaches : MethodName := ⟨RX1, "reaches", "(LEatenByDusk$Garden;I)Z"⟩
def RX2 : String := "EatenByDusk$Garden"
def TX2 : u_T := fun k => match k with
  | 0 => ("EatenByDusk$Garden", "kinds", "[LEatenByDusk$Sparrow;", true)
  | 1 => ("EatenByDusk$Garden", "sweet", "[I", true)
  | 2 => ("EatenByDusk$Garden", "inkOf", "[I", true)
  | 3 => ("EatenByDusk$Garden", "meaning", "[I", true)
  | 4 => ("EatenByDusk$Garden", "wordCount", "I", false)
  | 5 => ("EatenByDusk$Garden", "kind", "[I", true)
  | 6 => ("EatenByDusk$Garden", "taste", "[I", true)
  | 7 => ("EatenByDusk$Garden", "from", "[I", true)
  | 8 => ("EatenByDusk$Garden", "till", "[I", true)
  | 9 => ("EatenByDusk$Garden", "birdCount", "I", false)
  | 10 => ("EatenByDusk$Garden", "bitterOf", "[I", true)
  | 11 => ("EatenByDusk$Garden", "watched", "[I", true)
  | 12 => ("EatenByDusk$Garden", "gone", "I", false)
  | _ => ("EatenByDusk$Garden", "hour", "I", false)
def tyX2 : Nat → FieldType := fun k => match k with
  | 0 => .array (.object "EatenByDusk$Sparrow")
  | 1 => .array .int
  | 2 => .array .int
  | 3 => .array .int
  | 4 => .int
  | 5 => .array .int
  | 6 => .array .int
  | 7 => .array .int
  | 8 => .array .int
  | 9 => .int
  | 10 => .array .int
  | 11 => .array .int
  | 12 => .int
  | _ => .int
theorem nmX2 : ∀ a, a < 14 → ∀ b, b < 14 → a ≠ b → (TX2 a).2.1 ≠ (TX2 b).2.1 := by decide +kernel
theorem tyX2_ok : ∀ k, k < 14 → parseFieldDescriptor (TX2 k).2.2.1 = some (tyX2 k) := by decide +kernel
abbrev cX2_init : ByteArray := prog_4_method_1_code
def yX2_init : MethodName := ⟨RX2, "<init>", "([LEatenByDusk$Sparrow;)V"⟩
abbrev cX2_becomeAs : ByteArray := prog_4_method_2_code
def yX2_becomeAs : MethodName := ⟨RX2, "becomeAs", "(LEatenByDusk$Garden;)V"⟩
abbrev cX2_hasWord : ByteArray := prog_4_method_3_code
def yX2_hasWord : MethodName := ⟨RX2, "hasWord", "(I)Z"⟩
abbrev cX2_hasWords : ByteArray := prog_4_method_4_code
def yX2_hasWords : MethodName := ⟨RX2, "hasWords", "(I)Z"⟩
abbrev cX2_hasBird : ByteArray := prog_4_method_5_code
def yX2_hasBird : MethodName := ⟨RX2, "hasBird", "(I)Z"⟩
abbrev cX2_addWord : ByteArray := prog_4_method_6_code
def yX2_addWord : MethodName := ⟨RX2, "addWord", "(III)V"⟩
abbrev cX2_addBird : ByteArray := prog_4_method_7_code
def yX2_addBird : MethodName := ⟨RX2, "addBird", "(IIII)V"⟩
abbrev cX2_keepAway : ByteArray := prog_4_method_8_code
def yX2_keepAway : MethodName := ⟨RX2, "keepAway", "(I)V"⟩
abbrev cX2_setBitter : ByteArray := prog_4_method_9_code
def yX2_setBitter : MethodName := ⟨RX2, "setBitter", "(II)V"⟩
abbrev cX2_setWatched : ByteArray := prog_4_method_10_code
def yX2_setWatched : MethodName := ⟨RX2, "setWatched", "(IIZ)V"⟩
abbrev cX2_isWatched : ByteArray := prog_4_method_11_code
def yX2_isWatched : MethodName := ⟨RX2, "isWatched", "(II)Z"⟩
abbrev cX2_isGone : ByteArray := prog_4_method_12_code
def yX2_isGone : MethodName := ⟨RX2, "isGone", "(I)Z"⟩
abbrev cX2_strength : ByteArray := prog_4_method_13_code
def yX2_strength : MethodName := ⟨RX2, "strength", "(I)I"⟩
abbrev cX2_mayBeEaten : ByteArray := prog_4_method_14_code
def yX2_mayBeEaten : MethodName := ⟨RX2, "mayBeEaten", "(II)Z"⟩
abbrev cX2_kindOf : ByteArray := prog_4_method_15_code
def yX2_kindOf : MethodName := ⟨RX2, "kindOf", "(I)LEatenByDusk$Sparrow;"⟩
abbrev cX2_passHour : ByteArray := prog_4_method_16_code
def yX2_passHour : MethodName := ⟨RX2, "passHour", "()I"⟩
abbrev cX2_passTillDusk : ByteArray := prog_4_method_17_code
def yX2_passTillDusk : MethodName := ⟨RX2, "passTillDusk", "()I"⟩
abbrev cX2_hourOfGoing : ByteArray := prog_4_method_18_code
def yX2_hourOfGoing : MethodName := ⟨RX2, "hourOfGoing", "(I)I"⟩
abbrev cX2_allWords : ByteArray := prog_4_method_19_code
def yX2_allWords : MethodName := ⟨RX2, "allWords", "()I"⟩
abbrev cX2_leftWords : ByteArray := prog_4_method_20_code
def yX2_leftWords : MethodName := ⟨RX2, "leftWords", "()I"⟩
abbrev cX2_countLeft : ByteArray := prog_4_method_21_code
def yX2_countLeft : MethodName := ⟨RX2, "countLeft", "()I"⟩
abbrev cX2_countLeftOf : ByteArray := prog_4_method_22_code
def yX2_countLeftOf : MethodName := ⟨RX2, "countLeftOf", "(I)I"⟩
abbrev cX2_leftMeanings : ByteArray := prog_4_method_23_code
def yX2_leftMeanings : MethodName := ⟨RX2, "leftMeanings", "()I"⟩
abbrev cX2_strengthLeft : ByteArray := prog_4_method_24_code
def yX2_strengthLeft : MethodName := ⟨RX2, "strengthLeft", "()I"⟩
abbrev cX2_placeOtherThan : ByteArray := prog_4_method_25_code
def yX2_placeOtherThan : MethodName := ⟨RX2, "placeOtherThan", "([II)I"⟩
def RX3 : String := "EatenByDusk$Greedy"
def TX3 : u_T := fun k => match k with
  | _ => ("", "", "", false)
def tyX3 : Nat → FieldType := fun k => match k with
  | _ => .int
theorem nmX3 : ∀ a, a < 0 → ∀ b, b < 0 → a ≠ b → (TX3 a).2.1 ≠ (TX3 b).2.1 := by decide +kernel
theorem tyX3_ok : ∀ k, k < 0 → parseFieldDescriptor (TX3 k).2.2.1 = some (tyX3 k) := by decide +kernel
abbrev cX3_init : ByteArray := prog_5_method_1_code
def yX3_init : MethodName := ⟨RX3, "<init>", "()V"⟩
abbrev cX3_meals : ByteArray := prog_5_method_2_code
def yX3_meals : MethodName := ⟨RX3, "meals", "()I"⟩
def RX4 : String := "EatenByDusk$Letters"
def TX4 : u_T := fun k => match k with
  | 0 => ("EatenByDusk$Letters", "letters", "[C", true)
  | _ => ("EatenByDusk$Letters", "size", "I", false)
def tyX4 : Nat → FieldType := fun k => match k with
  | 0 => .array .char
  | _ => .int
theorem nmX4 : ∀ a, a < 2 → ∀ b, b < 2 → a ≠ b → (TX4 a).2.1 ≠ (TX4 b).2.1 := by decide +kernel
theorem tyX4_ok : ∀ k, k < 2 → parseFieldDescriptor (TX4 k).2.2.1 = some (tyX4 k) := by decide +kernel
abbrev cX4_init : ByteArray := prog_6_method_1_code
def yX4_init : MethodName := ⟨RX4, "<init>", "()V"⟩
abbrev cX4_isFull : ByteArray := prog_6_method_2_code
def yX4_isFull : MethodName := ⟨RX4, "isFull", "()Z"⟩
abbrev cX4_add : ByteArray := prog_6_method_3_code
def yX4_add : MethodName := ⟨RX4, "add", "(C)I"⟩
abbrev cX4_clear : ByteArray := prog_6_method_4_code
def yX4_clear : MethodName := ⟨RX4, "clear", "()V"⟩
abbrev cX4_fault : ByteArray := prog_6_method_5_code
def yX4_fault : MethodName := ⟨RX4, "fault", "(II)I"⟩
abbrev cX4_tellTo : ByteArray := prog_6_method_6_code
def yX4_tellTo : MethodName := ⟨RX4, "tellTo", "(LEatenByDusk$Garden;)I"⟩
abbrev cX4_misspeltPlace : ByteArray := prog_6_method_7_code
def yX4_misspeltPlace : MethodName := ⟨RX4, "misspeltPlace", "()I"⟩
abbrev cX4_unfitPlace : ByteArray := prog_6_method_8_code
def yX4_unfitPlace : MethodName := ⟨RX4, "unfitPlace", "(II)I"⟩
abbrev cX4_isFit : ByteArray := prog_6_method_9_code
def yX4_isFit : MethodName := ⟨RX4, "isFit", "(III)Z"⟩
abbrev cX4_tellStatement : ByteArray := prog_6_method_10_code
def yX4_tellStatement : MethodName := ⟨RX4, "tellStatement", "(ILEatenByDusk$Garden;)V"⟩
abbrev cX4_formBehind : ByteArray := prog_6_method_11_code
def yX4_formBehind : MethodName := ⟨RX4, "formBehind", "(C)Ljava/lang/String;"⟩
abbrev cX4_isOfForm : ByteArray := prog_6_method_12_code
def yX4_isOfForm : MethodName := ⟨RX4, "isOfForm", "(CC)Z"⟩
abbrev cX4_areHours : ByteArray := prog_6_method_13_code
def yX4_areHours : MethodName := ⟨RX4, "areHours", "(II)Z"⟩
abbrev cX4_beginsStatement : ByteArray := prog_6_method_14_code
def yX4_beginsStatement : MethodName := ⟨RX4, "beginsStatement", "(I)Z"⟩
abbrev cX4_letterAt : ByteArray := prog_6_method_15_code
def yX4_letterAt : MethodName := ⟨RX4, "letterAt", "(I)C"⟩
abbrev cX4_digitAt : ByteArray := prog_6_method_16_code
def yX4_digitAt : MethodName := ⟨RX4, "digitAt", "(I)I"⟩
def RX5 : String := "EatenByDusk$Owl"
def TX5 : u_T := fun k => match k with
  | _ => ("", "", "", false)
def tyX5 : Nat → FieldType := fun k => match k with
  | _ => .int
theorem nmX5 : ∀ a, a < 0 → ∀ b, b < 0 → a ≠ b → (TX5 a).2.1 ≠ (TX5 b).2.1 := by decide +kernel
theorem tyX5_ok : ∀ k, k < 0 → parseFieldDescriptor (TX5 k).2.2.1 = some (tyX5 k) := by decide +kernel
abbrev cX5_init : ByteArray := prog_7_method_1_code
def yX5_init : MethodName := ⟨RX5, "<init>", "()V"⟩
abbrev cX5_prefers : ByteArray := prog_7_method_2_code
def yX5_prefers : MethodName := ⟨RX5, "prefers", "(LEatenByDusk$Garden;II)Z"⟩
def RX6 : String := "EatenByDusk$Sparrow"
def TX6 : u_T := fun k => match k with
  | _ => ("", "", "", false)
def tyX6 : Nat → FieldType := fun k => match k with
  | _ => .int
theorem nmX6 : ∀ a, a < 0 → ∀ b, b < 0 → a ≠ b → (TX6 a).2.1 ≠ (TX6 b).2.1 := by decide +kernel
theorem tyX6_ok : ∀ k, k < 0 → parseFieldDescriptor (TX6 k).2.2.1 = some (tyX6 k) := by decide +kernel
abbrev cX6_init : ByteArray := prog_8_method_1_code
def yX6_init : MethodName := ⟨RX6, "<init>", "()V"⟩
abbrev cX6_choice : ByteArray := prog_8_method_2_code
def yX6_choice : MethodName := ⟨RX6, "choice", "(LEatenByDusk$Garden;I)I"⟩
abbrev cX6_meals : ByteArray := prog_8_method_3_code
def yX6_meals : MethodName := ⟨RX6, "meals", "()I"⟩
abbrev cX6_reaches : ByteArray := prog_8_method_4_code
def yX6_reaches : MethodName := ⟨RX6, "reaches", "(LEatenByDusk$Garden;I)Z"⟩
abbrev cX6_prefers : ByteArray := prog_8_method_5_code
def yX6_prefers : MethodName := ⟨RX6, "prefers", "(LEatenByDusk$Garden;II)Z"⟩
def RX7 : String := "EatenByDusk$Thrush"
def TX7 : u_T := fun k => match k with
  | _ => ("", "", "", false)
def tyX7 : Nat → FieldType := fun k => match k with
  | _ => .int
theorem nmX7 : ∀ a, a < 0 → ∀ b, b < 0 → a ≠ b → (TX7 a).2.1 ≠ (TX7 b).2.1 := by decide +kernel
theorem tyX7_ok : ∀ k, k < 0 → parseFieldDescriptor (TX7 k).2.2.1 = some (tyX7 k) := by decide +kernel
abbrev cX7_init : ByteArray := prog_9_method_1_code
def yX7_init : MethodName := ⟨RX7, "<init>", "()V"⟩
abbrev cX7_prefers : ByteArray := prog_9_method_2_code
def yX7_prefers : MethodName := ⟨RX7, "prefers", "(LEatenByDusk$Garden;II)Z"⟩
def RX8 : String := "EatenByDusk"
def TX8 : u_T := fun k => match k with
  | 0 => ("EatenByDusk", "now", "LEatenByDusk$Garden;", true)
  | 1 => ("EatenByDusk", "mind", "LEatenByDusk$Garden;", true)
  | 2 => ("EatenByDusk", "image", "LEatenByDusk$Garden;", true)
  | 3 => ("EatenByDusk", "imageTaken", "Z", false)
  | 4 => ("EatenByDusk", "letters", "LEatenByDusk$Letters;", true)
  | 5 => ("EatenByDusk", "row", "[I", true)
  | 6 => ("EatenByDusk", "rowLength", "I", false)
  | _ => ("EatenByDusk", "refusals", "[I", true)
def tyX8 : Nat → FieldType := fun k => match k with
  | 0 => .object "EatenByDusk$Garden"
  | 1 => .object "EatenByDusk$Garden"
  | 2 => .object "EatenByDusk$Garden"
  | 3 => .boolean
  | 4 => .object "EatenByDusk$Letters"
  | 5 => .array .int
  | 6 => .int
  | _ => .array .int
theorem nmX8 : ∀ a, a < 8 → ∀ b, b < 8 → a ≠ b → (TX8 a).2.1 ≠ (TX8 b).2.1 := by decide +kernel
theorem tyX8_ok : ∀ k, k < 8 → parseFieldDescriptor (TX8 k).2.2.1 = some (tyX8 k) := by decide +kernel
abbrev cX8_init : ByteArray := prog_1_method_1_code
def yX8_init : MethodName := ⟨RX8, "<init>", "()V"⟩
abbrev cX8_letter : ByteArray := prog_1_method_2_code
def yX8_letter : MethodName := ⟨RX8, "letter", "(I)I"⟩
abbrev cX8_text : ByteArray := prog_1_method_3_code
def yX8_text : MethodName := ⟨RX8, "text", "()I"⟩
abbrev cX8_word : ByteArray := prog_1_method_4_code
def yX8_word : MethodName := ⟨RX8, "word", "(II)I"⟩
abbrev cX8_bird : ByteArray := prog_1_method_5_code
def yX8_bird : MethodName := ⟨RX8, "bird", "(II)I"⟩
abbrev cX8_bitter : ByteArray := prog_1_method_6_code
def yX8_bitter : MethodName := ⟨RX8, "bitter", "(II)I"⟩
abbrev cX8_ink : ByteArray := prog_1_method_7_code
def yX8_ink : MethodName := ⟨RX8, "ink", "(II)I"⟩
abbrev cX8_watch : ByteArray := prog_1_method_8_code
def yX8_watch : MethodName := ⟨RX8, "watch", "(III)I"⟩
abbrev cX8_hour : ByteArray := prog_1_method_9_code
def yX8_hour : MethodName := ⟨RX8, "hour", "()I"⟩
abbrev cX8_anew : ByteArray := prog_1_method_10_code
def yX8_anew : MethodName := ⟨RX8, "anew", "()I"⟩
abbrev cX8_left : ByteArray := prog_1_method_11_code
def yX8_left : MethodName := ⟨RX8, "left", "(I)I"⟩
abbrev cX8_eaten : ByteArray := prog_1_method_12_code
def yX8_eaten : MethodName := ⟨RX8, "eaten", "(I)I"⟩
abbrev cX8_meanings : ByteArray := prog_1_method_13_code
def yX8_meanings : MethodName := ⟨RX8, "meanings", "()I"⟩
abbrev cX8_remain : ByteArray := prog_1_method_14_code
def yX8_remain : MethodName := ⟨RX8, "remain", "()I"⟩
abbrev cX8_holds : ByteArray := prog_1_method_15_code
def yX8_holds : MethodName := ⟨RX8, "holds", "(I)I"⟩
abbrev cX8_boys : ByteArray := prog_1_method_16_code
def yX8_boys : MethodName := ⟨RX8, "boys", "(I)I"⟩
abbrev cX8_guard : ByteArray := prog_1_method_17_code
def yX8_guard : MethodName := ⟨RX8, "guard", "()I"⟩
abbrev cX8_winter : ByteArray := prog_1_method_18_code
def yX8_winter : MethodName := ⟨RX8, "winter", "(I)I"⟩
abbrev cX8_becomes : ByteArray := prog_1_method_19_code
def yX8_becomes : MethodName := ⟨RX8, "becomes", "()I"⟩
abbrev cX8_danger : ByteArray := prog_1_method_20_code
def yX8_danger : MethodName := ⟨RX8, "danger", "()I"⟩
abbrev cX8_lasts : ByteArray := prog_1_method_21_code
def yX8_lasts : MethodName := ⟨RX8, "lasts", "(I)I"⟩
abbrev cX8_mixed : ByteArray := prog_1_method_22_code
def yX8_mixed : MethodName := ⟨RX8, "mixed", "(II)I"⟩
abbrev cX8_tastes : ByteArray := prog_1_method_23_code
def yX8_tastes : MethodName := ⟨RX8, "tastes", "(II)I"⟩
abbrev cX8_fitting : ByteArray := prog_1_method_24_code
def yX8_fitting : MethodName := ⟨RX8, "fitting", "(II)I"⟩
abbrev cX8_seeds : ByteArray := prog_1_method_25_code
def yX8_seeds : MethodName := ⟨RX8, "seeds", "(II)I"⟩
abbrev cX8_row : ByteArray := prog_1_method_26_code
def yX8_row : MethodName := ⟨RX8, "row", "(I)I"⟩
abbrev cX8_judge : ByteArray := prog_1_method_27_code
def yX8_judge : MethodName := ⟨RX8, "judge", "()I"⟩
abbrev cX8_image : ByteArray := prog_1_method_28_code
def yX8_image : MethodName := ⟨RX8, "image", "()I"⟩
abbrev cX8_on : ByteArray := prog_1_method_29_code
def yX8_on : MethodName := ⟨RX8, "on", "()I"⟩
abbrev cX8_count : ByteArray := prog_1_method_30_code
def yX8_count : MethodName := ⟨RX8, "count", "(I)I"⟩
abbrev cX8_refuse : ByteArray := prog_1_method_31_code
def yX8_refuse : MethodName := ⟨RX8, "refuse", "(I)I"⟩
abbrev cX8_mindAsNow : ByteArray := prog_1_method_32_code
def yX8_mindAsNow : MethodName := ⟨RX8, "mindAsNow", "()LEatenByDusk$Garden;"⟩
abbrev cX8_isKeptByWatching : ByteArray := prog_1_method_33_code
def yX8_isKeptByWatching : MethodName := ⟨RX8, "isKeptByWatching", "(II)Z"⟩
abbrev cX8_countLeftByBitters : ByteArray := prog_1_method_34_code
def yX8_countLeftByBitters : MethodName := ⟨RX8, "countLeftByBitters", "(I)I"⟩
abbrev cX8_sumOfDigits : ByteArray := prog_1_method_35_code
def yX8_sumOfDigits : MethodName := ⟨RX8, "sumOfDigits", "(I)I"⟩
abbrev cX8_isInk : ByteArray := prog_1_method_36_code
def yX8_isInk : MethodName := ⟨RX8, "isInk", "(I)Z"⟩
def RX9 : String := "EatenByDuskModel"
def TX9 : u_T := fun k => match k with
  | 0 => ("EatenByDuskModel", "refused", "[I", true)
  | 1 => ("EatenByDuskModel", "sweet", "[I", true)
  | 2 => ("EatenByDuskModel", "inkOf", "[I", true)
  | 3 => ("EatenByDuskModel", "meaning", "[I", true)
  | 4 => ("EatenByDuskModel", "kind", "[I", true)
  | 5 => ("EatenByDuskModel", "taste", "[I", true)
  | 6 => ("EatenByDuskModel", "from", "[I", true)
  | 7 => ("EatenByDuskModel", "till", "[I", true)
  | 8 => ("EatenByDuskModel", "bitter", "[I", true)
  | 9 => ("EatenByDuskModel", "watched", "[I", true)
  | 10 => ("EatenByDuskModel", "words", "I", false)
  | 11 => ("EatenByDuskModel", "birds", "I", false)
  | 12 => ("EatenByDuskModel", "hour", "I", false)
  | 13 => ("EatenByDuskModel", "gone", "I", false)
  | 14 => ("EatenByDuskModel", "tape", "[I", true)
  | 15 => ("EatenByDuskModel", "letter", "[I", true)
  | 16 => ("EatenByDuskModel", "letterAt", "[I", true)
  | 17 => ("EatenByDuskModel", "told", "[I", true)
  | 18 => ("EatenByDuskModel", "taped", "I", false)
  | 19 => ("EatenByDuskModel", "at", "I", false)
  | 20 => ("EatenByDuskModel", "statements", "I", false)
  | 21 => ("EatenByDuskModel", "kept", "[I", true)
  | 22 => ("EatenByDuskModel", "hasImage", "Z", false)
  | 23 => ("EatenByDuskModel", "isKeeping", "Z", false)
  | 24 => ("EatenByDuskModel", "cursor", "I", false)
  | 25 => ("EatenByDuskModel", "row", "[I", true)
  | _ => ("EatenByDuskModel", "rowMany", "I", false)
def tyX9 : Nat → FieldType := fun k => match k with
  | 0 => .array .int
  | 1 => .array .int
  | 2 => .array .int
  | 3 => .array .int
  | 4 => .array .int
  | 5 => .array .int
  | 6 => .array .int
  | 7 => .array .int
  | 8 => .array .int
  | 9 => .array .int
  | 10 => .int
  | 11 => .int
  | 12 => .int
  | 13 => .int
  | 14 => .array .int
  | 15 => .array .int
  | 16 => .array .int
  | 17 => .array .int
  | 18 => .int
  | 19 => .int
  | 20 => .int
  | 21 => .array .int
  | 22 => .boolean
  | 23 => .boolean
  | 24 => .int
  | 25 => .array .int
  | _ => .int
theorem nmX9 : ∀ a, a < 27 → ∀ b, b < 27 → a ≠ b → (TX9 a).2.1 ≠ (TX9 b).2.1 := by decide +kernel
theorem tyX9_ok : ∀ k, k < 27 → parseFieldDescriptor (TX9 k).2.2.1 = some (tyX9 k) := by decide +kernel
abbrev cX9_init : ByteArray := prog_11_method_1_code
def yX9_init : MethodName := ⟨RX9, "<init>", "()V"⟩
abbrev cX9_no : ByteArray := prog_11_method_2_code
def yX9_no : MethodName := ⟨RX9, "no", "(I)I"⟩
abbrev cX9_lower : ByteArray := prog_11_method_3_code
def yX9_lower : MethodName := ⟨RX9, "lower", "(I)I"⟩
abbrev cX9_isIn : ByteArray := prog_11_method_4_code
def yX9_isIn : MethodName := ⟨RX9, "isIn", "(III)Z"⟩
abbrev cX9_bound : ByteArray := prog_11_method_5_code
def yX9_bound : MethodName := ⟨RX9, "bound", "(III)I"⟩
abbrev cX9_isWord : ByteArray := prog_11_method_6_code
def yX9_isWord : MethodName := ⟨RX9, "isWord", "(I)Z"⟩
abbrev cX9_isBird : ByteArray := prog_11_method_7_code
def yX9_isBird : MethodName := ⟨RX9, "isBird", "(I)Z"⟩
abbrev cX9_areWords : ByteArray := prog_11_method_8_code
def yX9_areWords : MethodName := ⟨RX9, "areWords", "(I)Z"⟩
abbrev cX9_letter : ByteArray := prog_11_method_9_code
def yX9_letter : MethodName := ⟨RX9, "letter", "(I)I"⟩
abbrev cX9_next : ByteArray := prog_11_method_10_code
def yX9_next : MethodName := ⟨RX9, "next", "()I"⟩
abbrev cX9_kindOf : ByteArray := prog_11_method_11_code
def yX9_kindOf : MethodName := ⟨RX9, "kindOf", "(I)I"⟩
abbrev cX9_readsKind : ByteArray := prog_11_method_12_code
def yX9_readsKind : MethodName := ⟨RX9, "readsKind", "(I)Z"⟩
abbrev cX9_readsOnes : ByteArray := prog_11_method_13_code
def yX9_readsOnes : MethodName := ⟨RX9, "readsOnes", "(II)Z"⟩
abbrev cX9_statement : ByteArray := prog_11_method_14_code
def yX9_statement : MethodName := ⟨RX9, "statement", "()Z"⟩
abbrev cX9_comesWord : ByteArray := prog_11_method_15_code
def yX9_comesWord : MethodName := ⟨RX9, "comesWord", "(I)Z"⟩
abbrev cX9_comesBird : ByteArray := prog_11_method_16_code
def yX9_comesBird : MethodName := ⟨RX9, "comesBird", "(I)Z"⟩
abbrev cX9_comesWatch : ByteArray := prog_11_method_17_code
def yX9_comesWatch : MethodName := ⟨RX9, "comesWatch", "(I)Z"⟩
abbrev cX9_comes : ByteArray := prog_11_method_18_code
def yX9_comes : MethodName := ⟨RX9, "comes", "(I)Z"⟩
abbrev cX9_text : ByteArray := prog_11_method_19_code
def yX9_text : MethodName := ⟨RX9, "text", "()I"⟩
abbrev cX9_passes : ByteArray := prog_11_method_20_code
def yX9_passes : MethodName := ⟨RX9, "passes", "([I)V"⟩
abbrev cX9_passOne : ByteArray := prog_11_method_21_code
def yX9_passOne : MethodName := ⟨RX9, "passOne", "(I)I"⟩
abbrev cX9_passesAll : ByteArray := prog_11_method_22_code
def yX9_passesAll : MethodName := ⟨RX9, "passesAll", "(IZ)V"⟩
abbrev cX9_image : ByteArray := prog_11_method_23_code
def yX9_image : MethodName := ⟨RX9, "image", "()I"⟩
abbrev cX9_on : ByteArray := prog_11_method_24_code
def yX9_on : MethodName := ⟨RX9, "on", "()I"⟩
abbrev cX9_strengthOf : ByteArray := prog_11_method_25_code
def yX9_strengthOf : MethodName := ⟨RX9, "strengthOf", "(I)I"⟩
abbrev cX9_isGone : ByteArray := prog_11_method_26_code
def yX9_isGone : MethodName := ⟨RX9, "isGone", "(I)Z"⟩
abbrev cX9_mayEat : ByteArray := prog_11_method_27_code
def yX9_mayEat : MethodName := ⟨RX9, "mayEat", "(II)Z"⟩
abbrev cX9_isRather : ByteArray := prog_11_method_28_code
def yX9_isRather : MethodName := ⟨RX9, "isRather", "(III)Z"⟩
abbrev cX9_eatsBy : ByteArray := prog_11_method_29_code
def yX9_eatsBy : MethodName := ⟨RX9, "eatsBy", "(I)I"⟩
abbrev cX9_eats : ByteArray := prog_11_method_30_code
def yX9_eats : MethodName := ⟨RX9, "eats", "(I)I"⟩
abbrev cX9_goesHour : ByteArray := prog_11_method_31_code
def yX9_goesHour : MethodName := ⟨RX9, "goesHour", "()I"⟩
abbrev cX9_leftNow : ByteArray := prog_11_method_32_code
def yX9_leftNow : MethodName := ⟨RX9, "leftNow", "()I"⟩
abbrev cX9_bits : ByteArray := prog_11_method_33_code
def yX9_bits : MethodName := ⟨RX9, "bits", "(I)I"⟩
abbrev cX9_leftAtDusk : ByteArray := prog_11_method_34_code
def yX9_leftAtDusk : MethodName := ⟨RX9, "leftAtDusk", "()I"⟩
abbrev cX9_word : ByteArray := prog_11_method_35_code
def yX9_word : MethodName := ⟨RX9, "word", "(II)I"⟩
abbrev cX9_bird : ByteArray := prog_11_method_36_code
def yX9_bird : MethodName := ⟨RX9, "bird", "(II)I"⟩
abbrev cX9_isInk : ByteArray := prog_11_method_37_code
def yX9_isInk : MethodName := ⟨RX9, "isInk", "(I)Z"⟩
abbrev cX9_bitter : ByteArray := prog_11_method_38_code
def yX9_bitter : MethodName := ⟨RX9, "bitter", "(II)I"⟩
abbrev cX9_ink : ByteArray := prog_11_method_39_code
def yX9_ink : MethodName := ⟨RX9, "ink", "(II)I"⟩
abbrev cX9_watch : ByteArray := prog_11_method_40_code
def yX9_watch : MethodName := ⟨RX9, "watch", "(III)I"⟩
abbrev cX9_hour : ByteArray := prog_11_method_41_code
def yX9_hour : MethodName := ⟨RX9, "hour", "()I"⟩
abbrev cX9_anew : ByteArray := prog_11_method_42_code
def yX9_anew : MethodName := ⟨RX9, "anew", "()I"⟩
abbrev cX9_left : ByteArray := prog_11_method_43_code
def yX9_left : MethodName := ⟨RX9, "left", "(I)I"⟩
abbrev cX9_goesIn : ByteArray := prog_11_method_44_code
def yX9_goesIn : MethodName := ⟨RX9, "goesIn", "(I)I"⟩
abbrev cX9_eaten : ByteArray := prog_11_method_45_code
def yX9_eaten : MethodName := ⟨RX9, "eaten", "(I)I"⟩
abbrev cX9_meaningsOf : ByteArray := prog_11_method_46_code
def yX9_meaningsOf : MethodName := ⟨RX9, "meaningsOf", "(I)I"⟩
abbrev cX9_meanings : ByteArray := prog_11_method_47_code
def yX9_meanings : MethodName := ⟨RX9, "meanings", "()I"⟩
abbrev cX9_remain : ByteArray := prog_11_method_48_code
def yX9_remain : MethodName := ⟨RX9, "remain", "()I"⟩
abbrev cX9_holds : ByteArray := prog_11_method_49_code
def yX9_holds : MethodName := ⟨RX9, "holds", "(I)I"⟩
abbrev cX9_watchedLeft : ByteArray := prog_11_method_50_code
def yX9_watchedLeft : MethodName := ⟨RX9, "watchedLeft", "(II)I"⟩
abbrev cX9_boys : ByteArray := prog_11_method_51_code
def yX9_boys : MethodName := ⟨RX9, "boys", "(I)I"⟩
abbrev cX9_guard : ByteArray := prog_11_method_52_code
def yX9_guard : MethodName := ⟨RX9, "guard", "()I"⟩
abbrev cX9_winter : ByteArray := prog_11_method_53_code
def yX9_winter : MethodName := ⟨RX9, "winter", "(I)I"⟩
abbrev cX9_otherAt : ByteArray := prog_11_method_54_code
def yX9_otherAt : MethodName := ⟨RX9, "otherAt", "()I"⟩
abbrev cX9_becomes : ByteArray := prog_11_method_55_code
def yX9_becomes : MethodName := ⟨RX9, "becomes", "()I"⟩
abbrev cX9_danger : ByteArray := prog_11_method_56_code
def yX9_danger : MethodName := ⟨RX9, "danger", "()I"⟩
abbrev cX9_lasts : ByteArray := prog_11_method_57_code
def yX9_lasts : MethodName := ⟨RX9, "lasts", "(I)I"⟩
abbrev cX9_mixed : ByteArray := prog_11_method_58_code
def yX9_mixed : MethodName := ⟨RX9, "mixed", "(II)I"⟩
abbrev cX9_tastes : ByteArray := prog_11_method_59_code
def yX9_tastes : MethodName := ⟨RX9, "tastes", "(II)I"⟩
abbrev cX9_fitting : ByteArray := prog_11_method_60_code
def yX9_fitting : MethodName := ⟨RX9, "fitting", "(II)I"⟩
abbrev cX9_row : ByteArray := prog_11_method_61_code
def yX9_row : MethodName := ⟨RX9, "row", "(I)I"⟩
abbrev cX9_judge : ByteArray := prog_11_method_62_code
def yX9_judge : MethodName := ⟨RX9, "judge", "()I"⟩
abbrev cX9_seeds : ByteArray := prog_11_method_63_code
def yX9_seeds : MethodName := ⟨RX9, "seeds", "(II)I"⟩
abbrev cX9_count : ByteArray := prog_11_method_64_code
def yX9_count : MethodName := ⟨RX9, "count", "(I)I"⟩
def RJ11 : String := "java/lang/Character"
def TJ11 : u_T := fun k => match k with
  | _ => ("", "", "", false)
def tyJ11 : Nat → FieldType := fun k => match k with
  | _ => .int
theorem nmJ11 : ∀ a, a < 0 → ∀ b, b < 0 → a ≠ b → (TJ11 a).2.1 ≠ (TJ11 b).2.1 := by decide +kernel
theorem tyJ11_ok : ∀ k, k < 0 → parseFieldDescriptor (TJ11 k).2.2.1 = some (tyJ11 k) := by decide +kernel
abbrev cJ11_isValidCodePoint_9a6ad : ByteArray := prog_12_method_11_code
def yJ11_isValidCodePoint_9a6ad : MethodName := ⟨RJ11, "isValidCodePoint", "(I)Z"⟩
abbrev cJ11_highSurrogate_5068e : ByteArray := prog_12_method_28_code
def yJ11_highSurrogate_5068e : MethodName := ⟨RJ11, "highSurrogate", "(I)C"⟩
abbrev cJ11_lowSurrogate_5068e : ByteArray := prog_12_method_29_code
def yJ11_lowSurrogate_5068e : MethodName := ⟨RJ11, "lowSurrogate", "(I)C"⟩
def RJ6 : String := "java/lang/Integer"
def TJ6 : u_T := fun k => match k with
  | _ => ("", "", "", false)
def tyJ6 : Nat → FieldType := fun k => match k with
  | _ => .int
theorem nmJ6 : ∀ a, a < 0 → ∀ b, b < 0 → a ≠ b → (TJ6 a).2.1 ≠ (TJ6 b).2.1 := by decide +kernel
theorem tyJ6_ok : ∀ k, k < 0 → parseFieldDescriptor (TJ6 k).2.2.1 = some (tyJ6 k) := by decide +kernel
abbrev cJ6_bitCount_0f7a4 : ByteArray := prog_13_method_49_code
def yJ6_bitCount_0f7a4 : MethodName := ⟨RJ6, "bitCount", "(I)I"⟩
def RJ9 : String := "java/lang/Math"
def TJ9 : u_T := fun k => match k with
  | _ => ("", "", "", false)
def tyJ9 : Nat → FieldType := fun k => match k with
  | _ => .int
theorem nmJ9 : ∀ a, a < 0 → ∀ b, b < 0 → a ≠ b → (TJ9 a).2.1 ≠ (TJ9 b).2.1 := by decide +kernel
theorem tyJ9_ok : ∀ k, k < 0 → parseFieldDescriptor (TJ9 k).2.2.1 = some (tyJ9 k) := by decide +kernel
abbrev cJ9_max_7cf53 : ByteArray := prog_14_method_65_code
def yJ9_max_7cf53 : MethodName := ⟨RJ9, "max", "(II)I"⟩
abbrev cJ9_min_7cf53 : ByteArray := prog_14_method_69_code
def yJ9_min_7cf53 : MethodName := ⟨RJ9, "min", "(II)I"⟩
def RJ0 : String := "java/lang/String"
def TJ0 : u_T := fun k => match k with
  | _ => ("", "", "", false)
def tyJ0 : Nat → FieldType := fun k => match k with
  | _ => .int
theorem nmJ0 : ∀ a, a < 0 → ∀ b, b < 0 → a ≠ b → (TJ0 a).2.1 ≠ (TJ0 b).2.1 := by decide +kernel
theorem tyJ0_ok : ∀ k, k < 0 → parseFieldDescriptor (TJ0 k).2.2.1 = some (tyJ0 k) := by decide +kernel
abbrev cJ0_length_8abf5 : ByteArray := prog_15_method_54_code
def yJ0_length_8abf5 : MethodName := ⟨RJ0, "length", "()I"⟩
abbrev cJ0_isEmpty_aae02 : ByteArray := prog_15_method_55_code
def yJ0_isEmpty_aae02 : MethodName := ⟨RJ0, "isEmpty", "()Z"⟩
abbrev cJ0_charAt_5068e : ByteArray := prog_15_method_56_code
def yJ0_charAt_5068e : MethodName := ⟨RJ0, "charAt", "(I)C"⟩
abbrev cJ0_indexOf_0f7a4 : ByteArray := prog_15_method_79_code
def yJ0_indexOf_0f7a4 : MethodName := ⟨RJ0, "indexOf", "(I)I"⟩
abbrev cJ0_indexOf_7cf53 : ByteArray := prog_15_method_80_code
def yJ0_indexOf_7cf53 : MethodName := ⟨RJ0, "indexOf", "(II)I"⟩
abbrev cJ0_coder_7d493 : ByteArray := prog_15_method_152_code
def yJ0_coder_7d493 : MethodName := ⟨RJ0, "coder", "()B"⟩
abbrev cJ0_isLatin1_aae02 : ByteArray := prog_15_method_154_code
def yJ0_isLatin1_aae02 : MethodName := ⟨RJ0, "isLatin1", "()Z"⟩
abbrev cJ0_checkIndex_df160 : ByteArray := prog_15_method_155_code
def yJ0_checkIndex_df160 : MethodName := ⟨RJ0, "checkIndex", "(II)V"⟩
abbrev cJ0_checkBoundsBeginEnd_23922 : ByteArray := prog_15_method_158_code
def yJ0_checkBoundsBeginEnd_23922 : MethodName := ⟨RJ0, "checkBoundsBeginEnd", "(III)V"⟩
def RJ1 : String := "java/lang/StringLatin1"
def TJ1 : u_T := fun k => match k with
  | _ => ("", "", "", false)
def tyJ1 : Nat → FieldType := fun k => match k with
  | _ => .int
theorem nmJ1 : ∀ a, a < 0 → ∀ b, b < 0 → a ≠ b → (TJ1 a).2.1 ≠ (TJ1 b).2.1 := by decide +kernel
theorem tyJ1_ok : ∀ k, k < 0 → parseFieldDescriptor (TJ1 k).2.2.1 = some (tyJ1 k) := by decide +kernel
abbrev cJ1_charAt_3b067 : ByteArray := prog_16_method_2_code
def yJ1_charAt_3b067 : MethodName := ⟨RJ1, "charAt", "([BI)C"⟩
abbrev cJ1_canEncode_9a6ad : ByteArray := prog_16_method_4_code
def yJ1_canEncode_9a6ad : MethodName := ⟨RJ1, "canEncode", "(I)Z"⟩
abbrev cJ1_indexOf_4cfef : ByteArray := prog_16_method_22_code
def yJ1_indexOf_4cfef : MethodName := ⟨RJ1, "indexOf", "([BIII)I"⟩
abbrev cJ1_indexOfChar_4cfef : ByteArray := prog_16_method_23_code
def yJ1_indexOfChar_4cfef : MethodName := ⟨RJ1, "indexOfChar", "([BIII)I"⟩
def RJ2 : String := "java/lang/StringUTF16"
def TJ2 : u_T := fun k => match k with
  | _ => ("", "", "", false)
def tyJ2 : Nat → FieldType := fun k => match k with
  | _ => .int
theorem nmJ2 : ∀ a, a < 0 → ∀ b, b < 0 → a ≠ b → (TJ2 a).2.1 ≠ (TJ2 b).2.1 := by decide +kernel
theorem tyJ2_ok : ∀ k, k < 0 → parseFieldDescriptor (TJ2 k).2.2.1 = some (tyJ2 k) := by decide +kernel
abbrev cJ2_getChar_3b067 : ByteArray := prog_17_method_5_code
def yJ2_getChar_3b067 : MethodName := ⟨RJ2, "getChar", "([BI)C"⟩
abbrev cJ2_length_9d52b : ByteArray := prog_17_method_6_code
def yJ2_length_9d52b : MethodName := ⟨RJ2, "length", "([B)I"⟩
abbrev cJ2_indexOf_4cfef : ByteArray := prog_17_method_40_code
def yJ2_indexOf_4cfef : MethodName := ⟨RJ2, "indexOf", "([BIII)I"⟩
abbrev cJ2_indexOfChar_4cfef : ByteArray := prog_17_method_47_code
def yJ2_indexOfChar_4cfef : MethodName := ⟨RJ2, "indexOfChar", "([BIII)I"⟩
abbrev cJ2_indexOfCharUnsafe_4cfef : ByteArray := prog_17_method_48_code
def yJ2_indexOfCharUnsafe_4cfef : MethodName := ⟨RJ2, "indexOfCharUnsafe", "([BIII)I"⟩
abbrev cJ2_indexOfSupplementary_4cfef : ByteArray := prog_17_method_49_code
def yJ2_indexOfSupplementary_4cfef : MethodName := ⟨RJ2, "indexOfSupplementary", "([BIII)I"⟩
abbrev cJ2_charAt_3b067 : ByteArray := prog_17_method_83_code
def yJ2_charAt_3b067 : MethodName := ⟨RJ2, "charAt", "([BI)C"⟩
abbrev cJ2_checkIndex_2214a : ByteArray := prog_17_method_91_code
def yJ2_checkIndex_2214a : MethodName := ⟨RJ2, "checkIndex", "(I[B)V"⟩
abbrev cJ2_checkBoundsBeginEnd_d044e : ByteArray := prog_17_method_93_code
def yJ2_checkBoundsBeginEnd_d044e : MethodName := ⟨RJ2, "checkBoundsBeginEnd", "(II[B)V"⟩
def RJ10 : String := "java/lang/System"
def TJ10 : u_T := fun k => match k with
  | _ => ("", "", "", false)
def tyJ10 : Nat → FieldType := fun k => match k with
  | _ => .int
theorem nmJ10 : ∀ a, a < 0 → ∀ b, b < 0 → a ≠ b → (TJ10 a).2.1 ≠ (TJ10 b).2.1 := by decide +kernel
theorem tyJ10_ok : ∀ k, k < 0 → parseFieldDescriptor (TJ10 k).2.2.1 = some (tyJ10 k) := by decide +kernel
def RJ3 : String := "jdk/internal/util/Preconditions"
def TJ3 : u_T := fun k => match k with
  | _ => ("", "", "", false)
def tyJ3 : Nat → FieldType := fun k => match k with
  | _ => .int
theorem nmJ3 : ∀ a, a < 0 → ∀ b, b < 0 → a ≠ b → (TJ3 a).2.1 ≠ (TJ3 b).2.1 := by decide +kernel
theorem tyJ3_ok : ∀ k, k < 0 → parseFieldDescriptor (TJ3 k).2.2.1 = some (tyJ3 k) := by decide +kernel
abbrev cJ3_checkIndex_8e157 : ByteArray := prog_19_method_11_code
def yJ3_checkIndex_8e157 : MethodName := ⟨RJ3, "checkIndex", "(IILjava/util/function/BiFunction;)I"⟩
abbrev cJ3_checkFromToIndex_8c36e : ByteArray := prog_19_method_12_code
def yJ3_checkFromToIndex_8c36e : MethodName := ⟨RJ3, "checkFromToIndex", "(IIILjava/util/function/BiFunction;)I"⟩
def RL : String := "EatenByDuskLaw"
abbrev cL_law : ByteArray := code
def yL_law : MethodName := ⟨RL, "law", "([I)Z"⟩
abbrev vwCl : List vw_C := [(RX0, TX0, 0), (RX1, TX1, 0), (RX2, TX2, 14), (RX3, TX3, 0), (RX4, TX4, 2), (RX5, TX5, 0), (RX6, TX6, 0), (RX7, TX7, 0), (RX8, TX8, 8), (RX9, TX9, 27)]
end
section
/-! THE FRAME: the words of the tables in one list (TBg); what holds around every method (EK, ES); a contract (CT); the walk of a method over a named world (WF), a row an instruction. -/
def TBg : List Cond := lw_tbl.filter goodWord
theorem tb_of {w : Cond} (i : Nat) (h : lw_tbl[i]? = some w) (g : goodWord w = true) : w ∈ TBg := List.mem_filter.mpr ⟨List.mem_of_getElem? h, g⟩
theorem tb_lw {w : Cond} (h : w ∈ TBg) : w ∈ lw_tbl := (List.mem_filter.mp h).1
theorem tb_good {w : Cond} (h : w ∈ TBg) : (w.onTables && w.keeps) = true ∨ ∃ ty, w = .arrayClass ty := good_of_word (List.mem_filter.mp h).2
theorem gi_tb {c' : Cond} (h : c' ∈ TBg) : GoodIn TBg (c' :: TBg) := by
  intro w hw
  rcases List.mem_cons.mp hw with rfl | hw
  · exact ⟨h, tb_good h⟩
  · exact ⟨hw, tb_good hw⟩
def nestW : List (String × Nat × MethodName × String) := [(RX8, 9, yX6_init, RX8), (RX8, 12, yX7_init, RX8), (RX7, 1, yX6_init, RX8), (RX8, 15, yX0_init, RX8), (RX0, 1, yX6_init, RX8), (RX8, 18, yX5_init, RX8), (RX5, 1, yX7_init, RX8), (RX8, 21, yX3_init, RX8), (RX3, 1, yX6_init, RX8), (RX8, 24, yX1_init, RX8), (RX1, 1, yX0_init, RX8), (RX8, 44, yX4_init, RX8), (RX4, 70, yX8_isInk, RX8), (RX2, 66, yX8_isInk, RX8)]
def NF (U : State) : Prop := ∀ q ∈ nestW, va_Nw (.methodLinkNest q.1 q.2.1 q.2.2.1 q.2.2.2) U
theorem NF.warm {s U : State} (hW : s.WarmedH U.vm) (h : NF s) : NF U := fun q hq => va_Nw.warmM hW (h q hq)
theorem NF.same {s U : State} (hv : s.vm = U.vm) (h : NF s) : NF U := fun q hq => va_Nw.same rfl hv (h q hq)
abbrev Ev : Type := va_G × (ClassId × ClassId × ClassId) × (Nat → Nat) × (Nat → Nat)
def tysE (E : Ev) : List (ClassId × FieldType) := [(E.2.1.1, .int), (E.2.1.2.1, .char), (E.2.1.2.2, .object "EatenByDusk$Sparrow")]
def lenS : List Nat := [4, 5, 3, 0, 6]
def bytS : List (List Int32) := [[100, 100, 100, 59], [107, 100, 100, 100, 59], [100, 100, 59], [], [115, 116, 99, 111, 103, 102]]
def SR (ad : Nat → Nat) (U : State) : Prop := vk_R "EatenByDusk$Letters" 100 "ddd;" (ad 0) U ∧ vk_R "EatenByDusk$Letters" 102 "kddd;" (ad 1) U ∧ vk_R "EatenByDusk$Letters" 104 "dd;" (ad 2) U ∧ vk_R "EatenByDusk$Letters" 106 "" (ad 3) U ∧ vk_R "EatenByDusk$Letters" 83 "stcogf" (ad 4) U ∧ vk_R "EatenByDusk" 218 "stcogf" (ad 4) U
theorem SR.warm {ad : Nat → Nat} {s U : State} (hW : s.WarmedH U.vm) (h : SR ad s) : SR ad U := ⟨h.1.warm hW, h.2.1.warm hW, h.2.2.1.warm hW, h.2.2.2.1.warm hW, h.2.2.2.2.1.warm hW, h.2.2.2.2.2.warm hW⟩
theorem SR.same {ad : Nat → Nat} {s U : State} (hv : U.vm = s.vm) (h : SR ad s) : SR ad U := ⟨h.1.same hv, h.2.1.same hv, h.2.2.1.same hv, h.2.2.2.1.same hv, h.2.2.2.2.1.same hv, h.2.2.2.2.2.same hv⟩
def EK (E : Ev) (U : State) : Prop := va_K E.1 vwCl (tysE E) U ∧ NF U ∧ SR E.2.2.1 U
theorem EK.warm {E : Ev} {s U : State} (hW : s.WarmedH U.vm) (h : EK E s) : EK E U := ⟨va_K.moved hW.alike h.1, h.2.1.warm hW, h.2.2.warm hW⟩
theorem EK.same {E : Ev} {s U : State} (hv : s.vm = U.vm) (h : EK E s) : EK E U := ⟨va_K.moved (hv ▸ Vm.Alike.refl s.vm) h.1, h.2.1.same hv, h.2.2.same hv.symm⟩
def ES (E : Ev) (A : Nat → Prop) (U : State) (H : Heap) : Prop := vk_S 5 lenS bytS E.2.2.1 E.2.2.2 A U H ∧ va_Z "java/lang/String" "COMPACT_STRINGS" "Z" (.int 1) A U H ∧ va_Zq "jdk/internal/util/Preconditions" "SIOOBE_FORMATTER" "Ljava/util/function/BiFunction;" A U H
theorem ES.moved {E : Ev} {A : Nat → Prop} {u U : State} {H : Heap} (hvm : u.vm.Alike U.vm) (h : ES E A u H) : ES E A U H := ⟨h.1.moved hvm, h.2.1.moved hvm, h.2.2.moved hvm⟩
theorem ES.kept {E : Ev} {A : Nat → Prop} {U : State} {H H1 : Heap} (h : ES E A U H) (hq : ∀ a : Nat, a < H.size → ¬ A a → H1[a]? = H[a]?) : ES E A U H1 := ⟨h.1.kept hq, h.2.1.kept hq, h.2.2.kept hq⟩
theorem ES.narrow {E : Ev} {A B : Nat → Prop} {U : State} {H : Heap} (h : ES E A U H) (hAB : ∀ q, B q → A q) : ES E B U H := ⟨h.1.narrow hAB, h.2.1.narrow hAB, h.2.2.narrow hAB⟩
/-- the start of a method, with the world w -/
def Ent (E : Ev) (w : va_W) (sz : Nat) (U : State) : Prop := U.heap.size = sz ∧ va_P E.1 vwCl w U.heap ∧ va_D (fun _ => True) w ∧ EK E U ∧ ES E (va_A w sz) U U.heap
/-- the end of a method that began with the world w -/
def EndW (E : Ev) (w : va_W) (sz : Nat) (Post : Option Value → va_W → Prop) : Array Value → State → Outcome → State → Prop := fun _ st oc t =>
  (∃ (v : Option Value) (w2 : va_W), oc = .returned v ∧ Post v w2 ∧ va_P E.1 vwCl w2 t.heap ∧ va_D (va_A w sz) w2) ∧ va_F (va_A w sz) st t
/-- a contract -/
def CT (l : Launch) (E : Ev) (y : MethodName) (b : ByteArray) (mL : Nat) (ret : Option FieldType) (rm : Room) (as : List Value) (w : va_W) (Post : Option Value → va_W → Prop) : Prop :=
  ∀ sz : Nat, Met l y (.code y b mL ret :: TBg) rm (va_Pc as (Ent E w sz)) (EndW E w sz Post) rm.cells rm.slots (va_A w sz)
def Cx (p : Program) (s : State) (m : MethodId) (args : Array Value) (meth : Method) (c : Code) (E : Ev) (own : String) (cc : ByteArray) (nL : Nat) (ret : Option FieldType) (ini : Bool) (Xt : State → Prop) (w0 : va_W) : Prop :=
  p.tables.exec = Jvm.exec ∧ c.code = cc ∧ c.maxLocals = nL ∧ s.vm.findClass own = some m.cls ∧ (∀ w ∈ TBg, w.before args s = true) ∧ meth.sig.returnType = ret ∧ meth.locks = false ∧ EK E s ∧ ES E (va_A w0 s.heap.size) s s.heap ∧ (ini = true → meth.name = "<init>") ∧ Xt s
abbrev Qe : Type := List Frame → Array Value → State → State → Prop
def WF (l : Launch) (E : Ev) (own : String) (cc : ByteArray) (nL : Nat) (ret : Option FieldType) (rm : Room) (ini : Bool) (Xt : State → Prop) (QQ : Qe) (w0 : va_W) (ce sl pc : Nat) (lv : List (Nat × Value)) (st : List Value) (w : va_W) : Prop :=
  ∀ (p : Program) (e : Env) (s : State) (m : MethodId) (args : Array Value) (below : List Frame) (meth : Method) (c : Code) (H : Heap) (locs : List Loc) (ls : Array Slot),
    Cx p s m args meth c E own cc nL ret ini Xt w0 → lv_has ls nL lv → va_P E.1 vwCl w H → va_D (va_A w0 s.heap.size) w → va_S (va_A w0 s.heap.size) s.heap H locs →
    W p l e rm s m args below meth c H locs ce sl (QQ below args s) (F0 m pc ls st)
def QM (E : Ev) (w0 : va_W) (Post : Option Value → va_W → Prop) (rm : Room) : Qe := fun below args s => MQ below (EndW E w0 s.heap.size Post) args s rm.cells rm.slots (va_A w0 s.heap.size)
section WFS
variable {l : Launch} {E : Ev} {own : String} {cc : ByteArray} {nL : Nat} {ret : Option FieldType} {rm : Room} {ini : Bool} {Xt : State → Prop} {QQ : Qe} {w0 : va_W} {ce sl pc : Nat} {lv lv' : List (Nat × Value)} {st : List Value} {w : va_W}
/-- a contract out of the walk of the method's body -/
theorem CT.of {y : MethodName} {as : List Value} {Post : Option Value → va_W → Prop} (ini : Bool) (hy : plainName y.cls = true) (hin : ini = true → y.name = "<init>") (hl : (lg_sl as).length ≤ nL) (hlv : lv_args 0 as = lv)
    (body : WF l E y.cls cc nL ret rm ini (fun _ => True) (QM E w Post rm) w 0 0 0 lv [] w) : CT l E y cc nL ret rm as w Post := by
  intro sz
  refine Met.ofW (cc := cc) (maxL := nL) (ret := ret) hy rfl ?_
  intro p e s m args below meth c s₁ B hml hv
  obtain ⟨rfl, hsz, hP, hD0, hEK, hES⟩ := hv
  have hts := atoms_spec (ws := .code y cc nL ret :: TBg) B.pre
  subst hsz
  rw [lg_entry_eq]
  refine body p e s m _ below meth c s.heap [] _ ⟨B.exec, B.bytes, hml, findClass_of_methodNamed B.named, fun w hw => hts w (List.mem_cons_of_mem _ hw), B.returns, B.notSynchronized, hEK, hES, fun h => ?_, trivial⟩ ?_ hP hD0.self va_S.rf
  · rw [(name_of_methodNamed B.named B.method).1]; exact hin h
  · rw [← hlv]; exact lv_entry as hl
theorem wf_world (w' : va_W) (h : w = w') (k : WF l E own cc nL ret rm ini Xt QQ w0 ce sl pc lv st w') : WF l E own cc nL ret rm ini Xt QQ w0 ce sl pc lv st w := h ▸ k
theorem wf_st (st' : List Value) (h : st = st') (k : WF l E own cc nL ret rm ini Xt QQ w0 ce sl pc lv st' w) : WF l E own cc nL ret rm ini Xt QQ w0 ce sl pc lv st w := h ▸ k
theorem wf_sub (ks : List Nat) (h : lv_pick lv ks = lv') (k : WF l E own cc nL ret rm ini Xt QQ w0 ce sl pc lv' st w) : WF l E own cc nL ret rm ini Xt QQ w0 ce sl pc lv st w :=
  fun p e s m args below meth c H locs ls hC hl hP hD hS => k p e s m args below meth c H locs ls hC (lv_sub hl ks h) hP hD hS
theorem va_D.perm {A : Nat → Prop} {w w' : va_W} (h : w.Perm w') (hD : va_D A w) : va_D A w' := by
  have key : ∀ v : va_W, va_D A v ↔ (v.Pairwise (fun p q => p.1 ≠ q.1) ∧ ∀ q ∈ v, A q.1) := by
    intro v
    constructor
    · intro h
      refine ⟨List.pairwise_iff_getElem.mpr (fun i j hi hj hij e => ?_), fun q hq => ?_⟩
      · have := h.1 i j v[i] v[j] (List.getElem?_eq_getElem hi) (List.getElem?_eq_getElem hj) e
        omega
      · obtain ⟨k, hk⟩ := List.getElem?_of_mem hq
        exact h.2 k q hk
    · intro h
      refine ⟨fun i j p q hi hj e => ?_, fun k q hk => h.2 q (List.mem_of_getElem? hk)⟩
      obtain ⟨hi1, hi2⟩ := List.getElem?_eq_some_iff.mp hi
      obtain ⟨hj1, hj2⟩ := List.getElem?_eq_some_iff.mp hj
      have hp := List.pairwise_iff_getElem.mp h.1
      rcases Nat.lt_trichotomy i j with h1 | h1 | h1
      · exact absurd (by rw [hi2, hj2]; exact e) (hp i j hi1 hj1 h1)
      · exact h1
      · exact absurd (by rw [hi2, hj2]; exact e.symm) (hp j i hj1 hi1 h1)
  rw [key] at hD ⊢
  exact ⟨(h.pairwise_iff (fun {a b} (h : a.1 ≠ b.1) => h.symm)).mp hD.1, fun q hq => hD.2 q (h.mem_iff.mpr hq)⟩
theorem va_P.perm {D : va_G} {cl : List vw_C} {w w' : va_W} {H : Heap} (h : w.Perm w') (hP : va_P D cl w H) : va_P D cl w' H := by
  intro k q hk
  obtain ⟨j, hj⟩ := List.getElem?_of_mem (h.mem_iff.mpr (List.mem_of_getElem? hk))
  exact hP j q hj
theorem wf_perm {w' : va_W} (h : w.Perm w') (k : WF l E own cc nL ret rm ini Xt QQ w0 ce sl pc lv st w') : WF l E own cc nL ret rm ini Xt QQ w0 ce sl pc lv st w :=
  fun p e s m args below meth c H locs ls hC hl hP hD hS => k p e s m args below meth c H locs ls hC hl (hP.perm h) (hD.perm h) hS
/-- the same cells in other words: equal addresses, equal cells -/
theorem wf_cells {w' : va_W} (ha : w.map (·.1) = w'.map (·.1)) (hc : ∀ (D : va_G) (H : Heap), va_P D vwCl w H → va_P D vwCl w' H) (k : WF l E own cc nL ret rm ini Xt QQ w0 ce sl pc lv st w') : WF l E own cc nL ret rm ini Xt QQ w0 ce sl pc lv st w := by
  intro p e s m args below meth c H locs ls hC hl hP hD hS
  refine k p e s m args below meth c H locs ls hC hl (hc _ _ hP) ?_ hS
  have key : ∀ (i : Nat) (q : Nat × va_E), w'[i]? = some q → ∃ q', w[i]? = some q' ∧ q'.1 = q.1 := by
    intro i q hq
    have h1 : (w'.map (·.1))[i]? = some q.1 := by rw [List.getElem?_map, hq]; rfl
    rw [← ha, List.getElem?_map] at h1
    cases h2 : w[i]? with
    | none => rw [h2] at h1; cases h1
    | some q' => rw [h2] at h1; exact ⟨q', rfl, Option.some.inj h1⟩
  refine ⟨fun i j x y hi hj e => ?_, fun i q hi => ?_⟩
  · obtain ⟨x', h1, h2⟩ := key i x hi
    obtain ⟨y', h3, h4⟩ := key j y hj
    exact hD.1 i j x' y' h1 h3 (by rw [h2, h4]; exact e)
  · obtain ⟨x', h1, h2⟩ := key i q hi
    rw [← h2]; exact hD.2 i x' h1
theorem wf_widen (ce' sl' : Nat) (h1 : ce ≤ ce') (h2 : sl ≤ sl') (h3 : ce' ≤ rm.cells) (h4 : sl' ≤ rm.slots) (k : WF l E own cc nL ret rm ini Xt QQ w0 ce' sl' pc lv st w) : WF l E own cc nL ret rm ini Xt QQ w0 ce sl pc lv st w :=
  fun p e s m args below meth c H locs ls hC hl hP hD hS => W.widen h1 h2 (k p e s m args below meth c H locs ls hC hl hP hD hS)

theorem wf_iconst {n : Int} (v : Int32) (d : decode cc pc = .ok (.iconst n, 1)) (hv : Int32.ofInt n = v) (k : WF l E own cc nL ret rm ini Xt QQ w0 ce sl (pc + 1) lv (.int v :: st) w) : WF l E own cc nL ret rm ini Xt QQ w0 ce sl pc lv (st) w := by
  intro p e s m args below meth c H locs ls hC hl hP hD hS
  obtain ⟨hx, hb, hml, hown, hts, hr, hlk, hEK, hES, hin, hXt⟩ := id hC
  exact lv_iconst hx hb (v := v) d hv (k p e s m args below meth c H locs ls hC hl hP hD hS)
theorem wf_bipush {n : Int} (v : Int32) (d : decode cc pc = .ok (.bipush n, 2)) (hv : (Int8.ofInt n).toInt32 = v) (k : WF l E own cc nL ret rm ini Xt QQ w0 ce sl (pc + 2) lv (.int v :: st) w) : WF l E own cc nL ret rm ini Xt QQ w0 ce sl pc lv (st) w := by
  intro p e s m args below meth c H locs ls hC hl hP hD hS
  obtain ⟨hx, hb, hml, hown, hts, hr, hlk, hEK, hES, hin, hXt⟩ := id hC
  exact lv_bipush hx hb (v := v) d hv (k p e s m args below meth c H locs ls hC hl hP hD hS)
theorem wf_sipush {n : Int} (v : Int32) (d : decode cc pc = .ok (.sipush n, 3)) (hv : (Int16.ofInt n).toInt32 = v) (k : WF l E own cc nL ret rm ini Xt QQ w0 ce sl (pc + 3) lv (.int v :: st) w) : WF l E own cc nL ret rm ini Xt QQ w0 ce sl pc lv (st) w := by
  intro p e s m args below meth c H locs ls hC hl hP hD hS
  obtain ⟨hx, hb, hml, hown, hts, hr, hlk, hEK, hES, hin, hXt⟩ := id hC
  exact lv_sipush hx hb (v := v) d hv (k p e s m args below meth c H locs ls hC hl hP hD hS)
theorem wf_ldc {i : Nat} {v : Int32} (hk : Cond.constant own i v ∈ TBg) (d : decode cc pc = .ok (.ldc i, 2)) (k : WF l E own cc nL ret rm ini Xt QQ w0 ce sl (pc + 2) lv (.int v :: st) w) : WF l E own cc nL ret rm ini Xt QQ w0 ce sl pc lv (st) w := by
  intro p e s m args below meth c H locs ls hC hl hP hD hS
  obtain ⟨hx, hb, hml, hown, hts, hr, hlk, hEK, hES, hin, hXt⟩ := id hC
  exact lv_ldc hx hb hown (hts _ hk) d (k p e s m args below meth c H locs ls hC hl hP hD hS)
theorem wf_ldcw {i : Nat} {v : Int32} (hk : Cond.constant own i v ∈ TBg) (d : decode cc pc = .ok (.ldc_w i, 3)) (k : WF l E own cc nL ret rm ini Xt QQ w0 ce sl (pc + 3) lv (.int v :: st) w) : WF l E own cc nL ret rm ini Xt QQ w0 ce sl pc lv (st) w := by
  intro p e s m args below meth c H locs ls hC hl hP hD hS
  obtain ⟨hx, hb, hml, hown, hts, hr, hlk, hEK, hES, hin, hXt⟩ := id hC
  exact lv_ldcw hx hb hown (hts _ hk) d (k p e s m args below meth c H locs ls hC hl hP hD hS)
theorem wf_iload_n {i : Fin 4} {x : Int32} (j : Nat) (d : decode cc pc = .ok (.iload_n i, 1)) (h : lv[j]? = some ((i : Nat), .int x)) (k : WF l E own cc nL ret rm ini Xt QQ w0 ce sl (pc + 1) lv (.int x :: st) w) : WF l E own cc nL ret rm ini Xt QQ w0 ce sl pc lv (st) w := by
  intro p e s m args below meth c H locs ls hC hl hP hD hS
  obtain ⟨hx, hb, hml, hown, hts, hr, hlk, hEK, hES, hin, hXt⟩ := id hC
  exact lv_iload_n hx hb d rfl (lv_at hl j h) (k p e s m args below meth c H locs ls hC hl hP hD hS)
theorem wf_iload {i : Nat} {x : Int32} (j : Nat) (d : decode cc pc = .ok (.iload i, 2)) (h : lv[j]? = some (i, .int x)) (k : WF l E own cc nL ret rm ini Xt QQ w0 ce sl (pc + 2) lv (.int x :: st) w) : WF l E own cc nL ret rm ini Xt QQ w0 ce sl pc lv (st) w := by
  intro p e s m args below meth c H locs ls hC hl hP hD hS
  obtain ⟨hx, hb, hml, hown, hts, hr, hlk, hEK, hES, hin, hXt⟩ := id hC
  exact lv_iload hx hb d (lv_at hl j h) (k p e s m args below meth c H locs ls hC hl hP hD hS)
theorem wf_aload_n {i : Fin 4} {x : Nat} (j : Nat) (d : decode cc pc = .ok (.aload_n i, 1)) (h : lv[j]? = some ((i : Nat), .ref x)) (k : WF l E own cc nL ret rm ini Xt QQ w0 ce sl (pc + 1) lv (.ref x :: st) w) : WF l E own cc nL ret rm ini Xt QQ w0 ce sl pc lv (st) w := by
  intro p e s m args below meth c H locs ls hC hl hP hD hS
  obtain ⟨hx, hb, hml, hown, hts, hr, hlk, hEK, hES, hin, hXt⟩ := id hC
  exact lv_aload_n hx hb d rfl (lv_at hl j h) (k p e s m args below meth c H locs ls hC hl hP hD hS)
theorem wf_aload {i : Nat} {x : Nat} (j : Nat) (d : decode cc pc = .ok (.aload i, 2)) (h : lv[j]? = some (i, .ref x)) (k : WF l E own cc nL ret rm ini Xt QQ w0 ce sl (pc + 2) lv (.ref x :: st) w) : WF l E own cc nL ret rm ini Xt QQ w0 ce sl pc lv (st) w := by
  intro p e s m args below meth c H locs ls hC hl hP hD hS
  obtain ⟨hx, hb, hml, hown, hts, hr, hlk, hEK, hES, hin, hXt⟩ := id hC
  exact lv_aload hx hb d (lv_at hl j h) (k p e s m args below meth c H locs ls hC hl hP hD hS)
theorem wf_istore_n {f : Fin 4} {i : Nat} {x : Int32} (lv' : List (Nat × Value)) (d : decode cc pc = .ok (.istore_n f, 1)) (hi : (f : Nat) = i) (hn : i < nL) (h : (i, Value.int x) :: lv.filter (fun q => !(q.1 == i) && !(q.1 + 1 == i && q.2.category == 2)) = lv') (k : WF l E own cc nL ret rm ini Xt QQ w0 ce sl (pc + 1) lv' st w) : WF l E own cc nL ret rm ini Xt QQ w0 ce sl pc lv (.int x :: st) w := by
  intro p e s m args below meth c H locs ls hC hl hP hD hS
  obtain ⟨hx, hb, hml, hown, hts, hr, hlk, hEK, hES, hin, hXt⟩ := id hC
  exact lv_istore_n hx hb d hi hl hn h (fun ls hl => k p e s m args below meth c H locs ls hC hl hP hD hS)
theorem wf_istore {i : Nat} {x : Int32} (lv' : List (Nat × Value)) (d : decode cc pc = .ok (.istore i, 2)) (hn : i < nL) (h : (i, Value.int x) :: lv.filter (fun q => !(q.1 == i) && !(q.1 + 1 == i && q.2.category == 2)) = lv') (k : WF l E own cc nL ret rm ini Xt QQ w0 ce sl (pc + 2) lv' st w) : WF l E own cc nL ret rm ini Xt QQ w0 ce sl pc lv (.int x :: st) w := by
  intro p e s m args below meth c H locs ls hC hl hP hD hS
  obtain ⟨hx, hb, hml, hown, hts, hr, hlk, hEK, hES, hin, hXt⟩ := id hC
  exact lv_istore hx hb d hl hn h (fun ls hl => k p e s m args below meth c H locs ls hC hl hP hD hS)
theorem wf_astore_n {f : Fin 4} {i : Nat} {x : Nat} (lv' : List (Nat × Value)) (d : decode cc pc = .ok (.astore_n f, 1)) (hi : (f : Nat) = i) (hn : i < nL) (h : (i, Value.ref x) :: lv.filter (fun q => !(q.1 == i) && !(q.1 + 1 == i && q.2.category == 2)) = lv') (k : WF l E own cc nL ret rm ini Xt QQ w0 ce sl (pc + 1) lv' st w) : WF l E own cc nL ret rm ini Xt QQ w0 ce sl pc lv (.ref x :: st) w := by
  intro p e s m args below meth c H locs ls hC hl hP hD hS
  obtain ⟨hx, hb, hml, hown, hts, hr, hlk, hEK, hES, hin, hXt⟩ := id hC
  exact lv_astore_n hx hb d hi hl hn h (fun ls hl => k p e s m args below meth c H locs ls hC hl hP hD hS)
theorem wf_astore {i : Nat} {x : Nat} (lv' : List (Nat × Value)) (d : decode cc pc = .ok (.astore i, 2)) (hn : i < nL) (h : (i, Value.ref x) :: lv.filter (fun q => !(q.1 == i) && !(q.1 + 1 == i && q.2.category == 2)) = lv') (k : WF l E own cc nL ret rm ini Xt QQ w0 ce sl (pc + 2) lv' st w) : WF l E own cc nL ret rm ini Xt QQ w0 ce sl pc lv (.ref x :: st) w := by
  intro p e s m args below meth c H locs ls hC hl hP hD hS
  obtain ⟨hx, hb, hml, hown, hts, hr, hlk, hEK, hES, hin, hXt⟩ := id hC
  exact lv_astore hx hb d hl hn h (fun ls hl => k p e s m args below meth c H locs ls hC hl hP hD hS)
theorem wf_iinc {i : Nat} {n : Int} {x : Int32} (v : Int32) (j : Nat) (lv' : List (Nat × Value)) (d : decode cc pc = .ok (.iinc i n, 3)) (hj : lv[j]? = some (i, .int x)) (hv : x + Int32.ofInt n = v) (hn : i < nL) (h : (i, Value.int v) :: lv.filter (fun q => !(q.1 == i) && !(q.1 + 1 == i && q.2.category == 2)) = lv') (k : WF l E own cc nL ret rm ini Xt QQ w0 ce sl (pc + 3) lv' st w) : WF l E own cc nL ret rm ini Xt QQ w0 ce sl pc lv st w := by
  intro p e s m args below meth c H locs ls hC hl hP hD hS
  obtain ⟨hx, hb, hml, hown, hts, hr, hlk, hEK, hES, hin, hXt⟩ := id hC
  exact lv_iinc hx hb d hl hj hv hn h (fun ls hl => k p e s m args below meth c H locs ls hC hl hP hD hS)
theorem wf_iadd {x y : Int32} (v : Int32) (d : decode cc pc = .ok (.iadd, 1)) (hv : x + y = v) (k : WF l E own cc nL ret rm ini Xt QQ w0 ce sl (pc + 1) lv (.int v :: st) w) : WF l E own cc nL ret rm ini Xt QQ w0 ce sl pc lv (.int y :: .int x :: st) w := by
  intro p e s m args below meth c H locs ls hC hl hP hD hS
  obtain ⟨hx, hb, hml, hown, hts, hr, hlk, hEK, hES, hin, hXt⟩ := id hC
  subst hv
  exact lv_iadd hx hb d (k p e s m args below meth c H locs ls hC hl hP hD hS)
theorem wf_isub {x y : Int32} (v : Int32) (d : decode cc pc = .ok (.isub, 1)) (hv : x - y = v) (k : WF l E own cc nL ret rm ini Xt QQ w0 ce sl (pc + 1) lv (.int v :: st) w) : WF l E own cc nL ret rm ini Xt QQ w0 ce sl pc lv (.int y :: .int x :: st) w := by
  intro p e s m args below meth c H locs ls hC hl hP hD hS
  obtain ⟨hx, hb, hml, hown, hts, hr, hlk, hEK, hES, hin, hXt⟩ := id hC
  subst hv
  exact lv_isub hx hb d (k p e s m args below meth c H locs ls hC hl hP hD hS)
theorem wf_imul {x y : Int32} (v : Int32) (d : decode cc pc = .ok (.imul, 1)) (hv : x * y = v) (k : WF l E own cc nL ret rm ini Xt QQ w0 ce sl (pc + 1) lv (.int v :: st) w) : WF l E own cc nL ret rm ini Xt QQ w0 ce sl pc lv (.int y :: .int x :: st) w := by
  intro p e s m args below meth c H locs ls hC hl hP hD hS
  obtain ⟨hx, hb, hml, hown, hts, hr, hlk, hEK, hES, hin, hXt⟩ := id hC
  subst hv
  exact lv_imul hx hb d (k p e s m args below meth c H locs ls hC hl hP hD hS)
theorem wf_iand {x y : Int32} (v : Int32) (d : decode cc pc = .ok (.iand, 1)) (hv : x &&& y = v) (k : WF l E own cc nL ret rm ini Xt QQ w0 ce sl (pc + 1) lv (.int v :: st) w) : WF l E own cc nL ret rm ini Xt QQ w0 ce sl pc lv (.int y :: .int x :: st) w := by
  intro p e s m args below meth c H locs ls hC hl hP hD hS
  obtain ⟨hx, hb, hml, hown, hts, hr, hlk, hEK, hES, hin, hXt⟩ := id hC
  subst hv
  exact lv_iand hx hb d (k p e s m args below meth c H locs ls hC hl hP hD hS)
theorem wf_ior {x y : Int32} (v : Int32) (d : decode cc pc = .ok (.ior, 1)) (hv : x ||| y = v) (k : WF l E own cc nL ret rm ini Xt QQ w0 ce sl (pc + 1) lv (.int v :: st) w) : WF l E own cc nL ret rm ini Xt QQ w0 ce sl pc lv (.int y :: .int x :: st) w := by
  intro p e s m args below meth c H locs ls hC hl hP hD hS
  obtain ⟨hx, hb, hml, hown, hts, hr, hlk, hEK, hES, hin, hXt⟩ := id hC
  subst hv
  exact lv_ior hx hb d (k p e s m args below meth c H locs ls hC hl hP hD hS)
theorem wf_ixor {x y : Int32} (v : Int32) (d : decode cc pc = .ok (.ixor, 1)) (hv : x ^^^ y = v) (k : WF l E own cc nL ret rm ini Xt QQ w0 ce sl (pc + 1) lv (.int v :: st) w) : WF l E own cc nL ret rm ini Xt QQ w0 ce sl pc lv (.int y :: .int x :: st) w := by
  intro p e s m args below meth c H locs ls hC hl hP hD hS
  obtain ⟨hx, hb, hml, hown, hts, hr, hlk, hEK, hES, hin, hXt⟩ := id hC
  subst hv
  exact lv_ixor hx hb d (k p e s m args below meth c H locs ls hC hl hP hD hS)
theorem wf_ishl {x y : Int32} (v : Int32) (d : decode cc pc = .ok (.ishl, 1)) (hv : x <<< (y &&& 31) = v) (k : WF l E own cc nL ret rm ini Xt QQ w0 ce sl (pc + 1) lv (.int v :: st) w) : WF l E own cc nL ret rm ini Xt QQ w0 ce sl pc lv (.int y :: .int x :: st) w := by
  intro p e s m args below meth c H locs ls hC hl hP hD hS
  obtain ⟨hx, hb, hml, hown, hts, hr, hlk, hEK, hES, hin, hXt⟩ := id hC
  subst hv
  exact lv_ishl hx hb d (k p e s m args below meth c H locs ls hC hl hP hD hS)
theorem wf_ishr {x y : Int32} (v : Int32) (d : decode cc pc = .ok (.ishr, 1)) (hv : x >>> (y &&& 31) = v) (k : WF l E own cc nL ret rm ini Xt QQ w0 ce sl (pc + 1) lv (.int v :: st) w) : WF l E own cc nL ret rm ini Xt QQ w0 ce sl pc lv (.int y :: .int x :: st) w := by
  intro p e s m args below meth c H locs ls hC hl hP hD hS
  obtain ⟨hx, hb, hml, hown, hts, hr, hlk, hEK, hES, hin, hXt⟩ := id hC
  subst hv
  exact lv_ishr hx hb d (k p e s m args below meth c H locs ls hC hl hP hD hS)
theorem wf_idiv {x y : Int32} (v : Int32) (d : decode cc pc = .ok (.idiv, 1)) (hy : ¬ y = 0) (hv : x / y = v) (k : WF l E own cc nL ret rm ini Xt QQ w0 ce sl (pc + 1) lv (.int v :: st) w) : WF l E own cc nL ret rm ini Xt QQ w0 ce sl pc lv (.int y :: .int x :: st) w := by
  intro p e s m args below meth c H locs ls hC hl hP hD hS
  obtain ⟨hx, hb, hml, hown, hts, hr, hlk, hEK, hES, hin, hXt⟩ := id hC
  subst hv
  exact lv_idiv hx hb d hy (k p e s m args below meth c H locs ls hC hl hP hD hS)
theorem wf_irem {x y : Int32} (v : Int32) (d : decode cc pc = .ok (.irem, 1)) (hy : ¬ y = 0) (hv : x - x / y * y = v) (k : WF l E own cc nL ret rm ini Xt QQ w0 ce sl (pc + 1) lv (.int v :: st) w) : WF l E own cc nL ret rm ini Xt QQ w0 ce sl pc lv (.int y :: .int x :: st) w := by
  intro p e s m args below meth c H locs ls hC hl hP hD hS
  obtain ⟨hx, hb, hml, hown, hts, hr, hlk, hEK, hES, hin, hXt⟩ := id hC
  subst hv
  exact lv_irem hx hb d hy (k p e s m args below meth c H locs ls hC hl hP hD hS)
theorem wf_ineg {x : Int32} (v : Int32) (d : decode cc pc = .ok (.ineg, 1)) (hv : -x = v) (k : WF l E own cc nL ret rm ini Xt QQ w0 ce sl (pc + 1) lv (.int v :: st) w) : WF l E own cc nL ret rm ini Xt QQ w0 ce sl pc lv (.int x :: st) w := by
  intro p e s m args below meth c H locs ls hC hl hP hD hS
  obtain ⟨hx, hb, hml, hown, hts, hr, hlk, hEK, hES, hin, hXt⟩ := id hC
  subst hv
  exact lv_ineg hx hb d (k p e s m args below meth c H locs ls hC hl hP hD hS)
theorem wf_iushr {x y : Int32} (v : Int32) (d : decode cc pc = .ok (.iushr, 1)) (hv : (x.toUInt32 >>> (y.toUInt32 &&& Int32.toUInt32 31)).toInt32 = v) (k : WF l E own cc nL ret rm ini Xt QQ w0 ce sl (pc + 1) lv (.int v :: st) w) : WF l E own cc nL ret rm ini Xt QQ w0 ce sl pc lv (.int y :: .int x :: st) w := by
  intro p e s m args below meth c H locs ls hC hl hP hD hS
  obtain ⟨hx, hb, hml, hown, hts, hr, hlk, hEK, hES, hin, hXt⟩ := id hC
  exact lv_iushr hx hb d hv (k p e s m args below meth c H locs ls hC hl hP hD hS)
theorem wf_i2c {x : Int32} (v : Int32) (d : decode cc pc = .ok (.i2c, 1)) (hv : (x.toUInt32 % 65536).toInt32 = v) (k : WF l E own cc nL ret rm ini Xt QQ w0 ce sl (pc + 1) lv (.int v :: st) w) : WF l E own cc nL ret rm ini Xt QQ w0 ce sl pc lv (.int x :: st) w := by
  intro p e s m args below meth c H locs ls hC hl hP hD hS
  obtain ⟨hx, hb, hml, hown, hts, hr, hlk, hEK, hES, hin, hXt⟩ := id hC
  exact lv_i2c hx hb d hv (k p e s m args below meth c H locs ls hC hl hP hD hS)
theorem wf_i2b {x : Int32} (v : Int32) (d : decode cc pc = .ok (.i2b, 1)) (hv : x.toInt8.toInt32 = v) (k : WF l E own cc nL ret rm ini Xt QQ w0 ce sl (pc + 1) lv (.int v :: st) w) : WF l E own cc nL ret rm ini Xt QQ w0 ce sl pc lv (.int x :: st) w := by
  intro p e s m args below meth c H locs ls hC hl hP hD hS
  obtain ⟨hx, hb, hml, hown, hts, hr, hlk, hEK, hES, hin, hXt⟩ := id hC
  exact lv_i2b hx hb d hv (k p e s m args below meth c H locs ls hC hl hP hD hS)
theorem wf_dup {va : Value} (d : decode cc pc = .ok (.dup, 1)) (hva : va.category = 1) (k : WF l E own cc nL ret rm ini Xt QQ w0 ce sl (pc + 1) lv (va :: va :: st) w) : WF l E own cc nL ret rm ini Xt QQ w0 ce sl pc lv (va :: st) w := by
  intro p e s m args below meth c H locs ls hC hl hP hD hS
  obtain ⟨hx, hb, hml, hown, hts, hr, hlk, hEK, hES, hin, hXt⟩ := id hC
  exact lv_dup hx hb d hva (k p e s m args below meth c H locs ls hC hl hP hD hS)
theorem wf_pop {va : Value} (d : decode cc pc = .ok (.pop, 1)) (hva : va.category = 1) (k : WF l E own cc nL ret rm ini Xt QQ w0 ce sl (pc + 1) lv (st) w) : WF l E own cc nL ret rm ini Xt QQ w0 ce sl pc lv (va :: st) w := by
  intro p e s m args below meth c H locs ls hC hl hP hD hS
  obtain ⟨hx, hb, hml, hown, hts, hr, hlk, hEK, hES, hin, hXt⟩ := id hC
  exact lv_pop hx hb d hva (k p e s m args below meth c H locs ls hC hl hP hD hS)
theorem wf_dup_x1 {va vb : Value} (d : decode cc pc = .ok (.dup_x1, 1)) (hva : va.category = 1) (hvb : vb.category = 1) (k : WF l E own cc nL ret rm ini Xt QQ w0 ce sl (pc + 1) lv (va :: vb :: va :: st) w) : WF l E own cc nL ret rm ini Xt QQ w0 ce sl pc lv (va :: vb :: st) w := by
  intro p e s m args below meth c H locs ls hC hl hP hD hS
  obtain ⟨hx, hb, hml, hown, hts, hr, hlk, hEK, hES, hin, hXt⟩ := id hC
  exact lv_dup_x1 hx hb d hva hvb (k p e s m args below meth c H locs ls hC hl hP hD hS)
theorem wf_dup_x2 {va vb vd : Value} (d : decode cc pc = .ok (.dup_x2, 1)) (hva : va.category = 1) (hvb : vb.category = 1) (hvd : vd.category = 1) (k : WF l E own cc nL ret rm ini Xt QQ w0 ce sl (pc + 1) lv (va :: vb :: vd :: va :: st) w) : WF l E own cc nL ret rm ini Xt QQ w0 ce sl pc lv (va :: vb :: vd :: st) w := by
  intro p e s m args below meth c H locs ls hC hl hP hD hS
  obtain ⟨hx, hb, hml, hown, hts, hr, hlk, hEK, hES, hin, hXt⟩ := id hC
  exact lv_dup_x2 hx hb d hva hvb hvd (k p e s m args below meth c H locs ls hC hl hP hD hS)
theorem wf_dup2 {va vb : Value} (d : decode cc pc = .ok (.dup2, 1)) (hva : va.category = 1) (hvb : vb.category = 1) (k : WF l E own cc nL ret rm ini Xt QQ w0 ce sl (pc + 1) lv (va :: vb :: va :: vb :: st) w) : WF l E own cc nL ret rm ini Xt QQ w0 ce sl pc lv (va :: vb :: st) w := by
  intro p e s m args below meth c H locs ls hC hl hP hD hS
  obtain ⟨hx, hb, hml, hown, hts, hr, hlk, hEK, hES, hin, hXt⟩ := id hC
  exact lv_dup2_11 hx hb d hva hvb (k p e s m args below meth c H locs ls hC hl hP hD hS)
theorem wf_goto {off : Int} (tgt : Nat) (d : decode cc pc = .ok (.goto off, 3)) (ht : (pc : Int) + off = (tgt : Int)) (k : WF l E own cc nL ret rm ini Xt QQ w0 ce sl tgt lv (st) w) : WF l E own cc nL ret rm ini Xt QQ w0 ce sl pc lv (st) w := by
  intro p e s m args below meth c H locs ls hC hl hP hD hS
  obtain ⟨hx, hb, hml, hown, hts, hr, hlk, hEK, hES, hin, hXt⟩ := id hC
  exact lv_goto hx hb d ht (k p e s m args below meth c H locs ls hC hl hP hD hS)
theorem wf_icmp_eq {x y : Int32} {off : Int} (tgt : Nat) (d : decode cc pc = .ok (.if_icmp .eq off, 3)) (ht : (pc : Int) + off = (tgt : Int)) (kt : x = y → WF l E own cc nL ret rm ini Xt QQ w0 ce sl tgt lv st w) (kf : ¬ (x = y) → WF l E own cc nL ret rm ini Xt QQ w0 ce sl (pc + 3) lv st w) : WF l E own cc nL ret rm ini Xt QQ w0 ce sl pc lv (.int y :: .int x :: st) w := by
  intro p e s m args below meth c H locs ls hC hl hP hD hS
  obtain ⟨hx, hb, hml, hown, hts, hr, hlk, hEK, hES, hin, hXt⟩ := id hC
  exact lv_icmp_eq hx hb d ht (fun h => kt h p e s m args below meth c H locs ls hC hl hP hD hS) (fun h => kf h p e s m args below meth c H locs ls hC hl hP hD hS)
theorem wf_if_eq {x : Int32} {off : Int} (tgt : Nat) (d : decode cc pc = .ok (.ifCond .eq off, 3)) (ht : (pc : Int) + off = (tgt : Int)) (kt : x = 0 → WF l E own cc nL ret rm ini Xt QQ w0 ce sl tgt lv st w) (kf : ¬ (x = 0) → WF l E own cc nL ret rm ini Xt QQ w0 ce sl (pc + 3) lv st w) : WF l E own cc nL ret rm ini Xt QQ w0 ce sl pc lv (.int x :: st) w := by
  intro p e s m args below meth c H locs ls hC hl hP hD hS
  obtain ⟨hx, hb, hml, hown, hts, hr, hlk, hEK, hES, hin, hXt⟩ := id hC
  exact lv_if_eq hx hb d ht (fun h => kt h p e s m args below meth c H locs ls hC hl hP hD hS) (fun h => kf h p e s m args below meth c H locs ls hC hl hP hD hS)
theorem wf_icmp_ne {x y : Int32} {off : Int} (tgt : Nat) (d : decode cc pc = .ok (.if_icmp .ne off, 3)) (ht : (pc : Int) + off = (tgt : Int)) (kt : x ≠ y → WF l E own cc nL ret rm ini Xt QQ w0 ce sl tgt lv st w) (kf : x = y → WF l E own cc nL ret rm ini Xt QQ w0 ce sl (pc + 3) lv st w) : WF l E own cc nL ret rm ini Xt QQ w0 ce sl pc lv (.int y :: .int x :: st) w := by
  intro p e s m args below meth c H locs ls hC hl hP hD hS
  obtain ⟨hx, hb, hml, hown, hts, hr, hlk, hEK, hES, hin, hXt⟩ := id hC
  exact lv_icmp_ne hx hb d ht (fun h => kt h p e s m args below meth c H locs ls hC hl hP hD hS) (fun h => kf h p e s m args below meth c H locs ls hC hl hP hD hS)
theorem wf_if_ne {x : Int32} {off : Int} (tgt : Nat) (d : decode cc pc = .ok (.ifCond .ne off, 3)) (ht : (pc : Int) + off = (tgt : Int)) (kt : x ≠ 0 → WF l E own cc nL ret rm ini Xt QQ w0 ce sl tgt lv st w) (kf : x = 0 → WF l E own cc nL ret rm ini Xt QQ w0 ce sl (pc + 3) lv st w) : WF l E own cc nL ret rm ini Xt QQ w0 ce sl pc lv (.int x :: st) w := by
  intro p e s m args below meth c H locs ls hC hl hP hD hS
  obtain ⟨hx, hb, hml, hown, hts, hr, hlk, hEK, hES, hin, hXt⟩ := id hC
  exact lv_if_ne hx hb d ht (fun h => kt h p e s m args below meth c H locs ls hC hl hP hD hS) (fun h => kf h p e s m args below meth c H locs ls hC hl hP hD hS)
theorem wf_icmp_lt {x y : Int32} {off : Int} (tgt : Nat) (d : decode cc pc = .ok (.if_icmp .lt off, 3)) (ht : (pc : Int) + off = (tgt : Int)) (kt : x < y → WF l E own cc nL ret rm ini Xt QQ w0 ce sl tgt lv st w) (kf : ¬ (x < y) → WF l E own cc nL ret rm ini Xt QQ w0 ce sl (pc + 3) lv st w) : WF l E own cc nL ret rm ini Xt QQ w0 ce sl pc lv (.int y :: .int x :: st) w := by
  intro p e s m args below meth c H locs ls hC hl hP hD hS
  obtain ⟨hx, hb, hml, hown, hts, hr, hlk, hEK, hES, hin, hXt⟩ := id hC
  exact lv_icmp_lt hx hb d ht (fun h => kt h p e s m args below meth c H locs ls hC hl hP hD hS) (fun h => kf h p e s m args below meth c H locs ls hC hl hP hD hS)
theorem wf_if_lt {x : Int32} {off : Int} (tgt : Nat) (d : decode cc pc = .ok (.ifCond .lt off, 3)) (ht : (pc : Int) + off = (tgt : Int)) (kt : x < 0 → WF l E own cc nL ret rm ini Xt QQ w0 ce sl tgt lv st w) (kf : ¬ (x < 0) → WF l E own cc nL ret rm ini Xt QQ w0 ce sl (pc + 3) lv st w) : WF l E own cc nL ret rm ini Xt QQ w0 ce sl pc lv (.int x :: st) w := by
  intro p e s m args below meth c H locs ls hC hl hP hD hS
  obtain ⟨hx, hb, hml, hown, hts, hr, hlk, hEK, hES, hin, hXt⟩ := id hC
  exact lv_if_lt hx hb d ht (fun h => kt h p e s m args below meth c H locs ls hC hl hP hD hS) (fun h => kf h p e s m args below meth c H locs ls hC hl hP hD hS)
theorem wf_icmp_ge {x y : Int32} {off : Int} (tgt : Nat) (d : decode cc pc = .ok (.if_icmp .ge off, 3)) (ht : (pc : Int) + off = (tgt : Int)) (kt : y ≤ x → WF l E own cc nL ret rm ini Xt QQ w0 ce sl tgt lv st w) (kf : ¬ (y ≤ x) → WF l E own cc nL ret rm ini Xt QQ w0 ce sl (pc + 3) lv st w) : WF l E own cc nL ret rm ini Xt QQ w0 ce sl pc lv (.int y :: .int x :: st) w := by
  intro p e s m args below meth c H locs ls hC hl hP hD hS
  obtain ⟨hx, hb, hml, hown, hts, hr, hlk, hEK, hES, hin, hXt⟩ := id hC
  exact lv_icmp_ge hx hb d ht (fun h => kt h p e s m args below meth c H locs ls hC hl hP hD hS) (fun h => kf h p e s m args below meth c H locs ls hC hl hP hD hS)
theorem wf_if_ge {x : Int32} {off : Int} (tgt : Nat) (d : decode cc pc = .ok (.ifCond .ge off, 3)) (ht : (pc : Int) + off = (tgt : Int)) (kt : 0 ≤ x → WF l E own cc nL ret rm ini Xt QQ w0 ce sl tgt lv st w) (kf : ¬ (0 ≤ x) → WF l E own cc nL ret rm ini Xt QQ w0 ce sl (pc + 3) lv st w) : WF l E own cc nL ret rm ini Xt QQ w0 ce sl pc lv (.int x :: st) w := by
  intro p e s m args below meth c H locs ls hC hl hP hD hS
  obtain ⟨hx, hb, hml, hown, hts, hr, hlk, hEK, hES, hin, hXt⟩ := id hC
  exact lv_if_ge hx hb d ht (fun h => kt h p e s m args below meth c H locs ls hC hl hP hD hS) (fun h => kf h p e s m args below meth c H locs ls hC hl hP hD hS)
theorem wf_icmp_gt {x y : Int32} {off : Int} (tgt : Nat) (d : decode cc pc = .ok (.if_icmp .gt off, 3)) (ht : (pc : Int) + off = (tgt : Int)) (kt : y < x → WF l E own cc nL ret rm ini Xt QQ w0 ce sl tgt lv st w) (kf : ¬ (y < x) → WF l E own cc nL ret rm ini Xt QQ w0 ce sl (pc + 3) lv st w) : WF l E own cc nL ret rm ini Xt QQ w0 ce sl pc lv (.int y :: .int x :: st) w := by
  intro p e s m args below meth c H locs ls hC hl hP hD hS
  obtain ⟨hx, hb, hml, hown, hts, hr, hlk, hEK, hES, hin, hXt⟩ := id hC
  exact lv_icmp_gt hx hb d ht (fun h => kt h p e s m args below meth c H locs ls hC hl hP hD hS) (fun h => kf h p e s m args below meth c H locs ls hC hl hP hD hS)
theorem wf_if_gt {x : Int32} {off : Int} (tgt : Nat) (d : decode cc pc = .ok (.ifCond .gt off, 3)) (ht : (pc : Int) + off = (tgt : Int)) (kt : 0 < x → WF l E own cc nL ret rm ini Xt QQ w0 ce sl tgt lv st w) (kf : ¬ (0 < x) → WF l E own cc nL ret rm ini Xt QQ w0 ce sl (pc + 3) lv st w) : WF l E own cc nL ret rm ini Xt QQ w0 ce sl pc lv (.int x :: st) w := by
  intro p e s m args below meth c H locs ls hC hl hP hD hS
  obtain ⟨hx, hb, hml, hown, hts, hr, hlk, hEK, hES, hin, hXt⟩ := id hC
  exact lv_if_gt hx hb d ht (fun h => kt h p e s m args below meth c H locs ls hC hl hP hD hS) (fun h => kf h p e s m args below meth c H locs ls hC hl hP hD hS)
theorem wf_icmp_le {x y : Int32} {off : Int} (tgt : Nat) (d : decode cc pc = .ok (.if_icmp .le off, 3)) (ht : (pc : Int) + off = (tgt : Int)) (kt : x ≤ y → WF l E own cc nL ret rm ini Xt QQ w0 ce sl tgt lv st w) (kf : ¬ (x ≤ y) → WF l E own cc nL ret rm ini Xt QQ w0 ce sl (pc + 3) lv st w) : WF l E own cc nL ret rm ini Xt QQ w0 ce sl pc lv (.int y :: .int x :: st) w := by
  intro p e s m args below meth c H locs ls hC hl hP hD hS
  obtain ⟨hx, hb, hml, hown, hts, hr, hlk, hEK, hES, hin, hXt⟩ := id hC
  exact lv_icmp_le hx hb d ht (fun h => kt h p e s m args below meth c H locs ls hC hl hP hD hS) (fun h => kf h p e s m args below meth c H locs ls hC hl hP hD hS)
theorem wf_if_le {x : Int32} {off : Int} (tgt : Nat) (d : decode cc pc = .ok (.ifCond .le off, 3)) (ht : (pc : Int) + off = (tgt : Int)) (kt : x ≤ 0 → WF l E own cc nL ret rm ini Xt QQ w0 ce sl tgt lv st w) (kf : ¬ (x ≤ 0) → WF l E own cc nL ret rm ini Xt QQ w0 ce sl (pc + 3) lv st w) : WF l E own cc nL ret rm ini Xt QQ w0 ce sl pc lv (.int x :: st) w := by
  intro p e s m args below meth c H locs ls hC hl hP hD hS
  obtain ⟨hx, hb, hml, hown, hts, hr, hlk, hEK, hES, hin, hXt⟩ := id hC
  exact lv_if_le hx hb d ht (fun h => kt h p e s m args below meth c H locs ls hC hl hP hD hS) (fun h => kf h p e s m args below meth c H locs ls hC hl hP hD hS)
theorem wf_icmp_eq_n {a b : Nat} {off : Int} (tgt : Nat) (d : decode cc pc = .ok (.if_icmp .eq off, 3)) (ht : (pc : Int) + off = (tgt : Int)) (ha : a < 2 ^ 31) (hb : b < 2 ^ 31) (kt : a = b → WF l E own cc nL ret rm ini Xt QQ w0 ce sl tgt lv st w) (kf : a ≠ b → WF l E own cc nL ret rm ini Xt QQ w0 ce sl (pc + 3) lv st w) : WF l E own cc nL ret rm ini Xt QQ w0 ce sl pc lv (.int (nI b) :: .int (nI a) :: st) w :=
  wf_icmp_eq tgt d ht (fun h => kt ((nI_eq ha hb).mp h)) (fun h => kf (fun e => h ((nI_eq ha hb).mpr e)))
theorem wf_icmp_ne_n {a b : Nat} {off : Int} (tgt : Nat) (d : decode cc pc = .ok (.if_icmp .ne off, 3)) (ht : (pc : Int) + off = (tgt : Int)) (ha : a < 2 ^ 31) (hb : b < 2 ^ 31) (kt : a ≠ b → WF l E own cc nL ret rm ini Xt QQ w0 ce sl tgt lv st w) (kf : a = b → WF l E own cc nL ret rm ini Xt QQ w0 ce sl (pc + 3) lv st w) : WF l E own cc nL ret rm ini Xt QQ w0 ce sl pc lv (.int (nI b) :: .int (nI a) :: st) w :=
  wf_icmp_ne tgt d ht (fun h => kt (fun e => h ((nI_eq ha hb).mpr e))) (fun h => kf ((nI_eq ha hb).mp h))
theorem wf_icmp_lt_n {a b : Nat} {off : Int} (tgt : Nat) (d : decode cc pc = .ok (.if_icmp .lt off, 3)) (ht : (pc : Int) + off = (tgt : Int)) (ha : a < 2 ^ 31) (hb : b < 2 ^ 31) (kt : a < b → WF l E own cc nL ret rm ini Xt QQ w0 ce sl tgt lv st w) (kf : b ≤ a → WF l E own cc nL ret rm ini Xt QQ w0 ce sl (pc + 3) lv st w) : WF l E own cc nL ret rm ini Xt QQ w0 ce sl pc lv (.int (nI b) :: .int (nI a) :: st) w :=
  wf_icmp_lt tgt d ht (fun h => kt ((nI_ltI ha hb).mp h)) (fun h => kf (Nat.not_lt.mp (fun e => h ((nI_ltI ha hb).mpr e))))
theorem wf_icmp_ge_n {a b : Nat} {off : Int} (tgt : Nat) (d : decode cc pc = .ok (.if_icmp .ge off, 3)) (ht : (pc : Int) + off = (tgt : Int)) (ha : a < 2 ^ 31) (hb : b < 2 ^ 31) (kt : b ≤ a → WF l E own cc nL ret rm ini Xt QQ w0 ce sl tgt lv st w) (kf : a < b → WF l E own cc nL ret rm ini Xt QQ w0 ce sl (pc + 3) lv st w) : WF l E own cc nL ret rm ini Xt QQ w0 ce sl pc lv (.int (nI b) :: .int (nI a) :: st) w :=
  wf_icmp_ge tgt d ht (fun h => kt ((nI_leI hb ha).mp h)) (fun h => kf (Nat.not_le.mp (fun e => h ((nI_leI hb ha).mpr e))))
theorem wf_icmp_gt_n {a b : Nat} {off : Int} (tgt : Nat) (d : decode cc pc = .ok (.if_icmp .gt off, 3)) (ht : (pc : Int) + off = (tgt : Int)) (ha : a < 2 ^ 31) (hb : b < 2 ^ 31) (kt : b < a → WF l E own cc nL ret rm ini Xt QQ w0 ce sl tgt lv st w) (kf : a ≤ b → WF l E own cc nL ret rm ini Xt QQ w0 ce sl (pc + 3) lv st w) : WF l E own cc nL ret rm ini Xt QQ w0 ce sl pc lv (.int (nI b) :: .int (nI a) :: st) w :=
  wf_icmp_gt tgt d ht (fun h => kt ((nI_ltI hb ha).mp h)) (fun h => kf (Nat.not_lt.mp (fun e => h ((nI_ltI hb ha).mpr e))))
theorem wf_icmp_le_n {a b : Nat} {off : Int} (tgt : Nat) (d : decode cc pc = .ok (.if_icmp .le off, 3)) (ht : (pc : Int) + off = (tgt : Int)) (ha : a < 2 ^ 31) (hb : b < 2 ^ 31) (kt : a ≤ b → WF l E own cc nL ret rm ini Xt QQ w0 ce sl tgt lv st w) (kf : b < a → WF l E own cc nL ret rm ini Xt QQ w0 ce sl (pc + 3) lv st w) : WF l E own cc nL ret rm ini Xt QQ w0 ce sl pc lv (.int (nI b) :: .int (nI a) :: st) w :=
  wf_icmp_le tgt d ht (fun h => kt ((nI_leI ha hb).mp h)) (fun h => kf (Nat.not_le.mp (fun e => h ((nI_leI ha hb).mpr e))))
theorem wf_if_eq_n {a : Nat} {off : Int} (tgt : Nat) (d : decode cc pc = .ok (.ifCond .eq off, 3)) (ht : (pc : Int) + off = (tgt : Int)) (ha : a < 2 ^ 31) (kt : a = 0 → WF l E own cc nL ret rm ini Xt QQ w0 ce sl tgt lv st w) (kf : a ≠ 0 → WF l E own cc nL ret rm ini Xt QQ w0 ce sl (pc + 3) lv st w) : WF l E own cc nL ret rm ini Xt QQ w0 ce sl pc lv (.int (nI a) :: st) w :=
  wf_if_eq tgt d ht (fun h => kt ((nI_eq ha (by decide)).mp (h.trans nI_0.symm))) (fun h => kf (fun e => h (by rw [e]; exact nI_0)))
theorem wf_if_ne_n {a : Nat} {off : Int} (tgt : Nat) (d : decode cc pc = .ok (.ifCond .ne off, 3)) (ht : (pc : Int) + off = (tgt : Int)) (ha : a < 2 ^ 31) (kt : a ≠ 0 → WF l E own cc nL ret rm ini Xt QQ w0 ce sl tgt lv st w) (kf : a = 0 → WF l E own cc nL ret rm ini Xt QQ w0 ce sl (pc + 3) lv st w) : WF l E own cc nL ret rm ini Xt QQ w0 ce sl pc lv (.int (nI a) :: st) w :=
  wf_if_ne tgt d ht (fun h => kt (fun e => h (by rw [e]; exact nI_0))) (fun h => kf ((nI_eq ha (by decide)).mp (h.trans nI_0.symm)))
def bI (b : Bool) : Int32 := if b = true then 1 else 0
theorem bI_t : bI true = 1 := rfl
theorem bI_f : bI false = 0 := rfl
theorem bI_nar (b : Bool) : narrow .boolean (.int (bI b)) = .int (bI b) := by cases b <;> rfl
theorem bI_fit (b : Bool) : fits .boolean (.int (bI b)) = true := by cases b <;> rfl
theorem wf_if_eq_b {b : Bool} {off : Int} (tgt : Nat) (d : decode cc pc = .ok (.ifCond .eq off, 3)) (ht : (pc : Int) + off = (tgt : Int)) (kt : b = false → WF l E own cc nL ret rm ini Xt QQ w0 ce sl tgt lv st w) (kf : b = true → WF l E own cc nL ret rm ini Xt QQ w0 ce sl (pc + 3) lv st w) : WF l E own cc nL ret rm ini Xt QQ w0 ce sl pc lv (.int (bI b) :: st) w := by
  cases b
  · exact wf_if_eq tgt d ht (fun _ => kt rfl) (fun h => absurd rfl h)
  · exact wf_if_eq tgt d ht (fun h => absurd h (by decide)) (fun _ => kf rfl)
theorem wf_if_ne_b {b : Bool} {off : Int} (tgt : Nat) (d : decode cc pc = .ok (.ifCond .ne off, 3)) (ht : (pc : Int) + off = (tgt : Int)) (kt : b = true → WF l E own cc nL ret rm ini Xt QQ w0 ce sl tgt lv st w) (kf : b = false → WF l E own cc nL ret rm ini Xt QQ w0 ce sl (pc + 3) lv st w) : WF l E own cc nL ret rm ini Xt QQ w0 ce sl pc lv (.int (bI b) :: st) w := by
  cases b
  · exact wf_if_ne tgt d ht (fun h => absurd rfl h) (fun _ => kf rfl)
  · exact wf_if_ne tgt d ht (fun _ => kt rfl) (fun h => absurd h (by decide))
theorem wf_tableIn {dflt lo hi : Int} {offs : Array Int} {len : Nat} {x : Int32} {off : Int} (tgt : Nat) (d : decode cc pc = .ok (.tableswitch dflt lo hi offs, len)) (h1 : ¬ x.toInt < lo) (h2 : ¬ hi < x.toInt) (ho : offs[(x.toInt - lo).toNat]? = some off) (ht : (pc : Int) + off = (tgt : Int)) (k : WF l E own cc nL ret rm ini Xt QQ w0 ce sl tgt lv st w) : WF l E own cc nL ret rm ini Xt QQ w0 ce sl pc lv (.int x :: st) w := by
  intro p e s m args below meth c H locs ls hC hl hP hD hS
  obtain ⟨hx, hb, hml, hown, hts, hr, hlk, hEK, hES, hin, hXt⟩ := id hC
  exact lv_tableIn hx hb d h1 h2 ho ht (k p e s m args below meth c H locs ls hC hl hP hD hS)
theorem wf_tableOut {dflt lo hi : Int} {offs : Array Int} {len : Nat} {x : Int32} (tgt : Nat) (d : decode cc pc = .ok (.tableswitch dflt lo hi offs, len)) (h : x.toInt < lo ∨ hi < x.toInt) (ht : (pc : Int) + dflt = (tgt : Int)) (k : WF l E own cc nL ret rm ini Xt QQ w0 ce sl tgt lv st w) : WF l E own cc nL ret rm ini Xt QQ w0 ce sl pc lv (.int x :: st) w := by
  intro p e s m args below meth c H locs ls hC hl hP hD hS
  obtain ⟨hx, hb, hml, hown, hts, hr, hlk, hEK, hES, hin, hXt⟩ := id hC
  exact lv_tableOut hx hb d h ht (k p e s m args below meth c H locs ls hC hl hP hD hS)
theorem wf_lookup {dflt : Int} {ps : Array (Int × Int)} {len : Nat} {x : Int32} {off : Int} (tgt : Nat) (d : decode cc pc = .ok (.lookupswitch dflt ps, len)) (hp : (ps.toList.zip (ps.toList.drop 1)).all (fun (a, next) => a.1 < next.1) = true) (ho : Op.lookupswitch.offset ps.toList dflt x.toInt = off) (ht : (pc : Int) + off = (tgt : Int)) (k : WF l E own cc nL ret rm ini Xt QQ w0 ce sl tgt lv st w) : WF l E own cc nL ret rm ini Xt QQ w0 ce sl pc lv (.int x :: st) w := by
  intro p e s m args below meth c H locs ls hC hl hP hD hS
  obtain ⟨hx, hb, hml, hown, hts, hr, hlk, hEK, hES, hin, hXt⟩ := id hC
  exact lv_lookup hx hb d hp ho ht (k p e s m args below meth c H locs ls hC hl hP hD hS)
theorem wf_getf {C : String} {T : u_T} {N ci i a : Nat} {fs : List Value} {v : Value} (q0 k0 : Nat) (hin : ∀ w ∈ u_ws C T N, w ∈ TBg) (he : w[q0]? = some (a, .inr (ci, fs))) (hc : vwCl[ci]? = some (C, T, N)) (hk : k0 < N) (hlink : Cond.fieldLink own i (T k0).1 (T k0).2.1 (T k0).2.2.1 ∈ TBg) (hv : fs[k0]? = some v) (d : decode cc pc = .ok (.getfield i, 3)) (k : WF l E own cc nL ret rm ini Xt QQ w0 ce sl (pc + 3) lv (v :: st) w) : WF l E own cc nL ret rm ini Xt QQ w0 ce sl pc lv (.ref a :: st) w := by
  intro p e s m args below meth c H locs ls hC hl hP hD hS
  obtain ⟨hx, hb, hml, hown, hts, hr, hlk, hEK, hES, hni, hXt⟩ := id hC
  exact va_get hx hb hts hin hown hEK.1 hP q0 he hc k0 hk (hts _ hlink) (fun _ h => h) hv d (k p e s m args below meth c H locs ls hC hl hP hD hS)
theorem wf_putf {C : String} {T : u_T} {N ci i a : Nat} {fs : List Value} {v : Value} {ty : FieldType} (q0 k0 : Nat) (w' : va_W) (ty0 : Nat → FieldType) (hin : ∀ w ∈ u_ws C T N, w ∈ TBg) (hty : ∀ k, k < N → parseFieldDescriptor (T k).2.2.1 = some (ty0 k)) (hnm : ∀ a, a < N → ∀ b, b < N → a ≠ b → (T a).2.1 ≠ (T b).2.1) (he : w[q0]? = some (a, .inr (ci, fs))) (hc : vwCl[ci]? = some (C, T, N)) (hk : k0 < N) (hlink : Cond.fieldLink own i (T k0).1 (T k0).2.1 (T k0).2.2.1 ∈ TBg) (hfin : (T k0).2.2.2 = false) (hd : parseFieldDescriptor (T k0).2.2.1 = some ty) (hn : narrow ty v = v) (hfit : fits ty v = true) (hll : k0 < fs.length) (hw : w.set q0 (a, .inr (ci, fs.set k0 v)) = w') (d : decode cc pc = .ok (.putfield i, 3)) (k : WF l E own cc nL ret rm ini Xt QQ w0 ce sl (pc + 3) lv st w') : WF l E own cc nL ret rm ini Xt QQ w0 ce sl pc lv (v :: .ref a :: st) w := by
  intro p e s m args below meth c H locs ls hC hl hP hD hS
  obtain ⟨hx, hb, hml, hown, hts, hr, hlk, hEK, hES, hni, hXt⟩ := id hC
  subst hw
  exact va_put hx hb hts hin ty0 hty hnm hown hEK.1 hP hD hS q0 he hc k0 hk (hts _ hlink) (fun _ h => h) hfin hd hn hfit hll d (fun H locs hP hD hS => k p e s m args below meth c H locs ls hC hl hP hD hS)
theorem wf_putF {C : String} {T : u_T} {N ci i a : Nat} {fs : List Value} {v : Value} {ty : FieldType} (q0 k0 : Nat) (w' : va_W) (ty0 : Nat → FieldType) (hini : ini = true) (hin : ∀ w ∈ u_ws C T N, w ∈ TBg) (hty : ∀ k, k < N → parseFieldDescriptor (T k).2.2.1 = some (ty0 k)) (hnm : ∀ a, a < N → ∀ b, b < N → a ≠ b → (T a).2.1 ≠ (T b).2.1) (he : w[q0]? = some (a, .inr (ci, fs))) (hc : vwCl[ci]? = some (C, T, N)) (hk : k0 < N) (hlink : Cond.fieldLink own i (T k0).1 (T k0).2.1 (T k0).2.2.1 ∈ TBg) (hfin : (T k0).2.2.2 = true) (howns : (T k0).1 = own) (hd : parseFieldDescriptor (T k0).2.2.1 = some ty) (hn : narrow ty v = v) (hfit : fits ty v = true) (hll : k0 < fs.length) (hw : w.set q0 (a, .inr (ci, fs.set k0 v)) = w') (d : decode cc pc = .ok (.putfield i, 3)) (k : WF l E own cc nL ret rm ini Xt QQ w0 ce sl (pc + 3) lv st w') : WF l E own cc nL ret rm ini Xt QQ w0 ce sl pc lv (v :: .ref a :: st) w := by
  intro p e s m args below meth c H locs ls hC hl hP hD hS
  obtain ⟨hx, hb, hml, hown, hts, hr, hlk, hEK, hES, hni, hXt⟩ := id hC
  subst hw
  exact va_putF hx hb hts hin ty0 hty hnm hown hEK.1 hP hD hS q0 he hc k0 hk (hts _ hlink) (fun _ h => h) hfin (hni hini) howns hd hn hfit hll d (fun H locs hP hD hS => k p e s m args below meth c H locs ls hC hl hP hD hS)
theorem wf_iald {a n : Nat} {f : Nat → Int32} {i : Int32} (v : Int32) (q0 : Nat) (he : w[q0]? = some (a, .inl (E.2.1.1, n, .inl f))) (hi : vp_in i n) (hv : f i.toNatClampNeg = v) (d : decode cc pc = .ok (.iaload, 1)) (k : WF l E own cc nL ret rm ini Xt QQ w0 ce sl (pc + 1) lv (.int v :: st) w) : WF l E own cc nL ret rm ini Xt QQ w0 ce sl pc lv (.int i :: .ref a :: st) w := by
  intro p e s m args below meth c H locs ls hC hl hP hD hS
  obtain ⟨hx, hb, hml, hown, hts, hr, hlk, hEK, hES, hin, hXt⟩ := id hC
  subst hv
  exact va_iald hx hb hEK.1 hP q0 0 he rfl hi d (k p e s m args below meth c H locs ls hC hl hP hD hS)
theorem wf_iald_n {a n j : Nat} {f : Nat → Int32} (v : Int32) (q0 : Nat) (he : w[q0]? = some (a, .inl (E.2.1.1, n, .inl f))) (hj : j < n) (hn : n ≤ 1024) (hv : f j = v) (d : decode cc pc = .ok (.iaload, 1)) (k : WF l E own cc nL ret rm ini Xt QQ w0 ce sl (pc + 1) lv (.int v :: st) w) : WF l E own cc nL ret rm ini Xt QQ w0 ce sl pc lv (.int (nI j) :: .ref a :: st) w :=
  wf_iald v q0 he (vp_in_nI hj (by omega)) (by rw [nI_clamp (by omega)]; exact hv) d k
theorem wf_iast {a n : Nat} {f : Nat → Int32} {i x : Int32} (w' : va_W) (q0 : Nat) (he : w[q0]? = some (a, .inl (E.2.1.1, n, .inl f))) (hi : vp_in i n) (hw : w.set q0 (a, .inl (E.2.1.1, n, .inl (upd f i.toNatClampNeg x))) = w') (d : decode cc pc = .ok (.iastore, 1)) (k : WF l E own cc nL ret rm ini Xt QQ w0 ce sl (pc + 1) lv st w') : WF l E own cc nL ret rm ini Xt QQ w0 ce sl pc lv (.int x :: .int i :: .ref a :: st) w := by
  intro p e s m args below meth c H locs ls hC hl hP hD hS
  obtain ⟨hx, hb, hml, hown, hts, hr, hlk, hEK, hES, hin, hXt⟩ := id hC
  subst hw
  exact va_iast hx hb hEK.1 hP hD hS q0 0 he rfl hi d (fun H locs hP hD hS => k p e s m args below meth c H locs ls hC hl hP hD hS)
theorem wf_iast_n {a n j : Nat} {f : Nat → Int32} {x : Int32} (w' : va_W) (q0 : Nat) (he : w[q0]? = some (a, .inl (E.2.1.1, n, .inl f))) (hj : j < n) (hn : n ≤ 1024) (hw : w.set q0 (a, .inl (E.2.1.1, n, .inl (upd f j x))) = w') (d : decode cc pc = .ok (.iastore, 1)) (k : WF l E own cc nL ret rm ini Xt QQ w0 ce sl (pc + 1) lv st w') : WF l E own cc nL ret rm ini Xt QQ w0 ce sl pc lv (.int x :: .int (nI j) :: .ref a :: st) w :=
  wf_iast w' q0 he (vp_in_nI hj (by omega)) (by rw [nI_clamp (by omega)]; exact hw) d k
theorem wf_cald_n {a n j : Nat} {f : Nat → Int32} (v : Int32) (q0 : Nat) (he : w[q0]? = some (a, .inl (E.2.1.2.1, n, .inl f))) (hj : j < n) (hn : n ≤ 1024) (hv : f j = v) (d : decode cc pc = .ok (.caload, 1)) (k : WF l E own cc nL ret rm ini Xt QQ w0 ce sl (pc + 1) lv (.int v :: st) w) : WF l E own cc nL ret rm ini Xt QQ w0 ce sl pc lv (.int (nI j) :: .ref a :: st) w := by
  intro p e s m args below meth c H locs ls hC hl hP hD hS
  obtain ⟨hx, hb, hml, hown, hts, hr, hlk, hEK, hES, hin, hXt⟩ := id hC
  subst hv
  have hk := k p e s m args below meth c H locs ls hC hl hP hD hS
  rw [show f j = f (nI j).toNatClampNeg by rw [nI_clamp (by omega)]] at hk
  exact va_cald hx hb hEK.1 hP q0 1 he rfl (vp_in_nI hj (by omega)) d hk
theorem wf_cast_n {a n j : Nat} {f : Nat → Int32} {x : Int32} (w' : va_W) (q0 : Nat) (he : w[q0]? = some (a, .inl (E.2.1.2.1, n, .inl f))) (hj : j < n) (hn : n ≤ 1024) (hx0 : vp_nar .char x = x) (hw : w.set q0 (a, .inl (E.2.1.2.1, n, .inl (upd f j x))) = w') (d : decode cc pc = .ok (.castore, 1)) (k : WF l E own cc nL ret rm ini Xt QQ w0 ce sl (pc + 1) lv st w') : WF l E own cc nL ret rm ini Xt QQ w0 ce sl pc lv (.int x :: .int (nI j) :: .ref a :: st) w := by
  intro p e s m args below meth c H locs ls hC hl hP hD hS
  obtain ⟨hx, hb, hml, hown, hts, hr, hlk, hEK, hES, hin, hXt⟩ := id hC
  subst hw
  refine va_cast hx hb hEK.1 hP hD hS q0 1 he rfl (vp_in_nI hj (by omega)) d (fun H locs hP hD hS => ?_)
  rw [nI_clamp (by omega), hx0] at hP hD
  exact k p e s m args below meth c H locs ls hC hl hP hD hS
theorem wf_aald_n {a n j b : Nat} {f : Nat → Option Nat} (q0 : Nat) (he : w[q0]? = some (a, .inl (E.2.1.2.2, n, .inr (.inr (.inr (.inr f)))))) (hj : j < n) (hn : n ≤ 1024) (hv : f j = some b) (d : decode cc pc = .ok (.aaload, 1)) (k : WF l E own cc nL ret rm ini Xt QQ w0 ce sl (pc + 1) lv (.ref b :: st) w) : WF l E own cc nL ret rm ini Xt QQ w0 ce sl pc lv (.int (nI j) :: .ref a :: st) w := by
  intro p e s m args below meth c H locs ls hC hl hP hD hS
  obtain ⟨hx, hb, hml, hown, hts, hr, hlk, hEK, hES, hin, hXt⟩ := id hC
  have hk := k p e s m args below meth c H locs ls hC hl hP hD hS
  rw [show Value.ref b = va_rf (f (nI j).toNatClampNeg) by rw [nI_clamp (by omega), hv]; rfl] at hk
  exact va_aldq hx hb hEK.1 hP q0 2 he rfl (vp_in_nI hj (by omega)) d hk
theorem wf_alen {a t0 : Nat} {cA : ClassId} {z : vp_A} {ty : FieldType} (v : Int32) (q0 : Nat) (he : w[q0]? = some (a, .inl (cA, z))) (ht : (tysE E)[t0]? = some (cA, ty)) (hv : Int32.ofNat z.1 = v) (d : decode cc pc = .ok (.arraylength, 1)) (k : WF l E own cc nL ret rm ini Xt QQ w0 ce sl (pc + 1) lv (.int v :: st) w) : WF l E own cc nL ret rm ini Xt QQ w0 ce sl pc lv (.ref a :: st) w := by
  intro p e s m args below meth c H locs ls hC hl hP hD hS
  obtain ⟨hx, hb, hml, hown, hts, hr, hlk, hEK, hES, hin, hXt⟩ := id hC
  exact va_alen hx hb hEK.1 hP q0 t0 he ht hv d (k p e s m args below meth c H locs ls hC hl hP hD hS)

/-! calls: which words each needs -/
def CVw (own : String) (i : Nat) (y : MethodName) (b : ByteArray) (mL : Nat) (ret : Option FieldType) (n : Nat) : Prop :=
  Cond.methodLink own i y ∈ TBg ∧ Cond.instanceMethod y ∈ TBg ∧ Cond.selects y.cls y y ∈ TBg ∧ Cond.initialized y.cls ∈ TBg ∧ Cond.code y b mL ret ∈ TBg ∧ (y.cls ≠ "java/lang/invoke/MethodHandle" ∧ y.cls ≠ "java/lang/invoke/VarHandle" ∧ (parseMethodDescriptor y.desc).map (fun d => d.parameters.length) = some n)
def CSw (own : String) (i : Nat) (y : MethodName) (b : ByteArray) (mL : Nat) (ret : Option FieldType) (n : Nat) : Prop :=
  Cond.methodLink own i y ∈ TBg ∧ Cond.static y ∈ TBg ∧ Cond.initialized y.cls ∈ TBg ∧ Cond.code y b mL ret ∈ TBg ∧ (y.cls ≠ "java/lang/invoke/MethodHandle" ∧ y.cls ≠ "java/lang/invoke/VarHandle" ∧ (parseMethodDescriptor y.desc).map (fun d => d.parameters.length) = some n)
def CIw (own : String) (i : Nat) (y : MethodName) (b : ByteArray) (mL : Nat) (n : Nat) : Prop :=
  Cond.methodLink own i y ∈ TBg ∧ Cond.instanceMethod y ∈ TBg ∧ Cond.initialized y.cls ∈ TBg ∧ Cond.code y b mL none ∈ TBg ∧ y.name = "<init>" ∧ (y.cls ≠ "java/lang/invoke/MethodHandle" ∧ y.cls ≠ "java/lang/invoke/VarHandle" ∧ (parseMethodDescriptor y.desc).map (fun d => d.parameters.length) = some n)
def CNIw (own : String) (i : Nat) (y : MethodName) (host : String) (b : ByteArray) (mL : Nat) (n : Nat) : Prop :=
  (own, i, y, host) ∈ nestW ∧ Cond.instanceMethod y ∈ TBg ∧ Cond.initialized y.cls ∈ TBg ∧ Cond.code y b mL none ∈ TBg ∧ y.name = "<init>" ∧ (y.cls ≠ "java/lang/invoke/MethodHandle" ∧ y.cls ≠ "java/lang/invoke/VarHandle" ∧ (parseMethodDescriptor y.desc).map (fun d => d.parameters.length) = some n)
def CNSw (own : String) (i : Nat) (y : MethodName) (host : String) (b : ByteArray) (mL : Nat) (ret : Option FieldType) (n : Nat) : Prop :=
  (own, i, y, host) ∈ nestW ∧ Cond.static y ∈ TBg ∧ Cond.initialized y.cls ∈ TBg ∧ Cond.code y b mL ret ∈ TBg ∧ (y.cls ≠ "java/lang/invoke/MethodHandle" ∧ y.cls ≠ "java/lang/invoke/VarHandle" ∧ (parseMethodDescriptor y.desc).map (fun d => d.parameters.length) = some n)
/-- x is what the instruction names (of class Sparrow), y what runs for a receiver of class C -/
def CUw (own : String) (i : Nat) (C : String) (x y : MethodName) (b : ByteArray) (mL : Nat) (ret : Option FieldType) (n : Nat) : Prop :=
  Cond.methodLink own i x ∈ TBg ∧ Cond.sameMethod x.cls x.cls x.name x.desc ∈ TBg ∧ Cond.selects C x y ∈ TBg ∧ Cond.instanceMethod y ∈ TBg ∧ Cond.initialized y.cls ∈ TBg ∧ Cond.code y b mL ret ∈ TBg ∧ Cond.instanceMethod x ∈ TBg ∧ (∃ b0 m0 r0, Cond.code x b0 m0 r0 ∈ TBg) ∧ (x.cls ≠ "java/lang/invoke/MethodHandle" ∧ x.cls ≠ "java/lang/invoke/VarHandle" ∧ (parseMethodDescriptor x.desc).map (fun d => d.parameters.length) = some n)
theorem ent_blind {as : List Value} {sz : Nat} : FrameBlind (va_Pc as (Ent E w sz)) := fun a U g mk q => by
  obtain ⟨q0, q1, qP, qD, qK, qS⟩ := q
  exact ⟨q0, q1, qP, qD, qK.same rfl, ES.moved (u := U) (Vm.Alike.refl U.vm) qS⟩
theorem in_A {A0 : Nat → Prop} {s : State} {H : Heap} {locs : List Loc} (hD : va_D (va_A w0 s.heap.size) w) (hS : va_S (va_A w0 s.heap.size) s.heap H locs) : ∀ q, va_A w H.size q → va_A w0 s.heap.size q := by
  intro q h
  rcases h with ⟨k, e, h⟩ | h
  · exact hD.2 k _ h
  · exact Or.inr (Nat.le_trans hS.1 h)
/-- the callee's start out of where the caller stands -/
theorem ent_call {p : Program} {s U : State} {m : MethodId} {args : Array Value} {meth : Method} {c : Code} {H : Heap} {locs : List Loc} {as : List Value} (hC : Cx p s m args meth c E own cc nL ret ini Xt w0) (hP : va_P E.1 vwCl w H) (hD : va_D (va_A w0 s.heap.size) w) (hS : va_S (va_A w0 s.heap.size) s.heap H locs) (hU : U.heap = H) (hW : s.WarmedH U.vm) : va_Pc as (Ent E w H.size) as.toArray U := by
  obtain ⟨hx, hb, hml, hown, hts, hr, hlk, hEK, hES, hni, hXt⟩ := hC
  refine ⟨rfl, by rw [hU], by rw [hU]; exact hP, hD.weaken (fun _ _ _ _ => trivial), hEK.warm hW, ?_⟩
  rw [hU]
  exact ES.moved hW.alike ((hES.kept hS.2.1).narrow (in_A (A0 := fun _ => True) hD hS))
/-- behind a call -/
theorem wf_back {p : Program} {e : Env} {s : State} {m : MethodId} {args : Array Value} {below : List Frame} {meth : Method} {c : Code} {H : Heap} {locs : List Loc} {ls : Array Slot} {mc ms : Nat} {rest : List Value} {Post : Option Value → va_W → Prop} {a : Array Value}
    (hr : va_Run p l e rm s m args below meth c H locs ce sl mc ms (F0 m pc ls st) rest (EndW E w H.size Post a) (va_A w H.size)) (hC : Cx p s m args meth c E own cc nL ret ini Xt w0) (hl : lv_has ls nL lv) (hD : va_D (va_A w0 s.heap.size) w) (hS : va_S (va_A w0 s.heap.size) s.heap H locs)
    (k : ∀ v w2, Post v w2 → WF l E own cc nL ret rm ini Xt QQ w0 (ce + mc) (sl + ms) (pc + 3) lv (v.toList ++ rest) w2) : W p l e rm s m args below meth c H locs ce sl (QQ below args s) (F0 m pc ls st) := by
  have hA := in_A (A0 := fun _ => True) hD hS
  intro T hT X
  obtain ⟨v, st₀, t, T', L, h0, X', hL, e1, e2, ⟨⟨v', w2, hv, hp, hP2, hD2⟩, hz, hk⟩, stp⟩ := hr T hT X
  cases hv
  rw [h0] at hz hk
  obtain ⟨t2, a1, b1⟩ := k v w2 hp p e s m args below meth c T'.heap (locs ++ L) ls hC hl (by rw [e1]; exact hP2) (hD2.weaken (fun _ q _ h => hA q.1 h))
    ⟨Nat.le_trans hS.1 (by rw [e1]; exact hz), fun q h1 h2 => by rw [e1, hk q (Nat.lt_of_lt_of_le h1 hS.1) (fun z => h2 (hA q z))]; exact hS.2.1 q h1 h2, fun q hq => by
      rcases List.mem_append.mp hq with h | h
      · exact hS.2.2 q h
      · exact hA _ (hL q h)⟩ T' rfl X'
  exact ⟨t2, stp t2 a1, b1⟩
theorem wf_callV {i n a ci mL : Nat} {y : MethodName} {b : ByteArray} {ret2 : Option FieldType} {rm2 : Room} {As rest : List Value} {Post : Option Value → va_W → Prop} {fs : List Value} {T : u_T} {N : Nat} (q0 : Nat) (hM : CT l E y b mL ret2 rm2 (.ref a :: As) w Post) (hk : CVw own i y b mL ret2 n) (hn : As.length = n) (hR : rm2.frames + 1 ≤ rm.frames ∧ 8 + (mL + 11) + rm2.locals ≤ rm.locals) (hcs : ce + rm2.cells ≤ rm.cells ∧ sl + rm2.slots ≤ rm.slots) (hcat : (rest.map fun v => v.category).sum ≤ 8) (he : w[q0]? = some (a, .inr (ci, fs))) (hc : vwCl[ci]? = some (y.cls, T, N)) (hst : st = As.reverse ++ .ref a :: rest) (d : decode cc pc = .ok (.invokevirtual i, 3))
    (k : ∀ v w2, Post v w2 → WF l E own cc nL ret rm ini Xt QQ w0 (ce + rm2.cells) (sl + rm2.slots) (pc + 3) lv (v.toList ++ rest) w2) : WF l E own cc nL ret rm ini Xt QQ w0 ce sl pc lv st w := by
  intro p e s m args below meth c H locs ls hC hl hP hD hS
  obtain ⟨hx, hb, hml, hown, hts, hr, hlk, hEK, hES, hin, hXt⟩ := id hC
  obtain ⟨k1, k2, k3, k4, k5, k6, k7, k8⟩ := hk
  refine wf_back (va_runV (C := y.cls) (As := As) (rest := rest) ⟨hx, hb, hml, hown, hts⟩ (hM H.size) ⟨callB_of n hts (gi_tb k5) rfl rfl rfl (hts _ k4) (hts _ k1) ⟨k6, k7, k8⟩ hR, hts _ k2, hts _ k3⟩ ⟨ent_blind, va_recv hEK.1 hP hc he, fun U hU hW => ent_call hC hP hD hS hU hW⟩ rfl hn hl.1 hst (lv_room hcat) d hcs) hC hl hD hS k
theorem wf_callU {i n a ci mL : Nat} {C : String} {x y : MethodName} {b : ByteArray} {ret2 : Option FieldType} {rm2 : Room} {As rest : List Value} {Post : Option Value → va_W → Prop} {fs : List Value} {T : u_T} {N : Nat} (q0 : Nat) (hM : CT l E y b mL ret2 rm2 (.ref a :: As) w Post) (hk : CUw own i C x y b mL ret2 n) (hn : As.length = n) (hR : rm2.frames + 1 ≤ rm.frames ∧ 8 + (mL + 11) + rm2.locals ≤ rm.locals) (hcs : ce + rm2.cells ≤ rm.cells ∧ sl + rm2.slots ≤ rm.slots) (hcat : (rest.map fun v => v.category).sum ≤ 8) (he : w[q0]? = some (a, .inr (ci, fs))) (hc : vwCl[ci]? = some (C, T, N)) (hst : st = As.reverse ++ .ref a :: rest) (d : decode cc pc = .ok (.invokevirtual i, 3))
    (k : ∀ v w2, Post v w2 → WF l E own cc nL ret rm ini Xt QQ w0 (ce + rm2.cells) (sl + rm2.slots) (pc + 3) lv (v.toList ++ rest) w2) : WF l E own cc nL ret rm ini Xt QQ w0 ce sl pc lv st w := by
  intro p e s m args below meth c H locs ls hC hl hP hD hS
  obtain ⟨hx, hb, hml, hown, hts, hr, hlk, hEK, hES, hin, hXt⟩ := id hC
  obtain ⟨k1, k2, k3, k4, k5, k6, k7, ⟨b0, m0, r0, k8⟩, k9, k10, k11⟩ := hk
  have hG := gi_tb k6
  refine wf_back (va_runU (C := C) (owner := x.cls) (x := x) (As := As) (rest := rest) ⟨hx, hb, hml, hown, hts⟩ (hM H.size) ⟨⟨rfl, rfl, hR.1, hR.2, pay_in hts hG, List.mem_cons_self⟩, hts _ k6, hts _ k5, ⟨k9, k10⟩, fun sig h => ?_, hts _ k1, hts _ k2, va_Decl.of (hts _ k7) (hts _ k8), hts _ k3, hts _ k4⟩ ⟨ent_blind, va_recv hEK.1 hP hc he, fun U hU hW => ent_call hC hP hD hS hU hW⟩ rfl hn hl.1 hst (lv_room hcat) d hcs) hC hl hD hS k
  rw [h] at k11
  exact (Option.some.inj k11).symm
theorem wf_callS {i n mL : Nat} {y : MethodName} {b : ByteArray} {ret2 : Option FieldType} {rm2 : Room} {As rest : List Value} {Post : Option Value → va_W → Prop} (hM : CT l E y b mL ret2 rm2 As w Post) (hk : CSw own i y b mL ret2 n) (hn : As.length = n) (hR : rm2.frames + 1 ≤ rm.frames ∧ 8 + (mL + 11) + rm2.locals ≤ rm.locals) (hcs : ce + rm2.cells ≤ rm.cells ∧ sl + rm2.slots ≤ rm.slots) (hcat : (rest.map fun v => v.category).sum ≤ 8) (hst : st = As.reverse ++ rest) (d : decode cc pc = .ok (.invokestatic i, 3))
    (k : ∀ v w2, Post v w2 → WF l E own cc nL ret rm ini Xt QQ w0 (ce + rm2.cells) (sl + rm2.slots) (pc + 3) lv (v.toList ++ rest) w2) : WF l E own cc nL ret rm ini Xt QQ w0 ce sl pc lv st w := by
  intro p e s m args below meth c H locs ls hC hl hP hD hS
  obtain ⟨hx, hb, hml, hown, hts, hr, hlk, hEK, hES, hin, hXt⟩ := id hC
  obtain ⟨k1, k2, k4, k5, k6, k7, k8⟩ := hk
  refine wf_back (va_runS (As := As) (rest := rest) ⟨hx, hb, hml, hown, hts⟩ (hM H.size) ⟨callB_of n hts (gi_tb k5) rfl rfl rfl (hts _ k4) (hts _ k1) ⟨k6, k7, k8⟩ hR, hts _ k2⟩ ⟨ent_blind, fun U hU hW => ent_call hC hP hD hS hU hW⟩ rfl hn hl.1 hst (lv_room hcat) d hcs) hC hl hD hS k
theorem wf_callNS {i n mL : Nat} {y : MethodName} {host : String} {b : ByteArray} {ret2 : Option FieldType} {rm2 : Room} {As rest : List Value} {Post : Option Value → va_W → Prop} (hM : CT l E y b mL ret2 rm2 As w Post) (hk : CNSw own i y host b mL ret2 n) (hn : As.length = n) (hR : rm2.frames + 1 ≤ rm.frames ∧ 8 + (mL + 11) + rm2.locals ≤ rm.locals) (hcs : ce + rm2.cells ≤ rm.cells ∧ sl + rm2.slots ≤ rm.slots) (hcat : (rest.map fun v => v.category).sum ≤ 8) (hst : st = As.reverse ++ rest) (d : decode cc pc = .ok (.invokestatic i, 3))
    (k : ∀ v w2, Post v w2 → WF l E own cc nL ret rm ini Xt QQ w0 (ce + rm2.cells) (sl + rm2.slots) (pc + 3) lv (v.toList ++ rest) w2) : WF l E own cc nL ret rm ini Xt QQ w0 ce sl pc lv st w := by
  intro p e s m args below meth c H locs ls hC hl hP hD hS
  obtain ⟨hx, hb, hml, hown, hts, hr, hlk, hEK, hES, hin, hXt⟩ := id hC
  obtain ⟨k1, k2, k4, k5, k6, k7, k8⟩ := hk
  refine wf_back (va_runSN (host := host) (As := As) (rest := rest) ⟨hx, hb, hml, hown, hts⟩ (hM H.size) ⟨va_cnB n hts (gi_tb k5) rfl rfl rfl (hEK.2.1 _ k1) (hts _ k4) ⟨k6, k7, k8⟩ hR, hts _ k2, trivial⟩ ⟨ent_blind, fun U hU hW => ent_call hC hP hD hS hU hW⟩ rfl hn hl.1 hst (lv_room hcat) d hcs) hC hl hD hS k
theorem wf_callI {i n a mL : Nat} {y : MethodName} {b : ByteArray} {rm2 : Room} {As rest : List Value} {Post : Option Value → va_W → Prop} (hM : CT l E y b mL none rm2 (.ref a :: As) w Post) (hk : CIw own i y b mL n) (hn : As.length = n) (hR : rm2.frames + 1 ≤ rm.frames ∧ 8 + (mL + 11) + rm2.locals ≤ rm.locals) (hcs : ce + rm2.cells ≤ rm.cells ∧ sl + rm2.slots ≤ rm.slots) (hcat : (rest.map fun v => v.category).sum ≤ 8) (hst : st = As.reverse ++ .ref a :: rest) (d : decode cc pc = .ok (.invokespecial i, 3))
    (k : ∀ v w2, Post v w2 → WF l E own cc nL ret rm ini Xt QQ w0 (ce + rm2.cells) (sl + rm2.slots) (pc + 3) lv (v.toList ++ rest) w2) : WF l E own cc nL ret rm ini Xt QQ w0 ce sl pc lv st w := by
  intro p e s m args below meth c H locs ls hC hl hP hD hS
  obtain ⟨hx, hb, hml, hown, hts, hr, hlk, hEK, hES, hin, hXt⟩ := id hC
  obtain ⟨k1, k2, k4, k5, k9, k6, k7, k8⟩ := hk
  refine wf_back (va_runI (As := As) (rest := rest) ⟨hx, hb, hml, hown, hts⟩ (hM H.size) ⟨callB_of n hts (gi_tb k5) rfl rfl rfl (hts _ k4) (hts _ k1) ⟨k6, k7, k8⟩ hR, k9, hts _ k2⟩ ⟨ent_blind, fun U hU hW => ent_call (as := .ref a :: As) hC hP hD hS hU hW⟩ rfl hn hl.1 hst (lv_room hcat) d hcs) hC hl hD hS k
theorem wf_callNI {i n a mL : Nat} {y : MethodName} {host : String} {b : ByteArray} {rm2 : Room} {As rest : List Value} {Post : Option Value → va_W → Prop} (hM : CT l E y b mL none rm2 (.ref a :: As) w Post) (hk : CNIw own i y host b mL n) (hn : As.length = n) (hR : rm2.frames + 1 ≤ rm.frames ∧ 8 + (mL + 11) + rm2.locals ≤ rm.locals) (hcs : ce + rm2.cells ≤ rm.cells ∧ sl + rm2.slots ≤ rm.slots) (hcat : (rest.map fun v => v.category).sum ≤ 8) (hst : st = As.reverse ++ .ref a :: rest) (d : decode cc pc = .ok (.invokespecial i, 3))
    (k : ∀ v w2, Post v w2 → WF l E own cc nL ret rm ini Xt QQ w0 (ce + rm2.cells) (sl + rm2.slots) (pc + 3) lv (v.toList ++ rest) w2) : WF l E own cc nL ret rm ini Xt QQ w0 ce sl pc lv st w := by
  intro p e s m args below meth c H locs ls hC hl hP hD hS
  obtain ⟨hx, hb, hml, hown, hts, hr, hlk, hEK, hES, hin, hXt⟩ := id hC
  obtain ⟨k1, k2, k4, k5, k9, k6, k7, k8⟩ := hk
  refine wf_back (va_runIN (host := host) (As := As) (rest := rest) ⟨hx, hb, hml, hown, hts⟩ (hM H.size) ⟨va_cnB n hts (gi_tb k5) rfl rfl rfl (hEK.2.1 _ k1) (hts _ k4) ⟨k6, k7, k8⟩ hR, k9, hts _ k2⟩ ⟨ent_blind, fun U hU hW => ent_call (as := .ref a :: As) hC hP hD hS hU hW⟩ rfl hn hl.1 hst (lv_room hcat) d hcs) hC hl hD hS k
/-- an inherited member of a String constant's -/
theorem wf_callStr {i n i0 mL : Nat} {y : MethodName} {b : ByteArray} {ret2 : Option FieldType} {rm2 : Room} {As rest : List Value} {Post : Option Value → va_W → Prop} (hi0 : i0 < 5) (hM : CT l E y b mL ret2 rm2 (.ref (E.2.2.1 i0) :: As) w Post) (hk : CVw own i y b mL ret2 n) (hn : As.length = n) (hR : rm2.frames + 1 ≤ rm.frames ∧ 8 + (mL + 11) + rm2.locals ≤ rm.locals) (hcs : ce + rm2.cells ≤ rm.cells ∧ sl + rm2.slots ≤ rm.slots) (hcat : (rest.map fun v => v.category).sum ≤ 8) (hc : y.cls = "java/lang/String") (hst : st = As.reverse ++ .ref (E.2.2.1 i0) :: rest) (d : decode cc pc = .ok (.invokevirtual i, 3))
    (k : ∀ v w2, Post v w2 → WF l E own cc nL ret rm ini Xt QQ w0 (ce + rm2.cells) (sl + rm2.slots) (pc + 3) lv (v.toList ++ rest) w2) : WF l E own cc nL ret rm ini Xt QQ w0 ce sl pc lv st w := by
  intro p e s m args below meth c H locs ls hC hl hP hD hS
  obtain ⟨hx, hb, hml, hown, hts, hr, hlk, hEK, hES, hin, hXt⟩ := id hC
  obtain ⟨k1, k2, k3, k4, k5, k6, k7, k8⟩ := hk
  refine wf_back (va_runV (C := y.cls) (As := As) (rest := rest) ⟨hx, hb, hml, hown, hts⟩ (hM H.size) ⟨callB_of n hts (gi_tb k5) rfl rfl rfl (hts _ k4) (hts _ k1) ⟨k6, k7, k8⟩ hR, hts _ k2, hts _ k3⟩ ⟨ent_blind, by rw [hc]; exact vk_recv hES.1 hi0 hS, fun U hU hW => ent_call hC hP hD hS hU hW⟩ rfl hn hl.1 hst (lv_room hcat) d hcs) hC hl hD hS k
theorem wf_ldcS {i q : Nat} {tx : String} (hR : ∀ s : State, SR E.2.2.1 s → vk_R own i tx q s) (d : decode cc pc = .ok (.ldc i, 2)) (k : WF l E own cc nL ret rm ini Xt QQ w0 ce sl (pc + 2) lv (.ref q :: st) w) : WF l E own cc nL ret rm ini Xt QQ w0 ce sl pc lv st w := by
  intro p e s m args below meth c H locs ls hC hl hP hD hS
  obtain ⟨hx, hb, hml, hown, hts, hr, hlk, hEK, hES, hin, hXt⟩ := id hC
  exact va_ldcS hx hb hown (hR s hEK.2.2) d (k p e s m args below meth c H locs ls hC hl hP hD hS)
theorem wf_strval {i i0 : Nat} (hi0 : i0 < 5) (hlink : Cond.fieldLink own i "java/lang/String" "value" "[B" ∈ TBg) (d : decode cc pc = .ok (.getfield i, 3)) (k : WF l E own cc nL ret rm ini Xt QQ w0 ce sl (pc + 3) lv (.ref (E.2.2.2 i0) :: st) w) : WF l E own cc nL ret rm ini Xt QQ w0 ce sl pc lv (.ref (E.2.2.1 i0) :: st) w := by
  intro p e s m args below meth c H locs ls hC hl hP hD hS
  obtain ⟨hx, hb, hml, hown, hts, hr, hlk, hEK, hES, hin, hXt⟩ := id hC
  exact vk_getf hx hb (hES.1.1 i0 hi0).2.2.1 hS hown (hts _ hlink) (fun _ h => h) d (k p e s m args below meth c H locs ls hC hl hP hD hS)
theorem wf_strcoder {i i0 : Nat} (hi0 : i0 < 5) (hlink : Cond.fieldLink own i "java/lang/String" "coder" "B" ∈ TBg) (d : decode cc pc = .ok (.getfield i, 3)) (k : WF l E own cc nL ret rm ini Xt QQ w0 ce sl (pc + 3) lv (.int 0 :: st) w) : WF l E own cc nL ret rm ini Xt QQ w0 ce sl pc lv (.ref (E.2.2.1 i0) :: st) w := by
  intro p e s m args below meth c H locs ls hC hl hP hD hS
  obtain ⟨hx, hb, hml, hown, hts, hr, hlk, hEK, hES, hin, hXt⟩ := id hC
  exact vk_getf hx hb (hES.1.1 i0 hi0).2.1 hS hown (hts _ hlink) (fun _ h => h) d (k p e s m args below meth c H locs ls hC hl hP hD hS)
theorem wf_strlen {i0 : Nat} (v : Int32) (hi0 : i0 < 5) (hv : Int32.ofNat (lenS.getD i0 0) = v) (d : decode cc pc = .ok (.arraylength, 1)) (k : WF l E own cc nL ret rm ini Xt QQ w0 ce sl (pc + 1) lv (.int v :: st) w) : WF l E own cc nL ret rm ini Xt QQ w0 ce sl pc lv (.ref (E.2.2.2 i0) :: st) w := by
  intro p e s m args below meth c H locs ls hC hl hP hD hS
  obtain ⟨hx, hb, hml, hown, hts, hr, hlk, hEK, hES, hin, hXt⟩ := id hC
  exact va_tlen hx hb (hES.1.1 i0 hi0).2.2.2 hS hv d (k p e s m args below meth c H locs ls hC hl hP hD hS)
theorem wf_strbyte {i0 j : Nat} (v : Int32) (hi0 : i0 < 5) (hj : j < lenS.getD i0 0) (hn : j < 1024) (hv : (bytS.getD i0 []).getD j 0 = v) (d : decode cc pc = .ok (.baload, 1)) (k : WF l E own cc nL ret rm ini Xt QQ w0 ce sl (pc + 1) lv (.int v :: st) w) : WF l E own cc nL ret rm ini Xt QQ w0 ce sl pc lv (.int (nI j) :: .ref (E.2.2.2 i0) :: st) w := by
  intro p e s m args below meth c H locs ls hC hl hP hD hS
  obtain ⟨hx, hb, hml, hown, hts, hr, hlk, hEK, hES, hin, hXt⟩ := id hC
  have hin2 : vp_in (nI j) (lenS.getD i0 0) := by
    rw [vp_in_iff, nI_toInt (by omega)]; omega
  exact va_tb hx hb (hES.1.1 i0 hi0).2.2.2 hS hin2 (by rw [nI_clamp (by omega), hv]) d (k p e s m args below meth c H locs ls hC hl hP hD hS)
theorem wf_compact {i : Nat} (hlink : Cond.fieldLink own i "java/lang/String" "COMPACT_STRINGS" "Z" ∈ TBg) (d : decode cc pc = .ok (.getstatic i, 3)) (k : WF l E own cc nL ret rm ini Xt QQ w0 ce sl (pc + 3) lv (.int 1 :: st) w) : WF l E own cc nL ret rm ini Xt QQ w0 ce sl pc lv st w := by
  intro p e s m args below meth c H locs ls hC hl hP hD hS
  obtain ⟨hx, hb, hml, hown, hts, hr, hlk, hEK, hES, hin, hXt⟩ := id hC
  exact va_gets hx hb hES.2.1 hS hown (hts _ hlink) (fun _ h => h) d (k p e s m args below meth c H locs ls hC hl hP hD hS)
theorem wf_formatter {i : Nat} (hlink : Cond.fieldLink own i "jdk/internal/util/Preconditions" "SIOOBE_FORMATTER" "Ljava/util/function/BiFunction;" ∈ TBg) (d : decode cc pc = .ok (.getstatic i, 3)) (k0 : WF l E own cc nL ret rm ini Xt QQ w0 ce sl (pc + 3) lv (.null :: st) w) (k : ∀ q : Nat, WF l E own cc nL ret rm ini Xt QQ w0 ce sl (pc + 3) lv (.ref q :: st) w) : WF l E own cc nL ret rm ini Xt QQ w0 ce sl pc lv st w := by
  intro p e s m args below meth c H locs ls hC hl hP hD hS
  obtain ⟨hx, hb, hml, hown, hts, hr, hlk, hEK, hES, hin, hXt⟩ := id hC
  rcases hES.2.2 with h | ⟨t, h⟩
  · exact va_gets hx hb h hS hown (hts _ hlink) (fun _ h => h) d (k0 p e s m args below meth c H locs ls hC hl hP hD hS)
  · exact va_gets hx hb h hS hown (hts _ hlink) (fun _ h => h) d (k t p e s m args below meth c H locs ls hC hl hP hD hS)
theorem wf_math_min {i : Nat} {x y : Int32} (v : Int32) (hk : Cond.methodLink own i Lib.Math.min.name ∈ TBg ∧ Cond.static Lib.Math.min.name ∈ TBg ∧ Cond.initialized "java/lang/Math" ∈ TBg ∧ Cond.code Lib.Math.min.name Lib.Math.min.code 2 (some .int) ∈ TBg) (hf : 1 ≤ rm.frames) (hlo : (st.map fun v => v.category).sum + 13 ≤ rm.locals) (hc : ce ≤ rm.cells ∧ sl ≤ rm.slots) (hv : (if y < x then y else x) = v) (d : decode cc pc = .ok (.invokestatic i, 3)) (k : WF l E own cc nL ret rm ini Xt QQ w0 ce sl (pc + 3) lv (.int v :: st) w) : WF l E own cc nL ret rm ini Xt QQ w0 ce sl pc lv (.int y :: .int x :: st) w := by
  intro p e s m args below meth c H locs ls hC hl hP hD hS
  obtain ⟨hx, hb, hml, hown, hts, hr, hlk, hEK, hES, hin, hXt⟩ := id hC
  subst hv
  exact va_mmin hx hb (by rw [hml, hl.1]) hown (hts _ hk.1) (hts _ hk.2.1) (hts _ hk.2.2.1) (hts _ hk.2.2.2) hf hlo hc.1 hc.2 d (k p e s m args below meth c H locs ls hC hl hP hD hS)
theorem wf_math_max {i : Nat} {x y : Int32} (v : Int32) (hk : Cond.methodLink own i Lib.Math.max.name ∈ TBg ∧ Cond.static Lib.Math.max.name ∈ TBg ∧ Cond.initialized "java/lang/Math" ∈ TBg ∧ Cond.code Lib.Math.max.name Lib.Math.max.code 2 (some .int) ∈ TBg) (hf : 1 ≤ rm.frames) (hlo : (st.map fun v => v.category).sum + 13 ≤ rm.locals) (hc : ce ≤ rm.cells ∧ sl ≤ rm.slots) (hv : (if x < y then y else x) = v) (d : decode cc pc = .ok (.invokestatic i, 3)) (k : WF l E own cc nL ret rm ini Xt QQ w0 ce sl (pc + 3) lv (.int v :: st) w) : WF l E own cc nL ret rm ini Xt QQ w0 ce sl pc lv (.int y :: .int x :: st) w := by
  intro p e s m args below meth c H locs ls hC hl hP hD hS
  obtain ⟨hx, hb, hml, hown, hts, hr, hlk, hEK, hES, hin, hXt⟩ := id hC
  subst hv
  exact va_mmax hx hb (by rw [hml, hl.1]) hown (hts _ hk.1) (hts _ hk.2.1) (hts _ hk.2.2.1) (hts _ hk.2.2.2) hf hlo hc.1 hc.2 d (k p e s m args below meth c H locs ls hC hl hP hD hS)

theorem wf_copyi {i a a0 n0 n1 : Nat} {f g : Nat → Int32} (q0 q1 : Nat) (n : Nat) (w' : va_W) (hk : Cond.methodLink own i arraycopyName ∈ TBg ∧ Cond.native arraycopyName ∈ TBg ∧ Cond.static arraycopyName ∈ TBg ∧ Cond.initialized "java/lang/System" ∈ TBg) (he0 : w[q0]? = some (a0, .inl (E.2.1.1, n0, .inl f))) (he1 : w[q1]? = some (a, .inl (E.2.1.1, n1, .inl g))) (h4 : n ≤ n0) (h5 : n ≤ n1) (h6 : n ≤ 1024) (hf : 1 ≤ rm.frames) (hlo : (st.map fun v => v.category).sum + (nativeFrameWords "java/lang/System" "arraycopy" 5 + 11) ≤ rm.locals) (hw : w.set q1 (a, .inl (E.2.1.1, n1, .inl (va_cpy f g 0 0 n))) = w') (d : decode cc pc = .ok (.invokestatic i, 3)) (k : WF l E own cc nL ret rm ini Xt QQ w0 ce sl (pc + 3) lv st w') : WF l E own cc nL ret rm ini Xt QQ w0 ce sl pc lv (.int (nI n) :: .int (nI 0) :: .ref a :: .int (nI 0) :: .ref a0 :: st) w := by
  intro p e s m args below meth c H locs ls hC hl hP hD hS
  obtain ⟨hx, hb, hml, hown, hts, hr, hlk, hEK, hES, hin, hXt⟩ := id hC
  subst hw
  have e0 : (nI 0).toNatClampNeg = 0 := nI_clamp (by decide)
  have en : (nI n).toNatClampNeg = n := nI_clamp (by omega)
  refine va_copyi hx hb (by rw [hml, hl.1]) hown (hts _ hk.1) (hts _ hk.2.1) (hts _ hk.2.2.1) (hts _ hk.2.2.2) hEK.1 hP hD hS q0 q1 0 0 he0 he1 rfl rfl rfl (nI_pos (by decide)) (nI_pos (by decide)) (nI_pos (by omega)) (by rw [e0, en]; omega) (by rw [e0, en]; omega) (fun i hi => rfl) hf hlo d (fun H locs hP hD hS => ?_)
  rw [e0, en] at hP hD
  exact k p e s m args below meth c H locs ls hC hl hP hD hS
theorem wf_new {C : String} {T : u_T} {N ci i : Nat} (fs : List Value) (ty : Nat → FieldType) (hin : ∀ w ∈ u_ws C T N, w ∈ TBg) (hty : ∀ k, k < N → parseFieldDescriptor (T k).2.2.1 = some (ty k)) (hcl : Cond.classLink own i C ∈ TBg) (hinst : Cond.instantiable C N ∈ TBg) (hini : Cond.initialized C ∈ TBg) (hc : vwCl[ci]? = some (C, T, N)) (hfs : ∀ j, j < N → defaultValue (ty j) = vp_V fs j) (hcells : ce + 1 ≤ rm.cells) (hslots : sl + N ≤ rm.slots) (d : decode cc pc = .ok (.new i, 3))
    (k : ∀ q : Nat, WF l E own cc nL ret rm ini Xt QQ w0 (ce + 1) (sl + N) (pc + 3) lv (.ref q :: st) (w ++ [(q, .inr (ci, fs))])) : WF l E own cc nL ret rm ini Xt QQ w0 ce sl pc lv st w := by
  intro p e s m args below meth c H locs ls hC hl hP hD hS
  obtain ⟨hx, hb, hml, hown, hts, hr, hlk, hEK, hES, hni, hXt⟩ := id hC
  exact va_new hx hb hts hin ty hty hown (hts _ hcl) (hts _ hinst) (hts _ hini) hEK.1 hP hD hS (fun q h => Or.inr h) hc hfs hcells hslots d (fun q H hP hD hS => k q p e s m args below meth c H locs ls hC hl hP hD hS)
theorem wf_newi (N : Nat) (harr : Cond.arrayClass .int ∈ TBg) (hN : N ≤ 1024) (hcells : ce + 1 ≤ rm.cells) (hslots : sl + N ≤ rm.slots) (d : decode cc pc = .ok (.newarray .int, 2))
    (k : ∀ q : Nat, WF l E own cc nL ret rm ini Xt QQ w0 (ce + 1) (sl + N) (pc + 2) lv (.ref q :: st) (w ++ [(q, .inl (E.2.1.1, N, .inl (fun _ => 0)))])) : WF l E own cc nL ret rm ini Xt QQ w0 ce sl pc lv (.int (nI N) :: st) w := by
  intro p e s m args below meth c H locs ls hC hl hP hD hS
  obtain ⟨hx, hb, hml, hown, hts, hr, hlk, hEK, hES, hin, hXt⟩ := id hC
  refine va_newa (atype := .int) (ty := .int) (N' := N) (a0 := (N, .inl (fun _ => 0))) hx hb (hts _ harr) rfl hEK.1 hP hD hS (fun q h => Or.inr h) (fun cA => rfl) (nI_pos (by omega)) (nI_clamp (by omega)) (by show N * 4 ≤ _; omega) hcells hslots d (fun q cA H hK hP hD hS => ?_)
  have e1 : cA = E.2.1.1 := by
    have h1 := (hK.2 3 (cA, .int) rfl).2
    have h2 := (hK.2 0 (E.2.1.1, .int) rfl).2
    exact Option.some.inj (h1.symm.trans h2)
  subst e1
  exact k q p e s m args below meth c H locs ls hC hl hP hD hS
theorem wf_newc (N : Nat) (harr : Cond.arrayClass .char ∈ TBg) (hN : N ≤ 1024) (hcells : ce + 1 ≤ rm.cells) (hslots : sl + N ≤ rm.slots) (d : decode cc pc = .ok (.newarray .char, 2))
    (k : ∀ q : Nat, WF l E own cc nL ret rm ini Xt QQ w0 (ce + 1) (sl + N) (pc + 2) lv (.ref q :: st) (w ++ [(q, .inl (E.2.1.2.1, N, .inl (fun _ => 0)))])) : WF l E own cc nL ret rm ini Xt QQ w0 ce sl pc lv (.int (nI N) :: st) w := by
  intro p e s m args below meth c H locs ls hC hl hP hD hS
  obtain ⟨hx, hb, hml, hown, hts, hr, hlk, hEK, hES, hin, hXt⟩ := id hC
  refine va_newa (atype := .char) (ty := .char) (N' := N) (a0 := (N, .inl (fun _ => 0))) hx hb (hts _ harr) rfl hEK.1 hP hD hS (fun q h => Or.inr h) (fun cA => rfl) (nI_pos (by omega)) (nI_clamp (by omega)) (by show N * 2 ≤ _; omega) hcells hslots d (fun q cA H hK hP hD hS => ?_)
  have e1 : cA = E.2.1.2.1 := by
    have h1 := (hK.2 3 (cA, .char) rfl).2
    have h2 := (hK.2 1 (E.2.1.2.1, .char) rfl).2
    exact Option.some.inj (h1.symm.trans h2)
  subst e1
  exact k q p e s m args below meth c H locs ls hC hl hP hD hS
theorem wf_objInit {i a : Nat} (hl0 : Cond.methodLink own i objectInit ∈ TBg ∧ Cond.instanceMethod objectInit ∈ TBg ∧ Cond.code objectInit ⟨#[0xb1]⟩ 1 none ∈ TBg) (hf : 1 ≤ rm.frames) (hlo : (st.map fun v => v.category).sum + 12 ≤ rm.locals) (d : decode cc pc = .ok (.invokespecial i, 3)) (k : WF l E own cc nL ret rm ini Xt QQ w0 ce sl (pc + 3) lv st w) : WF l E own cc nL ret rm ini Xt QQ w0 ce sl pc lv (.ref a :: st) w := by
  intro p e s m args below meth c H locs ls hC hl hP hD hS
  obtain ⟨hx, hb, hml, hown, hts, hr, hlk, hEK, hES, hin, hXt⟩ := id hC
  exact W.objInit hx hb hown (hts _ hl0.1) (hts _ hl0.2.1) (hts _ hl0.2.2) rfl (by rw [hml]; exact hl.1) rfl d hf (by show 2 * 0 + _ + 12 ≤ _; omega) (k p e s m args below meth c H locs ls hC hl hP hD hS)

theorem wf_iret {Post : Option Value → va_W → Prop} {v : Int32} (ty : FieldType) (hret : ret = some ty) (hn : narrow ty (.int v) = .int v) (hc : ce = rm.cells ∧ sl = rm.slots) (hp : Post (some (.int v)) w) (d : decode cc pc = .ok (.ireturn, 1)) : WF l E own cc nL ret rm ini Xt (QM E w0 Post rm) w0 ce sl pc lv [.int v] w := by
  intro p e s m args below meth c H locs ls hC hl hP hD hS
  obtain ⟨hx, hb, hml, hown, hts, hr, hlk, hEK, hES, hin, hXt⟩ := id hC
  obtain ⟨rfl, rfl⟩ := hc
  exact W.zret hx hb (hr.trans hret) hn (fun t ht hW => ⟨⟨_, w, rfl, hp, by rw [ht]; exact hP, hD⟩, hS.F ht⟩) hS.2.2 d
theorem wf_vret {Post : Option Value → va_W → Prop} (hret : ret = none) (hc : ce = rm.cells ∧ sl = rm.slots) (hp : Post none w) (d : decode cc pc = .ok (.return_, 1)) : WF l E own cc nL ret rm ini Xt (QM E w0 Post rm) w0 ce sl pc lv [] w := by
  intro p e s m args below meth c H locs ls hC hl hP hD hS
  obtain ⟨hx, hb, hml, hown, hts, hr, hlk, hEK, hES, hin, hXt⟩ := id hC
  obtain ⟨rfl, rfl⟩ := hc
  exact W.vret hx hb (hr.trans hret) (fun t ht hW => ⟨⟨_, w, rfl, hp, by rw [ht]; exact hP, hD⟩, hS.F ht⟩) hS.2.2 d
theorem wf_aret {Post : Option Value → va_W → Prop} {a : Nat} (cn : String) (hret : ret = some (.object cn)) (hc : ce = rm.cells ∧ sl = rm.slots) (hp : Post (some (.ref a)) w) (d : decode cc pc = .ok (.areturn, 1)) : WF l E own cc nL ret rm ini Xt (QM E w0 Post rm) w0 ce sl pc lv [.ref a] w := by
  intro p e s m args below meth c H locs ls hC hl hP hD hS
  obtain ⟨hx, hb, hml, hown, hts, hr, hlk, hEK, hES, hin, hXt⟩ := id hC
  obtain ⟨rfl, rfl⟩ := hc
  exact W.aret hx hb (hr.trans hret) (Or.inl ⟨cn, rfl⟩) (Or.inr ⟨a, rfl⟩) (fun t ht hW => ⟨⟨_, w, rfl, hp, by rw [ht]; exact hP, hD⟩, hS.F ht⟩) hS.2.2 d
/-- a contract's end may say less -/
theorem CT.weaken {y : MethodName} {b : ByteArray} {mL : Nat} {as : List Value} {Post Post' : Option Value → va_W → Prop} (h : CT l E y b mL ret rm as w Post) (hp : ∀ v w2, Post v w2 → Post' v w2) : CT l E y b mL ret rm as w Post' := by
  intro sz
  have h1 := h sz
  refine fun p e ha hc hk s m args below hf hap hP hK => ?_
  obtain ⟨t, o, a1, a2, a3, ⟨⟨⟨v, w2, b1, b2, b3⟩, b4⟩, b5⟩⟩ := h1 p e ha hc hk s m args below hf hap hP hK
  exact ⟨t, o, a1, a2, a3, ⟨⟨⟨v, w2, b1, hp v w2 b2, b3⟩, b4⟩, b5⟩⟩
/-- the end that says all: this value, this world -/
def IS (r : Option Value) (w2 : va_W) : Option Value → va_W → Prop := fun v w => v = r ∧ w = w2

end WFS
end
section
theorem fl_X2_39 : Cond.fieldLink RX2 39 (TX2 0).1 (TX2 0).2.1 (TX2 0).2.2.1 ∈ TBg := tb_of 116 (by decide +kernel) (by decide +kernel)
theorem fl_X2_9 : Cond.fieldLink RX2 9 (TX2 1).1 (TX2 1).2.1 (TX2 1).2.2.1 ∈ TBg := tb_of 117 (by decide +kernel) (by decide +kernel)
theorem fl_X8_90 : Cond.fieldLink RX8 90 (TX2 1).1 (TX2 1).2.1 (TX2 1).2.2.1 ∈ TBg := tb_of 118 (by decide +kernel) (by decide +kernel)
theorem fl_X2_15 : Cond.fieldLink RX2 15 (TX2 2).1 (TX2 2).2.1 (TX2 2).2.2.1 ∈ TBg := tb_of 119 (by decide +kernel) (by decide +kernel)
theorem fl_X8_93 : Cond.fieldLink RX8 93 (TX2 2).1 (TX2 2).2.1 (TX2 2).2.2.1 ∈ TBg := tb_of 120 (by decide +kernel) (by decide +kernel)
theorem fl_X2_18 : Cond.fieldLink RX2 18 (TX2 3).1 (TX2 3).2.1 (TX2 3).2.2.1 ∈ TBg := tb_of 121 (by decide +kernel) (by decide +kernel)
theorem fl_X8_96 : Cond.fieldLink RX8 96 (TX2 3).1 (TX2 3).2.1 (TX2 3).2.2.1 ∈ TBg := tb_of 122 (by decide +kernel) (by decide +kernel)
theorem fl_X6_9 : Cond.fieldLink RX6 9 (TX2 4).1 (TX2 4).2.1 (TX2 4).2.2.1 ∈ TBg := tb_of 123 (by decide +kernel) (by decide +kernel)
theorem fl_X2_49 : Cond.fieldLink RX2 49 (TX2 4).1 (TX2 4).2.1 (TX2 4).2.2.1 ∈ TBg := tb_of 124 (by decide +kernel) (by decide +kernel)
theorem fl_X8_68 : Cond.fieldLink RX8 68 (TX2 4).1 (TX2 4).2.1 (TX2 4).2.2.1 ∈ TBg := tb_of 125 (by decide +kernel) (by decide +kernel)
theorem fl_X2_21 : Cond.fieldLink RX2 21 (TX2 5).1 (TX2 5).2.1 (TX2 5).2.2.1 ∈ TBg := tb_of 126 (by decide +kernel) (by decide +kernel)
theorem fl_X8_115 : Cond.fieldLink RX8 115 (TX2 5).1 (TX2 5).2.1 (TX2 5).2.2.1 ∈ TBg := tb_of 127 (by decide +kernel) (by decide +kernel)
theorem fl_X2_24 : Cond.fieldLink RX2 24 (TX2 6).1 (TX2 6).2.1 (TX2 6).2.2.1 ∈ TBg := tb_of 128 (by decide +kernel) (by decide +kernel)
theorem fl_X8_118 : Cond.fieldLink RX8 118 (TX2 6).1 (TX2 6).2.1 (TX2 6).2.2.1 ∈ TBg := tb_of 129 (by decide +kernel) (by decide +kernel)
theorem fl_X2_27 : Cond.fieldLink RX2 27 (TX2 7).1 (TX2 7).2.1 (TX2 7).2.2.1 ∈ TBg := tb_of 130 (by decide +kernel) (by decide +kernel)
theorem fl_X8_121 : Cond.fieldLink RX8 121 (TX2 7).1 (TX2 7).2.1 (TX2 7).2.2.1 ∈ TBg := tb_of 131 (by decide +kernel) (by decide +kernel)
theorem fl_X2_30 : Cond.fieldLink RX2 30 (TX2 8).1 (TX2 8).2.1 (TX2 8).2.2.1 ∈ TBg := tb_of 132 (by decide +kernel) (by decide +kernel)
theorem fl_X8_124 : Cond.fieldLink RX8 124 (TX2 8).1 (TX2 8).2.1 (TX2 8).2.2.1 ∈ TBg := tb_of 133 (by decide +kernel) (by decide +kernel)
theorem fl_X2_53 : Cond.fieldLink RX2 53 (TX2 9).1 (TX2 9).2.1 (TX2 9).2.2.1 ∈ TBg := tb_of 134 (by decide +kernel) (by decide +kernel)
theorem fl_X8_72 : Cond.fieldLink RX8 72 (TX2 9).1 (TX2 9).2.1 (TX2 9).2.2.1 ∈ TBg := tb_of 135 (by decide +kernel) (by decide +kernel)
theorem fl_X2_33 : Cond.fieldLink RX2 33 (TX2 10).1 (TX2 10).2.1 (TX2 10).2.2.1 ∈ TBg := tb_of 136 (by decide +kernel) (by decide +kernel)
theorem fl_X8_138 : Cond.fieldLink RX8 138 (TX2 10).1 (TX2 10).2.1 (TX2 10).2.2.1 ∈ TBg := tb_of 137 (by decide +kernel) (by decide +kernel)
theorem fl_X2_36 : Cond.fieldLink RX2 36 (TX2 11).1 (TX2 11).2.1 (TX2 11).2.2.1 ∈ TBg := tb_of 138 (by decide +kernel) (by decide +kernel)
theorem fl_X8_194 : Cond.fieldLink RX8 194 (TX2 11).1 (TX2 11).2.1 (TX2 11).2.2.1 ∈ TBg := tb_of 139 (by decide +kernel) (by decide +kernel)
theorem fl_X2_56 : Cond.fieldLink RX2 56 (TX2 12).1 (TX2 12).2.1 (TX2 12).2.2.1 ∈ TBg := tb_of 140 (by decide +kernel) (by decide +kernel)
theorem fl_X8_153 : Cond.fieldLink RX8 153 (TX2 12).1 (TX2 12).2.1 (TX2 12).2.2.1 ∈ TBg := tb_of 141 (by decide +kernel) (by decide +kernel)
theorem fl_X2_59 : Cond.fieldLink RX2 59 (TX2 13).1 (TX2 13).2.1 (TX2 13).2.2.1 ∈ TBg := tb_of 142 (by decide +kernel) (by decide +kernel)
theorem fl_X8_105 : Cond.fieldLink RX8 105 (TX2 13).1 (TX2 13).2.1 (TX2 13).2.2.1 ∈ TBg := tb_of 143 (by decide +kernel) (by decide +kernel)
theorem fl_X4_9 : Cond.fieldLink RX4 9 (TX4 0).1 (TX4 0).2.1 (TX4 0).2.2.1 ∈ TBg := tb_of 180 (by decide +kernel) (by decide +kernel)
theorem fl_X4_15 : Cond.fieldLink RX4 15 (TX4 1).1 (TX4 1).2.1 (TX4 1).2.2.1 ∈ TBg := tb_of 181 (by decide +kernel) (by decide +kernel)
theorem fl_X8_239 : Cond.fieldLink RX8 239 (TX4 1).1 (TX4 1).2.1 (TX4 1).2.2.1 ∈ TBg := tb_of 182 (by decide +kernel) (by decide +kernel)
theorem fl_X8_30 : Cond.fieldLink RX8 30 (TX8 0).1 (TX8 0).2.1 (TX8 0).2.2.1 ∈ TBg := tb_of 189 (by decide +kernel) (by decide +kernel)
theorem fl_X8_36 : Cond.fieldLink RX8 36 (TX8 1).1 (TX8 1).2.1 (TX8 1).2.2.1 ∈ TBg := tb_of 190 (by decide +kernel) (by decide +kernel)
theorem fl_X8_39 : Cond.fieldLink RX8 39 (TX8 2).1 (TX8 2).2.1 (TX8 2).2.2.1 ∈ TBg := tb_of 191 (by decide +kernel) (by decide +kernel)
theorem fl_X8_232 : Cond.fieldLink RX8 232 (TX8 3).1 (TX8 3).2.1 (TX8 3).2.2.1 ∈ TBg := tb_of 192 (by decide +kernel) (by decide +kernel)
theorem fl_X8_45 : Cond.fieldLink RX8 45 (TX8 4).1 (TX8 4).2.1 (TX8 4).2.2.1 ∈ TBg := tb_of 193 (by decide +kernel) (by decide +kernel)
theorem fl_X8_49 : Cond.fieldLink RX8 49 (TX8 5).1 (TX8 5).2.1 (TX8 5).2.2.1 ∈ TBg := tb_of 194 (by decide +kernel) (by decide +kernel)
theorem fl_X8_202 : Cond.fieldLink RX8 202 (TX8 6).1 (TX8 6).2.1 (TX8 6).2.2.1 ∈ TBg := tb_of 195 (by decide +kernel) (by decide +kernel)
theorem fl_X8_53 : Cond.fieldLink RX8 53 (TX8 7).1 (TX8 7).2.1 (TX8 7).2.2.1 ∈ TBg := tb_of 196 (by decide +kernel) (by decide +kernel)
theorem fl_J0_38 : Cond.fieldLink RJ0 38 "java/lang/String" "COMPACT_STRINGS" "Z" ∈ TBg := tb_of 266 (by decide +kernel) (by decide +kernel)
theorem fl_J0_1053 : Cond.fieldLink RJ0 1053 "jdk/internal/util/Preconditions" "SIOOBE_FORMATTER" "Ljava/util/function/BiFunction;" ∈ TBg := tb_of 282 (by decide +kernel) (by decide +kernel)
theorem fl_J2_44 : Cond.fieldLink RJ2 44 "java/lang/StringUTF16" "$assertionsDisabled" "Z" ∈ TBg := tb_of 300 (by decide +kernel) (by decide +kernel)
theorem fl_J2_59 : Cond.fieldLink RJ2 59 "java/lang/StringUTF16" "HI_BYTE_SHIFT" "I" ∈ TBg := tb_of 302 (by decide +kernel) (by decide +kernel)
theorem fl_J2_63 : Cond.fieldLink RJ2 63 "java/lang/StringUTF16" "LO_BYTE_SHIFT" "I" ∈ TBg := tb_of 304 (by decide +kernel) (by decide +kernel)
theorem fl_X9_7 : Cond.fieldLink RX9 7 (TX9 0).1 (TX9 0).2.1 (TX9 0).2.2.1 ∈ TBg := tb_of 713 (by decide +kernel) (by decide +kernel)
theorem fl_X9_13 : Cond.fieldLink RX9 13 (TX9 1).1 (TX9 1).2.1 (TX9 1).2.2.1 ∈ TBg := tb_of 714 (by decide +kernel) (by decide +kernel)
theorem fl_X9_16 : Cond.fieldLink RX9 16 (TX9 2).1 (TX9 2).2.1 (TX9 2).2.2.1 ∈ TBg := tb_of 715 (by decide +kernel) (by decide +kernel)
theorem fl_X9_19 : Cond.fieldLink RX9 19 (TX9 3).1 (TX9 3).2.1 (TX9 3).2.2.1 ∈ TBg := tb_of 716 (by decide +kernel) (by decide +kernel)
theorem fl_X9_22 : Cond.fieldLink RX9 22 (TX9 4).1 (TX9 4).2.1 (TX9 4).2.2.1 ∈ TBg := tb_of 717 (by decide +kernel) (by decide +kernel)
theorem fl_X9_25 : Cond.fieldLink RX9 25 (TX9 5).1 (TX9 5).2.1 (TX9 5).2.2.1 ∈ TBg := tb_of 718 (by decide +kernel) (by decide +kernel)
theorem fl_X9_28 : Cond.fieldLink RX9 28 (TX9 6).1 (TX9 6).2.1 (TX9 6).2.2.1 ∈ TBg := tb_of 719 (by decide +kernel) (by decide +kernel)
theorem fl_X9_31 : Cond.fieldLink RX9 31 (TX9 7).1 (TX9 7).2.1 (TX9 7).2.2.1 ∈ TBg := tb_of 720 (by decide +kernel) (by decide +kernel)
theorem fl_X9_34 : Cond.fieldLink RX9 34 (TX9 8).1 (TX9 8).2.1 (TX9 8).2.2.1 ∈ TBg := tb_of 721 (by decide +kernel) (by decide +kernel)
theorem fl_X9_37 : Cond.fieldLink RX9 37 (TX9 9).1 (TX9 9).2.1 (TX9 9).2.2.1 ∈ TBg := tb_of 722 (by decide +kernel) (by decide +kernel)
theorem fl_X9_59 : Cond.fieldLink RX9 59 (TX9 10).1 (TX9 10).2.1 (TX9 10).2.2.1 ∈ TBg := tb_of 723 (by decide +kernel) (by decide +kernel)
theorem fl_X9_63 : Cond.fieldLink RX9 63 (TX9 11).1 (TX9 11).2.1 (TX9 11).2.2.1 ∈ TBg := tb_of 724 (by decide +kernel) (by decide +kernel)
theorem fl_X9_139 : Cond.fieldLink RX9 139 (TX9 12).1 (TX9 12).2.1 (TX9 12).2.2.1 ∈ TBg := tb_of 725 (by decide +kernel) (by decide +kernel)
theorem fl_X9_142 : Cond.fieldLink RX9 142 (TX9 13).1 (TX9 13).2.1 (TX9 13).2.2.1 ∈ TBg := tb_of 726 (by decide +kernel) (by decide +kernel)
theorem fl_X9_40 : Cond.fieldLink RX9 40 (TX9 14).1 (TX9 14).2.1 (TX9 14).2.2.1 ∈ TBg := tb_of 727 (by decide +kernel) (by decide +kernel)
theorem fl_X9_43 : Cond.fieldLink RX9 43 (TX9 15).1 (TX9 15).2.1 (TX9 15).2.2.1 ∈ TBg := tb_of 728 (by decide +kernel) (by decide +kernel)
theorem fl_X9_46 : Cond.fieldLink RX9 46 (TX9 16).1 (TX9 16).2.1 (TX9 16).2.2.1 ∈ TBg := tb_of 729 (by decide +kernel) (by decide +kernel)
theorem fl_X9_49 : Cond.fieldLink RX9 49 (TX9 17).1 (TX9 17).2.1 (TX9 17).2.2.1 ∈ TBg := tb_of 730 (by decide +kernel) (by decide +kernel)
theorem fl_X9_70 : Cond.fieldLink RX9 70 (TX9 18).1 (TX9 18).2.1 (TX9 18).2.2.1 ∈ TBg := tb_of 731 (by decide +kernel) (by decide +kernel)
theorem fl_X9_77 : Cond.fieldLink RX9 77 (TX9 19).1 (TX9 19).2.1 (TX9 19).2.2.1 ∈ TBg := tb_of 732 (by decide +kernel) (by decide +kernel)
theorem fl_X9_91 : Cond.fieldLink RX9 91 (TX9 20).1 (TX9 20).2.1 (TX9 20).2.2.1 ∈ TBg := tb_of 733 (by decide +kernel) (by decide +kernel)
theorem fl_X9_52 : Cond.fieldLink RX9 52 (TX9 21).1 (TX9 21).2.1 (TX9 21).2.2.1 ∈ TBg := tb_of 734 (by decide +kernel) (by decide +kernel)
theorem fl_X9_145 : Cond.fieldLink RX9 145 (TX9 22).1 (TX9 22).2.1 (TX9 22).2.2.1 ∈ TBg := tb_of 735 (by decide +kernel) (by decide +kernel)
theorem fl_X9_125 : Cond.fieldLink RX9 125 (TX9 23).1 (TX9 23).2.1 (TX9 23).2.2.1 ∈ TBg := tb_of 736 (by decide +kernel) (by decide +kernel)
theorem fl_X9_129 : Cond.fieldLink RX9 129 (TX9 24).1 (TX9 24).2.1 (TX9 24).2.2.1 ∈ TBg := tb_of 737 (by decide +kernel) (by decide +kernel)
theorem fl_X9_55 : Cond.fieldLink RX9 55 (TX9 25).1 (TX9 25).2.1 (TX9 25).2.2.1 ∈ TBg := tb_of 738 (by decide +kernel) (by decide +kernel)
theorem fl_X9_200 : Cond.fieldLink RX9 200 (TX9 26).1 (TX9 26).2.1 (TX9 26).2.2.1 ∈ TBg := tb_of 739 (by decide +kernel) (by decide +kernel)
theorem fl_J0_9 : Cond.fieldLink RJ0 9 "java/lang/String" "value" "[B" ∈ TBg := tb_of 1051 (by decide +kernel) (by decide +kernel)
theorem fl_J0_15 : Cond.fieldLink RJ0 15 "java/lang/String" "coder" "B" ∈ TBg := tb_of 1052 (by decide +kernel) (by decide +kernel)
theorem con_J2_227 : Cond.constant RJ2 227 (65536) ∈ TBg := tb_of 339 (by decide +kernel) (by decide +kernel)
theorem con_J11_110 : Cond.constant RJ11 110 (55232) ∈ TBg := tb_of 364 (by decide +kernel) (by decide +kernel)
theorem con_J11_76 : Cond.constant RJ11 76 (56320) ∈ TBg := tb_of 368 (by decide +kernel) (by decide +kernel)
theorem con_J6_265 : Cond.constant RJ6 265 (1431655765) ∈ TBg := tb_of 540 (by decide +kernel) (by decide +kernel)
theorem con_J6_266 : Cond.constant RJ6 266 (858993459) ∈ TBg := tb_of 541 (by decide +kernel) (by decide +kernel)
theorem con_J6_267 : Cond.constant RJ6 267 (252645135) ∈ TBg := tb_of 542 (by decide +kernel) (by decide +kernel)
theorem con_X8_197 : Cond.constant RX8 197 (1000000000) ∈ TBg := tb_of 633 (by decide +kernel) (by decide +kernel)
theorem con_X8_225 : Cond.constant RX8 225 (1664525) ∈ TBg := tb_of 680 (by decide +kernel) (by decide +kernel)
theorem con_X8_226 : Cond.constant RX8 226 (1013904223) ∈ TBg := tb_of 681 (by decide +kernel) (by decide +kernel)
theorem con_X8_227 : Cond.constant RX8 227 (2147483647) ∈ TBg := tb_of 682 (by decide +kernel) (by decide +kernel)
theorem con_X9_58 : Cond.constant RX9 58 (1000000000) ∈ TBg := tb_of 998 (by decide +kernel) (by decide +kernel)
theorem con_X9_206 : Cond.constant RX9 206 (1664525) ∈ TBg := tb_of 1039 (by decide +kernel) (by decide +kernel)
theorem con_X9_207 : Cond.constant RX9 207 (1013904223) ∈ TBg := tb_of 1040 (by decide +kernel) (by decide +kernel)
theorem con_X9_208 : Cond.constant RX9 208 (2147483647) ∈ TBg := tb_of 1041 (by decide +kernel) (by decide +kernel)
theorem cl_L_7 : Cond.classLink RL 7 RX8 ∈ TBg := tb_of 59 (by decide +kernel) (by decide +kernel)
theorem cl_X8_7 : Cond.classLink RX8 7 RX6 ∈ TBg := tb_of 67 (by decide +kernel) (by decide +kernel)
theorem cl_X8_10 : Cond.classLink RX8 10 RX7 ∈ TBg := tb_of 75 (by decide +kernel) (by decide +kernel)
theorem cl_X8_13 : Cond.classLink RX8 13 RX0 ∈ TBg := tb_of 82 (by decide +kernel) (by decide +kernel)
theorem cl_X8_16 : Cond.classLink RX8 16 RX5 ∈ TBg := tb_of 89 (by decide +kernel) (by decide +kernel)
theorem cl_X8_19 : Cond.classLink RX8 19 RX3 ∈ TBg := tb_of 96 (by decide +kernel) (by decide +kernel)
theorem cl_X8_22 : Cond.classLink RX8 22 RX1 ∈ TBg := tb_of 103 (by decide +kernel) (by decide +kernel)
theorem cl_X8_25 : Cond.classLink RX8 25 RX2 ∈ TBg := tb_of 110 (by decide +kernel) (by decide +kernel)
theorem cl_X8_42 : Cond.classLink RX8 42 RX4 ∈ TBg := tb_of 174 (by decide +kernel) (by decide +kernel)
theorem cl_L_10 : Cond.classLink RL 10 RX9 ∈ TBg := tb_of 707 (by decide +kernel) (by decide +kernel)
theorem ini_L : Cond.initialized RL ∈ TBg := tb_of 40 (by decide +kernel) (by decide +kernel)
theorem ini_X8 : Cond.initialized RX8 ∈ TBg := tb_of 41 (by decide +kernel) (by decide +kernel)
theorem ini_X6 : Cond.initialized RX6 ∈ TBg := tb_of 42 (by decide +kernel) (by decide +kernel)
theorem ini_X7 : Cond.initialized RX7 ∈ TBg := tb_of 43 (by decide +kernel) (by decide +kernel)
theorem ini_X0 : Cond.initialized RX0 ∈ TBg := tb_of 44 (by decide +kernel) (by decide +kernel)
theorem ini_X5 : Cond.initialized RX5 ∈ TBg := tb_of 45 (by decide +kernel) (by decide +kernel)
theorem ini_X3 : Cond.initialized RX3 ∈ TBg := tb_of 46 (by decide +kernel) (by decide +kernel)
theorem ini_X1 : Cond.initialized RX1 ∈ TBg := tb_of 47 (by decide +kernel) (by decide +kernel)
theorem ini_X2 : Cond.initialized RX2 ∈ TBg := tb_of 48 (by decide +kernel) (by decide +kernel)
theorem ini_X4 : Cond.initialized RX4 ∈ TBg := tb_of 49 (by decide +kernel) (by decide +kernel)
theorem ini_X9 : Cond.initialized RX9 ∈ TBg := tb_of 50 (by decide +kernel) (by decide +kernel)
theorem ini_J0 : Cond.initialized RJ0 ∈ TBg := tb_of 51 (by decide +kernel) (by decide +kernel)
theorem ini_J1 : Cond.initialized RJ1 ∈ TBg := tb_of 52 (by decide +kernel) (by decide +kernel)
theorem ini_J3 : Cond.initialized RJ3 ∈ TBg := tb_of 53 (by decide +kernel) (by decide +kernel)
theorem ini_J2 : Cond.initialized RJ2 ∈ TBg := tb_of 54 (by decide +kernel) (by decide +kernel)
theorem ini_J9 : Cond.initialized RJ9 ∈ TBg := tb_of 55 (by decide +kernel) (by decide +kernel)
theorem ini_J11 : Cond.initialized RJ11 ∈ TBg := tb_of 56 (by decide +kernel) (by decide +kernel)
theorem ini_J6 : Cond.initialized RJ6 ∈ TBg := tb_of 57 (by decide +kernel) (by decide +kernel)
theorem ini_J10 : Cond.initialized RJ10 ∈ TBg := tb_of 58 (by decide +kernel) (by decide +kernel)
theorem ins_X8 : Cond.instantiable RX8 8 ∈ TBg := tb_of 60 (by decide +kernel) (by decide +kernel)
theorem ins_X6 : Cond.instantiable RX6 0 ∈ TBg := tb_of 69 (by decide +kernel) (by decide +kernel)
theorem ins_X7 : Cond.instantiable RX7 0 ∈ TBg := tb_of 76 (by decide +kernel) (by decide +kernel)
theorem ins_X0 : Cond.instantiable RX0 0 ∈ TBg := tb_of 83 (by decide +kernel) (by decide +kernel)
theorem ins_X5 : Cond.instantiable RX5 0 ∈ TBg := tb_of 90 (by decide +kernel) (by decide +kernel)
theorem ins_X3 : Cond.instantiable RX3 0 ∈ TBg := tb_of 97 (by decide +kernel) (by decide +kernel)
theorem ins_X1 : Cond.instantiable RX1 0 ∈ TBg := tb_of 104 (by decide +kernel) (by decide +kernel)
theorem ins_X2 : Cond.instantiable RX2 14 ∈ TBg := tb_of 111 (by decide +kernel) (by decide +kernel)
theorem ins_X4 : Cond.instantiable RX4 2 ∈ TBg := tb_of 175 (by decide +kernel) (by decide +kernel)
theorem ins_X9 : Cond.instantiable RX9 27 ∈ TBg := tb_of 708 (by decide +kernel) (by decide +kernel)
theorem cod_X8_init : Cond.code yX8_init cX8_init 2 none ∈ TBg := tb_of 63 (by decide +kernel) (by decide +kernel)
theorem cod_X6_init : Cond.code yX6_init cX6_init 1 none ∈ TBg := tb_of 72 (by decide +kernel) (by decide +kernel)
theorem cod_X7_init : Cond.code yX7_init cX7_init 1 none ∈ TBg := tb_of 79 (by decide +kernel) (by decide +kernel)
theorem cod_X0_init : Cond.code yX0_init cX0_init 1 none ∈ TBg := tb_of 86 (by decide +kernel) (by decide +kernel)
theorem cod_X5_init : Cond.code yX5_init cX5_init 1 none ∈ TBg := tb_of 93 (by decide +kernel) (by decide +kernel)
theorem cod_X3_init : Cond.code yX3_init cX3_init 1 none ∈ TBg := tb_of 100 (by decide +kernel) (by decide +kernel)
theorem cod_X1_init : Cond.code yX1_init cX1_init 1 none ∈ TBg := tb_of 107 (by decide +kernel) (by decide +kernel)
theorem cod_X2_init : Cond.code yX2_init cX2_init 2 none ∈ TBg := tb_of 114 (by decide +kernel) (by decide +kernel)
theorem cod_X4_init : Cond.code yX4_init cX4_init 1 none ∈ TBg := tb_of 178 (by decide +kernel) (by decide +kernel)
theorem cod_X8_letter : Cond.code yX8_letter cX8_letter 2 (some .int) ∈ TBg := tb_of 217 (by decide +kernel) (by decide +kernel)
theorem cod_X8_refuse : Cond.code yX8_refuse cX8_refuse 3 (some .int) ∈ TBg := tb_of 221 (by decide +kernel) (by decide +kernel)
theorem cod_X4_isFull : Cond.code yX4_isFull cX4_isFull 1 (some .boolean) ∈ TBg := tb_of 225 (by decide +kernel) (by decide +kernel)
theorem cod_X4_add : Cond.code yX4_add cX4_add 2 (some .int) ∈ TBg := tb_of 229 (by decide +kernel) (by decide +kernel)
theorem cod_X8_text : Cond.code yX8_text cX8_text 2 (some .int) ∈ TBg := tb_of 234 (by decide +kernel) (by decide +kernel)
theorem cod_X4_fault : Cond.code yX4_fault cX4_fault 5 (some .int) ∈ TBg := tb_of 238 (by decide +kernel) (by decide +kernel)
theorem cod_X4_misspeltPlace : Cond.code yX4_misspeltPlace cX4_misspeltPlace 4 (some .int) ∈ TBg := tb_of 242 (by decide +kernel) (by decide +kernel)
theorem cod_X4_letterAt : Cond.code yX4_letterAt cX4_letterAt 2 (some .char) ∈ TBg := tb_of 246 (by decide +kernel) (by decide +kernel)
theorem cod_X4_formBehind : Cond.code yX4_formBehind cX4_formBehind 1 (some (.object "java/lang/String")) ∈ TBg := tb_of 249 (by decide +kernel) (by decide +kernel)
theorem cod_J0_isEmpty_aae02 : Cond.code yJ0_isEmpty_aae02 cJ0_isEmpty_aae02 1 (some .boolean) ∈ TBg := tb_of 257 (by decide +kernel) (by decide +kernel)
theorem cod_J0_length_8abf5 : Cond.code yJ0_length_8abf5 cJ0_length_8abf5 1 (some .int) ∈ TBg := tb_of 261 (by decide +kernel) (by decide +kernel)
theorem cod_J0_coder_7d493 : Cond.code yJ0_coder_7d493 cJ0_coder_7d493 1 (some .byte) ∈ TBg := tb_of 265 (by decide +kernel) (by decide +kernel)
theorem cod_J0_charAt_5068e : Cond.code yJ0_charAt_5068e cJ0_charAt_5068e 2 (some .char) ∈ TBg := tb_of 271 (by decide +kernel) (by decide +kernel)
theorem cod_J0_isLatin1_aae02 : Cond.code yJ0_isLatin1_aae02 cJ0_isLatin1_aae02 1 (some .boolean) ∈ TBg := tb_of 275 (by decide +kernel) (by decide +kernel)
theorem cod_J1_charAt_3b067 : Cond.code yJ1_charAt_3b067 cJ1_charAt_3b067 2 (some .char) ∈ TBg := tb_of 278 (by decide +kernel) (by decide +kernel)
theorem cod_J0_checkIndex_df160 : Cond.code yJ0_checkIndex_df160 cJ0_checkIndex_df160 2 none ∈ TBg := tb_of 281 (by decide +kernel) (by decide +kernel)
theorem cod_J3_checkIndex_8e157 : Cond.code yJ3_checkIndex_8e157 cJ3_checkIndex_8e157 3 (some .int) ∈ TBg := tb_of 286 (by decide +kernel) (by decide +kernel)
theorem cod_J2_charAt_3b067 : Cond.code yJ2_charAt_3b067 cJ2_charAt_3b067 2 (some .char) ∈ TBg := tb_of 289 (by decide +kernel) (by decide +kernel)
theorem cod_J2_checkIndex_2214a : Cond.code yJ2_checkIndex_2214a cJ2_checkIndex_2214a 2 none ∈ TBg := tb_of 292 (by decide +kernel) (by decide +kernel)
theorem cod_J2_length_9d52b : Cond.code yJ2_length_9d52b cJ2_length_9d52b 1 (some .int) ∈ TBg := tb_of 295 (by decide +kernel) (by decide +kernel)
theorem cod_J2_getChar_3b067 : Cond.code yJ2_getChar_3b067 cJ2_getChar_3b067 2 (some .char) ∈ TBg := tb_of 299 (by decide +kernel) (by decide +kernel)
theorem cod_X4_isOfForm : Cond.code yX4_isOfForm cX4_isOfForm 2 (some .boolean) ∈ TBg := tb_of 308 (by decide +kernel) (by decide +kernel)
theorem cod_J0_indexOf_0f7a4 : Cond.code yJ0_indexOf_0f7a4 cJ0_indexOf_0f7a4 2 (some .int) ∈ TBg := tb_of 313 (by decide +kernel) (by decide +kernel)
theorem cod_J0_indexOf_7cf53 : Cond.code yJ0_indexOf_7cf53 cJ0_indexOf_7cf53 3 (some .int) ∈ TBg := tb_of 317 (by decide +kernel) (by decide +kernel)
theorem cod_J1_indexOf_4cfef : Cond.code yJ1_indexOf_4cfef cJ1_indexOf_4cfef 4 (some .int) ∈ TBg := tb_of 321 (by decide +kernel) (by decide +kernel)
theorem cod_J1_canEncode_9a6ad : Cond.code yJ1_canEncode_9a6ad cJ1_canEncode_9a6ad 1 (some .boolean) ∈ TBg := tb_of 324 (by decide +kernel) (by decide +kernel)
theorem cod_J9_max_7cf53 : Cond.code yJ9_max_7cf53 cJ9_max_7cf53 2 (some .int) ∈ TBg := tb_of 327 (by decide +kernel) (by decide +kernel)
theorem cod_J9_min_7cf53 : Cond.code yJ9_min_7cf53 cJ9_min_7cf53 2 (some .int) ∈ TBg := tb_of 330 (by decide +kernel) (by decide +kernel)
theorem cod_J1_indexOfChar_4cfef : Cond.code yJ1_indexOfChar_4cfef cJ1_indexOfChar_4cfef 6 (some .int) ∈ TBg := tb_of 333 (by decide +kernel) (by decide +kernel)
theorem cod_J2_indexOf_4cfef : Cond.code yJ2_indexOf_4cfef cJ2_indexOf_4cfef 4 (some .int) ∈ TBg := tb_of 336 (by decide +kernel) (by decide +kernel)
theorem cod_J2_indexOfChar_4cfef : Cond.code yJ2_indexOfChar_4cfef cJ2_indexOfChar_4cfef 4 (some .int) ∈ TBg := tb_of 342 (by decide +kernel) (by decide +kernel)
theorem cod_J2_checkBoundsBeginEnd_d044e : Cond.code yJ2_checkBoundsBeginEnd_d044e cJ2_checkBoundsBeginEnd_d044e 3 none ∈ TBg := tb_of 345 (by decide +kernel) (by decide +kernel)
theorem cod_J0_checkBoundsBeginEnd_23922 : Cond.code yJ0_checkBoundsBeginEnd_23922 cJ0_checkBoundsBeginEnd_23922 3 none ∈ TBg := tb_of 348 (by decide +kernel) (by decide +kernel)
theorem cod_J3_checkFromToIndex_8c36e : Cond.code yJ3_checkFromToIndex_8c36e cJ3_checkFromToIndex_8c36e 4 (some .int) ∈ TBg := tb_of 351 (by decide +kernel) (by decide +kernel)
theorem cod_J2_indexOfCharUnsafe_4cfef : Cond.code yJ2_indexOfCharUnsafe_4cfef cJ2_indexOfCharUnsafe_4cfef 5 (some .int) ∈ TBg := tb_of 354 (by decide +kernel) (by decide +kernel)
theorem cod_J2_indexOfSupplementary_4cfef : Cond.code yJ2_indexOfSupplementary_4cfef cJ2_indexOfSupplementary_4cfef 7 (some .int) ∈ TBg := tb_of 357 (by decide +kernel) (by decide +kernel)
theorem cod_J11_isValidCodePoint_9a6ad : Cond.code yJ11_isValidCodePoint_9a6ad cJ11_isValidCodePoint_9a6ad 2 (some .boolean) ∈ TBg := tb_of 360 (by decide +kernel) (by decide +kernel)
theorem cod_J11_highSurrogate_5068e : Cond.code yJ11_highSurrogate_5068e cJ11_highSurrogate_5068e 1 (some .char) ∈ TBg := tb_of 363 (by decide +kernel) (by decide +kernel)
theorem cod_J11_lowSurrogate_5068e : Cond.code yJ11_lowSurrogate_5068e cJ11_lowSurrogate_5068e 1 (some .char) ∈ TBg := tb_of 367 (by decide +kernel) (by decide +kernel)
theorem cod_X4_unfitPlace : Cond.code yX4_unfitPlace cX4_unfitPlace 6 (some .int) ∈ TBg := tb_of 372 (by decide +kernel) (by decide +kernel)
theorem cod_X4_beginsStatement : Cond.code yX4_beginsStatement cX4_beginsStatement 2 (some .boolean) ∈ TBg := tb_of 376 (by decide +kernel) (by decide +kernel)
theorem cod_X4_isFit : Cond.code yX4_isFit cX4_isFit 4 (some .boolean) ∈ TBg := tb_of 380 (by decide +kernel) (by decide +kernel)
theorem cod_X4_digitAt : Cond.code yX4_digitAt cX4_digitAt 2 (some .int) ∈ TBg := tb_of 384 (by decide +kernel) (by decide +kernel)
theorem cod_X8_isInk : Cond.code yX8_isInk cX8_isInk 1 (some .boolean) ∈ TBg := tb_of 387 (by decide +kernel) (by decide +kernel)
theorem cod_X4_areHours : Cond.code yX4_areHours cX4_areHours 2 (some .boolean) ∈ TBg := tb_of 390 (by decide +kernel) (by decide +kernel)
theorem cod_X4_tellTo : Cond.code yX4_tellTo cX4_tellTo 4 (some .int) ∈ TBg := tb_of 394 (by decide +kernel) (by decide +kernel)
theorem cod_X4_tellStatement : Cond.code yX4_tellStatement cX4_tellStatement 7 none ∈ TBg := tb_of 398 (by decide +kernel) (by decide +kernel)
theorem cod_X2_addWord : Cond.code yX2_addWord cX2_addWord 4 none ∈ TBg := tb_of 402 (by decide +kernel) (by decide +kernel)
theorem cod_X2_addBird : Cond.code yX2_addBird cX2_addBird 5 none ∈ TBg := tb_of 407 (by decide +kernel) (by decide +kernel)
theorem cod_X2_setBitter : Cond.code yX2_setBitter cX2_setBitter 3 none ∈ TBg := tb_of 411 (by decide +kernel) (by decide +kernel)
theorem cod_X2_setWatched : Cond.code yX2_setWatched cX2_setWatched 5 none ∈ TBg := tb_of 415 (by decide +kernel) (by decide +kernel)
theorem cod_X2_hasWord : Cond.code yX2_hasWord cX2_hasWord 2 (some .boolean) ∈ TBg := tb_of 419 (by decide +kernel) (by decide +kernel)
theorem cod_X4_clear : Cond.code yX4_clear cX4_clear 1 none ∈ TBg := tb_of 423 (by decide +kernel) (by decide +kernel)
theorem cod_X8_word : Cond.code yX8_word cX8_word 3 (some .int) ∈ TBg := tb_of 428 (by decide +kernel) (by decide +kernel)
theorem cod_X2_strength : Cond.code yX2_strength cX2_strength 3 (some .int) ∈ TBg := tb_of 433 (by decide +kernel) (by decide +kernel)
theorem cod_X2_isGone : Cond.code yX2_isGone cX2_isGone 2 (some .boolean) ∈ TBg := tb_of 437 (by decide +kernel) (by decide +kernel)
theorem cod_X2_isWatched : Cond.code yX2_isWatched cX2_isWatched 3 (some .boolean) ∈ TBg := tb_of 441 (by decide +kernel) (by decide +kernel)
theorem cod_X8_bird : Cond.code yX8_bird cX8_bird 3 (some .int) ∈ TBg := tb_of 445 (by decide +kernel) (by decide +kernel)
theorem cod_X2_hasBird : Cond.code yX2_hasBird cX2_hasBird 2 (some .boolean) ∈ TBg := tb_of 449 (by decide +kernel) (by decide +kernel)
theorem cod_X2_kindOf : Cond.code yX2_kindOf cX2_kindOf 2 (some (.object "EatenByDusk$Sparrow")) ∈ TBg := tb_of 453 (by decide +kernel) (by decide +kernel)
theorem cod_X6_choice : Cond.code yX6_choice cX6_choice 5 (some .int) ∈ TBg := tb_of 463 (by decide +kernel) (by decide +kernel)
theorem cod_X2_mayBeEaten : Cond.code yX2_mayBeEaten cX2_mayBeEaten 3 (some .boolean) ∈ TBg := tb_of 467 (by decide +kernel) (by decide +kernel)
theorem cod_X1_reaches : Cond.code yX1_reaches cX1_reaches 3 (some .boolean) ∈ TBg := tb_of 478 (by decide +kernel) (by decide +kernel)
theorem cod_X6_reaches : Cond.code yX6_reaches cX6_reaches 3 (some .boolean) ∈ TBg := tb_of 483 (by decide +kernel) (by decide +kernel)
theorem cod_X0_prefers : Cond.code yX0_prefers cX0_prefers 4 (some .boolean) ∈ TBg := tb_of 490 (by decide +kernel) (by decide +kernel)
theorem cod_X5_prefers : Cond.code yX5_prefers cX5_prefers 4 (some .boolean) ∈ TBg := tb_of 496 (by decide +kernel) (by decide +kernel)
theorem cod_X7_prefers : Cond.code yX7_prefers cX7_prefers 4 (some .boolean) ∈ TBg := tb_of 499 (by decide +kernel) (by decide +kernel)
theorem cod_X6_prefers : Cond.code yX6_prefers cX6_prefers 4 (some .boolean) ∈ TBg := tb_of 500 (by decide +kernel) (by decide +kernel)
theorem cod_X8_bitter : Cond.code yX8_bitter cX8_bitter 4 (some .int) ∈ TBg := tb_of 505 (by decide +kernel) (by decide +kernel)
theorem cod_X8_ink : Cond.code yX8_ink cX8_ink 4 (some .int) ∈ TBg := tb_of 511 (by decide +kernel) (by decide +kernel)
theorem cod_X8_watch : Cond.code yX8_watch cX8_watch 5 (some .int) ∈ TBg := tb_of 515 (by decide +kernel) (by decide +kernel)
theorem cod_X8_hour : Cond.code yX8_hour cX8_hour 1 (some .int) ∈ TBg := tb_of 520 (by decide +kernel) (by decide +kernel)
theorem cod_X2_passHour : Cond.code yX2_passHour cX2_passHour 7 (some .int) ∈ TBg := tb_of 524 (by decide +kernel) (by decide +kernel)
theorem cod_X2_countLeft : Cond.code yX2_countLeft cX2_countLeft 1 (some .int) ∈ TBg := tb_of 528 (by decide +kernel) (by decide +kernel)
theorem cod_X2_leftWords : Cond.code yX2_leftWords cX2_leftWords 1 (some .int) ∈ TBg := tb_of 532 (by decide +kernel) (by decide +kernel)
theorem cod_X2_allWords : Cond.code yX2_allWords cX2_allWords 1 (some .int) ∈ TBg := tb_of 536 (by decide +kernel) (by decide +kernel)
theorem cod_J6_bitCount_0f7a4 : Cond.code yJ6_bitCount_0f7a4 cJ6_bitCount_0f7a4 1 (some .int) ∈ TBg := tb_of 539 (by decide +kernel) (by decide +kernel)
theorem cod_X3_meals : Cond.code yX3_meals cX3_meals 1 (some .int) ∈ TBg := tb_of 552 (by decide +kernel) (by decide +kernel)
theorem cod_X6_meals : Cond.code yX6_meals cX6_meals 1 (some .int) ∈ TBg := tb_of 555 (by decide +kernel) (by decide +kernel)
theorem cod_X8_anew : Cond.code yX8_anew cX8_anew 1 (some .int) ∈ TBg := tb_of 560 (by decide +kernel) (by decide +kernel)
theorem cod_X8_left : Cond.code yX8_left cX8_left 4 (some .int) ∈ TBg := tb_of 564 (by decide +kernel) (by decide +kernel)
theorem cod_X8_mindAsNow : Cond.code yX8_mindAsNow cX8_mindAsNow 1 (some (.object "EatenByDusk$Garden")) ∈ TBg := tb_of 568 (by decide +kernel) (by decide +kernel)
theorem cod_X2_becomeAs : Cond.code yX2_becomeAs cX2_becomeAs 2 none ∈ TBg := tb_of 572 (by decide +kernel) (by decide +kernel)
theorem cod_X8_eaten : Cond.code yX8_eaten cX8_eaten 3 (some .int) ∈ TBg := tb_of 580 (by decide +kernel) (by decide +kernel)
theorem cod_X2_hourOfGoing : Cond.code yX2_hourOfGoing cX2_hourOfGoing 3 (some .int) ∈ TBg := tb_of 584 (by decide +kernel) (by decide +kernel)
theorem cod_X8_meanings : Cond.code yX8_meanings cX8_meanings 2 (some .int) ∈ TBg := tb_of 589 (by decide +kernel) (by decide +kernel)
theorem cod_X2_passTillDusk : Cond.code yX2_passTillDusk cX2_passTillDusk 2 (some .int) ∈ TBg := tb_of 593 (by decide +kernel) (by decide +kernel)
theorem cod_X2_leftMeanings : Cond.code yX2_leftMeanings cX2_leftMeanings 3 (some .int) ∈ TBg := tb_of 597 (by decide +kernel) (by decide +kernel)
theorem cod_X8_remain : Cond.code yX8_remain cX8_remain 1 (some .int) ∈ TBg := tb_of 601 (by decide +kernel) (by decide +kernel)
theorem cod_X8_holds : Cond.code yX8_holds cX8_holds 4 (some .int) ∈ TBg := tb_of 605 (by decide +kernel) (by decide +kernel)
theorem cod_X2_countLeftOf : Cond.code yX2_countLeftOf cX2_countLeftOf 4 (some .int) ∈ TBg := tb_of 609 (by decide +kernel) (by decide +kernel)
theorem cod_X8_boys : Cond.code yX8_boys cX8_boys 6 (some .int) ∈ TBg := tb_of 614 (by decide +kernel) (by decide +kernel)
theorem cod_X2_hasWords : Cond.code yX2_hasWords cX2_hasWords 2 (some .boolean) ∈ TBg := tb_of 618 (by decide +kernel) (by decide +kernel)
theorem cod_X8_isKeptByWatching : Cond.code yX8_isKeptByWatching cX8_isKeptByWatching 5 (some .boolean) ∈ TBg := tb_of 624 (by decide +kernel) (by decide +kernel)
theorem cod_X8_guard : Cond.code yX8_guard cX8_guard 6 (some .int) ∈ TBg := tb_of 628 (by decide +kernel) (by decide +kernel)
theorem cod_X8_winter : Cond.code yX8_winter cX8_winter 4 (some .int) ∈ TBg := tb_of 632 (by decide +kernel) (by decide +kernel)
theorem cod_X2_keepAway : Cond.code yX2_keepAway cX2_keepAway 2 none ∈ TBg := tb_of 637 (by decide +kernel) (by decide +kernel)
theorem cod_X8_becomes : Cond.code yX8_becomes cX8_becomes 4 (some .int) ∈ TBg := tb_of 641 (by decide +kernel) (by decide +kernel)
theorem cod_X2_placeOtherThan : Cond.code yX2_placeOtherThan cX2_placeOtherThan 5 (some .int) ∈ TBg := tb_of 645 (by decide +kernel) (by decide +kernel)
theorem cod_X8_danger : Cond.code yX8_danger cX8_danger 3 (some .int) ∈ TBg := tb_of 649 (by decide +kernel) (by decide +kernel)
theorem cod_X8_lasts : Cond.code yX8_lasts cX8_lasts 7 (some .int) ∈ TBg := tb_of 653 (by decide +kernel) (by decide +kernel)
theorem cod_X8_mixed : Cond.code yX8_mixed cX8_mixed 7 (some .int) ∈ TBg := tb_of 657 (by decide +kernel) (by decide +kernel)
theorem cod_X8_sumOfDigits : Cond.code yX8_sumOfDigits cX8_sumOfDigits 1 (some .int) ∈ TBg := tb_of 661 (by decide +kernel) (by decide +kernel)
theorem cod_X8_countLeftByBitters : Cond.code yX8_countLeftByBitters cX8_countLeftByBitters 3 (some .int) ∈ TBg := tb_of 665 (by decide +kernel) (by decide +kernel)
theorem cod_X8_tastes : Cond.code yX8_tastes cX8_tastes 6 (some .int) ∈ TBg := tb_of 669 (by decide +kernel) (by decide +kernel)
theorem cod_X8_fitting : Cond.code yX8_fitting cX8_fitting 6 (some .int) ∈ TBg := tb_of 673 (by decide +kernel) (by decide +kernel)
theorem cod_X8_seeds : Cond.code yX8_seeds cX8_seeds 8 (some .int) ∈ TBg := tb_of 679 (by decide +kernel) (by decide +kernel)
theorem cod_X8_row : Cond.code yX8_row cX8_row 2 (some .int) ∈ TBg := tb_of 686 (by decide +kernel) (by decide +kernel)
theorem cod_X8_judge : Cond.code yX8_judge cX8_judge 2 (some .int) ∈ TBg := tb_of 690 (by decide +kernel) (by decide +kernel)
theorem cod_X8_image : Cond.code yX8_image cX8_image 1 (some .int) ∈ TBg := tb_of 694 (by decide +kernel) (by decide +kernel)
theorem cod_X8_on : Cond.code yX8_on cX8_on 1 (some .int) ∈ TBg := tb_of 698 (by decide +kernel) (by decide +kernel)
theorem cod_X8_count : Cond.code yX8_count cX8_count 2 (some .int) ∈ TBg := tb_of 702 (by decide +kernel) (by decide +kernel)
theorem cod_X2_strengthLeft : Cond.code yX2_strengthLeft cX2_strengthLeft 3 (some .int) ∈ TBg := tb_of 706 (by decide +kernel) (by decide +kernel)
theorem cod_X9_init : Cond.code yX9_init cX9_init 1 none ∈ TBg := tb_of 711 (by decide +kernel) (by decide +kernel)
theorem cod_X9_letter : Cond.code yX9_letter cX9_letter 3 (some .int) ∈ TBg := tb_of 798 (by decide +kernel) (by decide +kernel)
theorem cod_X9_bound : Cond.code yX9_bound cX9_bound 3 (some .int) ∈ TBg := tb_of 801 (by decide +kernel) (by decide +kernel)
theorem cod_X9_no : Cond.code yX9_no cX9_no 2 (some .int) ∈ TBg := tb_of 805 (by decide +kernel) (by decide +kernel)
theorem cod_X9_text : Cond.code yX9_text cX9_text 3 (some .int) ∈ TBg := tb_of 809 (by decide +kernel) (by decide +kernel)
theorem cod_X9_statement : Cond.code yX9_statement cX9_statement 4 (some .boolean) ∈ TBg := tb_of 813 (by decide +kernel) (by decide +kernel)
theorem cod_X9_next : Cond.code yX9_next cX9_next 1 (some .int) ∈ TBg := tb_of 817 (by decide +kernel) (by decide +kernel)
theorem cod_X9_readsKind : Cond.code yX9_readsKind cX9_readsKind 2 (some .boolean) ∈ TBg := tb_of 821 (by decide +kernel) (by decide +kernel)
theorem cod_X9_kindOf : Cond.code yX9_kindOf cX9_kindOf 1 (some .int) ∈ TBg := tb_of 824 (by decide +kernel) (by decide +kernel)
theorem cod_X9_readsOnes : Cond.code yX9_readsOnes cX9_readsOnes 4 (some .boolean) ∈ TBg := tb_of 828 (by decide +kernel) (by decide +kernel)
theorem cod_X9_isIn : Cond.code yX9_isIn cX9_isIn 3 (some .boolean) ∈ TBg := tb_of 831 (by decide +kernel) (by decide +kernel)
theorem cod_X9_passesAll : Cond.code yX9_passesAll cX9_passesAll 3 none ∈ TBg := tb_of 835 (by decide +kernel) (by decide +kernel)
theorem cod_X9_passes : Cond.code yX9_passes cX9_passes 3 none ∈ TBg := tb_of 839 (by decide +kernel) (by decide +kernel)
theorem cod_X9_passOne : Cond.code yX9_passOne cX9_passOne 3 (some .int) ∈ TBg := tb_of 843 (by decide +kernel) (by decide +kernel)
theorem cod_X9_comes : Cond.code yX9_comes cX9_comes 3 (some .boolean) ∈ TBg := tb_of 847 (by decide +kernel) (by decide +kernel)
theorem cod_X9_comesWord : Cond.code yX9_comesWord cX9_comesWord 2 (some .boolean) ∈ TBg := tb_of 851 (by decide +kernel) (by decide +kernel)
theorem cod_X9_comesBird : Cond.code yX9_comesBird cX9_comesBird 2 (some .boolean) ∈ TBg := tb_of 855 (by decide +kernel) (by decide +kernel)
theorem cod_X9_comesWatch : Cond.code yX9_comesWatch cX9_comesWatch 3 (some .boolean) ∈ TBg := tb_of 859 (by decide +kernel) (by decide +kernel)
theorem cod_X9_isWord : Cond.code yX9_isWord cX9_isWord 2 (some .boolean) ∈ TBg := tb_of 863 (by decide +kernel) (by decide +kernel)
theorem cod_X9_image : Cond.code yX9_image cX9_image 1 (some .int) ∈ TBg := tb_of 867 (by decide +kernel) (by decide +kernel)
theorem cod_X9_on : Cond.code yX9_on cX9_on 1 (some .int) ∈ TBg := tb_of 871 (by decide +kernel) (by decide +kernel)
theorem cod_X9_word : Cond.code yX9_word cX9_word 3 (some .int) ∈ TBg := tb_of 875 (by decide +kernel) (by decide +kernel)
theorem cod_X9_strengthOf : Cond.code yX9_strengthOf cX9_strengthOf 2 (some .int) ∈ TBg := tb_of 879 (by decide +kernel) (by decide +kernel)
theorem cod_X9_bird : Cond.code yX9_bird cX9_bird 3 (some .int) ∈ TBg := tb_of 883 (by decide +kernel) (by decide +kernel)
theorem cod_X9_isBird : Cond.code yX9_isBird cX9_isBird 2 (some .boolean) ∈ TBg := tb_of 887 (by decide +kernel) (by decide +kernel)
theorem cod_X9_eatsBy : Cond.code yX9_eatsBy cX9_eatsBy 4 (some .int) ∈ TBg := tb_of 891 (by decide +kernel) (by decide +kernel)
theorem cod_X9_mayEat : Cond.code yX9_mayEat cX9_mayEat 3 (some .boolean) ∈ TBg := tb_of 895 (by decide +kernel) (by decide +kernel)
theorem cod_X9_isGone : Cond.code yX9_isGone cX9_isGone 2 (some .boolean) ∈ TBg := tb_of 899 (by decide +kernel) (by decide +kernel)
theorem cod_X9_isRather : Cond.code yX9_isRather cX9_isRather 4 (some .boolean) ∈ TBg := tb_of 903 (by decide +kernel) (by decide +kernel)
theorem cod_X9_bitter : Cond.code yX9_bitter cX9_bitter 5 (some .int) ∈ TBg := tb_of 907 (by decide +kernel) (by decide +kernel)
theorem cod_X9_isInk : Cond.code yX9_isInk cX9_isInk 1 (some .boolean) ∈ TBg := tb_of 910 (by decide +kernel) (by decide +kernel)
theorem cod_X9_ink : Cond.code yX9_ink cX9_ink 4 (some .int) ∈ TBg := tb_of 914 (by decide +kernel) (by decide +kernel)
theorem cod_X9_watch : Cond.code yX9_watch cX9_watch 6 (some .int) ∈ TBg := tb_of 918 (by decide +kernel) (by decide +kernel)
theorem cod_X9_hour : Cond.code yX9_hour cX9_hour 1 (some .int) ∈ TBg := tb_of 922 (by decide +kernel) (by decide +kernel)
theorem cod_X9_goesHour : Cond.code yX9_goesHour cX9_goesHour 3 (some .int) ∈ TBg := tb_of 926 (by decide +kernel) (by decide +kernel)
theorem cod_X9_eats : Cond.code yX9_eats cX9_eats 3 (some .int) ∈ TBg := tb_of 930 (by decide +kernel) (by decide +kernel)
theorem cod_X9_anew : Cond.code yX9_anew cX9_anew 1 (some .int) ∈ TBg := tb_of 934 (by decide +kernel) (by decide +kernel)
theorem cod_X9_left : Cond.code yX9_left cX9_left 4 (some .int) ∈ TBg := tb_of 938 (by decide +kernel) (by decide +kernel)
theorem cod_X9_leftNow : Cond.code yX9_leftNow cX9_leftNow 1 (some .int) ∈ TBg := tb_of 942 (by decide +kernel) (by decide +kernel)
theorem cod_X9_eaten : Cond.code yX9_eaten cX9_eaten 3 (some .int) ∈ TBg := tb_of 946 (by decide +kernel) (by decide +kernel)
theorem cod_X9_goesIn : Cond.code yX9_goesIn cX9_goesIn 5 (some .int) ∈ TBg := tb_of 950 (by decide +kernel) (by decide +kernel)
theorem cod_X9_meanings : Cond.code yX9_meanings cX9_meanings 1 (some .int) ∈ TBg := tb_of 954 (by decide +kernel) (by decide +kernel)
theorem cod_X9_leftAtDusk : Cond.code yX9_leftAtDusk cX9_leftAtDusk 4 (some .int) ∈ TBg := tb_of 958 (by decide +kernel) (by decide +kernel)
theorem cod_X9_meaningsOf : Cond.code yX9_meaningsOf cX9_meaningsOf 4 (some .int) ∈ TBg := tb_of 962 (by decide +kernel) (by decide +kernel)
theorem cod_X9_remain : Cond.code yX9_remain cX9_remain 1 (some .int) ∈ TBg := tb_of 966 (by decide +kernel) (by decide +kernel)
theorem cod_X9_bits : Cond.code yX9_bits cX9_bits 3 (some .int) ∈ TBg := tb_of 969 (by decide +kernel) (by decide +kernel)
theorem cod_X9_holds : Cond.code yX9_holds cX9_holds 6 (some .int) ∈ TBg := tb_of 973 (by decide +kernel) (by decide +kernel)
theorem cod_X9_boys : Cond.code yX9_boys cX9_boys 4 (some .int) ∈ TBg := tb_of 977 (by decide +kernel) (by decide +kernel)
theorem cod_X9_areWords : Cond.code yX9_areWords cX9_areWords 2 (some .boolean) ∈ TBg := tb_of 981 (by decide +kernel) (by decide +kernel)
theorem cod_X9_watchedLeft : Cond.code yX9_watchedLeft cX9_watchedLeft 4 (some .int) ∈ TBg := tb_of 985 (by decide +kernel) (by decide +kernel)
theorem cod_X9_guard : Cond.code yX9_guard cX9_guard 5 (some .int) ∈ TBg := tb_of 989 (by decide +kernel) (by decide +kernel)
theorem cod_X9_winter : Cond.code yX9_winter cX9_winter 5 (some .int) ∈ TBg := tb_of 993 (by decide +kernel) (by decide +kernel)
theorem cod_X9_lower : Cond.code yX9_lower cX9_lower 2 (some .int) ∈ TBg := tb_of 997 (by decide +kernel) (by decide +kernel)
theorem cod_X9_becomes : Cond.code yX9_becomes cX9_becomes 4 (some .int) ∈ TBg := tb_of 1002 (by decide +kernel) (by decide +kernel)
theorem cod_X9_otherAt : Cond.code yX9_otherAt cX9_otherAt 3 (some .int) ∈ TBg := tb_of 1006 (by decide +kernel) (by decide +kernel)
theorem cod_X9_danger : Cond.code yX9_danger cX9_danger 1 (some .int) ∈ TBg := tb_of 1010 (by decide +kernel) (by decide +kernel)
theorem cod_X9_lasts : Cond.code yX9_lasts cX9_lasts 7 (some .int) ∈ TBg := tb_of 1014 (by decide +kernel) (by decide +kernel)
theorem cod_X9_mixed : Cond.code yX9_mixed cX9_mixed 8 (some .int) ∈ TBg := tb_of 1018 (by decide +kernel) (by decide +kernel)
theorem cod_X9_tastes : Cond.code yX9_tastes cX9_tastes 6 (some .int) ∈ TBg := tb_of 1022 (by decide +kernel) (by decide +kernel)
theorem cod_X9_fitting : Cond.code yX9_fitting cX9_fitting 6 (some .int) ∈ TBg := tb_of 1026 (by decide +kernel) (by decide +kernel)
theorem cod_X9_row : Cond.code yX9_row cX9_row 3 (some .int) ∈ TBg := tb_of 1030 (by decide +kernel) (by decide +kernel)
theorem cod_X9_judge : Cond.code yX9_judge cX9_judge 2 (some .int) ∈ TBg := tb_of 1034 (by decide +kernel) (by decide +kernel)
theorem cod_X9_seeds : Cond.code yX9_seeds cX9_seeds 8 (some .int) ∈ TBg := tb_of 1038 (by decide +kernel) (by decide +kernel)
theorem cod_X9_count : Cond.code yX9_count cX9_count 4 (some .int) ∈ TBg := tb_of 1045 (by decide +kernel) (by decide +kernel)
theorem im_X8_init : Cond.instanceMethod yX8_init ∈ TBg := tb_of 62 (by decide +kernel) (by decide +kernel)
theorem im_X6_init : Cond.instanceMethod yX6_init ∈ TBg := tb_of 71 (by decide +kernel) (by decide +kernel)
theorem im_X7_init : Cond.instanceMethod yX7_init ∈ TBg := tb_of 78 (by decide +kernel) (by decide +kernel)
theorem im_X0_init : Cond.instanceMethod yX0_init ∈ TBg := tb_of 85 (by decide +kernel) (by decide +kernel)
theorem im_X5_init : Cond.instanceMethod yX5_init ∈ TBg := tb_of 92 (by decide +kernel) (by decide +kernel)
theorem im_X3_init : Cond.instanceMethod yX3_init ∈ TBg := tb_of 99 (by decide +kernel) (by decide +kernel)
theorem im_X1_init : Cond.instanceMethod yX1_init ∈ TBg := tb_of 106 (by decide +kernel) (by decide +kernel)
theorem im_X2_init : Cond.instanceMethod yX2_init ∈ TBg := tb_of 113 (by decide +kernel) (by decide +kernel)
theorem im_X4_init : Cond.instanceMethod yX4_init ∈ TBg := tb_of 177 (by decide +kernel) (by decide +kernel)
theorem im_X8_letter : Cond.instanceMethod yX8_letter ∈ TBg := tb_of 215 (by decide +kernel) (by decide +kernel)
theorem im_X8_refuse : Cond.instanceMethod yX8_refuse ∈ TBg := tb_of 220 (by decide +kernel) (by decide +kernel)
theorem im_X4_isFull : Cond.instanceMethod yX4_isFull ∈ TBg := tb_of 223 (by decide +kernel) (by decide +kernel)
theorem im_X4_add : Cond.instanceMethod yX4_add ∈ TBg := tb_of 227 (by decide +kernel) (by decide +kernel)
theorem im_X8_text : Cond.instanceMethod yX8_text ∈ TBg := tb_of 232 (by decide +kernel) (by decide +kernel)
theorem im_X4_fault : Cond.instanceMethod yX4_fault ∈ TBg := tb_of 236 (by decide +kernel) (by decide +kernel)
theorem im_X4_misspeltPlace : Cond.instanceMethod yX4_misspeltPlace ∈ TBg := tb_of 241 (by decide +kernel) (by decide +kernel)
theorem im_X4_letterAt : Cond.instanceMethod yX4_letterAt ∈ TBg := tb_of 245 (by decide +kernel) (by decide +kernel)
theorem im_J0_isEmpty_aae02 : Cond.instanceMethod yJ0_isEmpty_aae02 ∈ TBg := tb_of 255 (by decide +kernel) (by decide +kernel)
theorem im_J0_length_8abf5 : Cond.instanceMethod yJ0_length_8abf5 ∈ TBg := tb_of 259 (by decide +kernel) (by decide +kernel)
theorem im_J0_coder_7d493 : Cond.instanceMethod yJ0_coder_7d493 ∈ TBg := tb_of 263 (by decide +kernel) (by decide +kernel)
theorem im_J0_charAt_5068e : Cond.instanceMethod yJ0_charAt_5068e ∈ TBg := tb_of 269 (by decide +kernel) (by decide +kernel)
theorem im_J0_isLatin1_aae02 : Cond.instanceMethod yJ0_isLatin1_aae02 ∈ TBg := tb_of 273 (by decide +kernel) (by decide +kernel)
theorem im_J0_indexOf_0f7a4 : Cond.instanceMethod yJ0_indexOf_0f7a4 ∈ TBg := tb_of 311 (by decide +kernel) (by decide +kernel)
theorem im_J0_indexOf_7cf53 : Cond.instanceMethod yJ0_indexOf_7cf53 ∈ TBg := tb_of 315 (by decide +kernel) (by decide +kernel)
theorem im_X4_unfitPlace : Cond.instanceMethod yX4_unfitPlace ∈ TBg := tb_of 371 (by decide +kernel) (by decide +kernel)
theorem im_X4_beginsStatement : Cond.instanceMethod yX4_beginsStatement ∈ TBg := tb_of 375 (by decide +kernel) (by decide +kernel)
theorem im_X4_isFit : Cond.instanceMethod yX4_isFit ∈ TBg := tb_of 379 (by decide +kernel) (by decide +kernel)
theorem im_X4_digitAt : Cond.instanceMethod yX4_digitAt ∈ TBg := tb_of 383 (by decide +kernel) (by decide +kernel)
theorem im_X4_tellTo : Cond.instanceMethod yX4_tellTo ∈ TBg := tb_of 392 (by decide +kernel) (by decide +kernel)
theorem im_X4_tellStatement : Cond.instanceMethod yX4_tellStatement ∈ TBg := tb_of 397 (by decide +kernel) (by decide +kernel)
theorem im_X2_addWord : Cond.instanceMethod yX2_addWord ∈ TBg := tb_of 400 (by decide +kernel) (by decide +kernel)
theorem im_X2_addBird : Cond.instanceMethod yX2_addBird ∈ TBg := tb_of 405 (by decide +kernel) (by decide +kernel)
theorem im_X2_setBitter : Cond.instanceMethod yX2_setBitter ∈ TBg := tb_of 409 (by decide +kernel) (by decide +kernel)
theorem im_X2_setWatched : Cond.instanceMethod yX2_setWatched ∈ TBg := tb_of 413 (by decide +kernel) (by decide +kernel)
theorem im_X2_hasWord : Cond.instanceMethod yX2_hasWord ∈ TBg := tb_of 417 (by decide +kernel) (by decide +kernel)
theorem im_X4_clear : Cond.instanceMethod yX4_clear ∈ TBg := tb_of 421 (by decide +kernel) (by decide +kernel)
theorem im_X8_word : Cond.instanceMethod yX8_word ∈ TBg := tb_of 426 (by decide +kernel) (by decide +kernel)
theorem im_X2_strength : Cond.instanceMethod yX2_strength ∈ TBg := tb_of 431 (by decide +kernel) (by decide +kernel)
theorem im_X2_isGone : Cond.instanceMethod yX2_isGone ∈ TBg := tb_of 435 (by decide +kernel) (by decide +kernel)
theorem im_X2_isWatched : Cond.instanceMethod yX2_isWatched ∈ TBg := tb_of 439 (by decide +kernel) (by decide +kernel)
theorem im_X8_bird : Cond.instanceMethod yX8_bird ∈ TBg := tb_of 443 (by decide +kernel) (by decide +kernel)
theorem im_X2_hasBird : Cond.instanceMethod yX2_hasBird ∈ TBg := tb_of 447 (by decide +kernel) (by decide +kernel)
theorem im_X2_kindOf : Cond.instanceMethod yX2_kindOf ∈ TBg := tb_of 451 (by decide +kernel) (by decide +kernel)
theorem im_X6_choice : Cond.instanceMethod yX6_choice ∈ TBg := tb_of 455 (by decide +kernel) (by decide +kernel)
theorem im_X2_mayBeEaten : Cond.instanceMethod yX2_mayBeEaten ∈ TBg := tb_of 465 (by decide +kernel) (by decide +kernel)
theorem im_X6_reaches : Cond.instanceMethod yX6_reaches ∈ TBg := tb_of 472 (by decide +kernel) (by decide +kernel)
theorem im_X1_reaches : Cond.instanceMethod yX1_reaches ∈ TBg := tb_of 477 (by decide +kernel) (by decide +kernel)
theorem im_X6_prefers : Cond.instanceMethod yX6_prefers ∈ TBg := tb_of 485 (by decide +kernel) (by decide +kernel)
theorem im_X0_prefers : Cond.instanceMethod yX0_prefers ∈ TBg := tb_of 489 (by decide +kernel) (by decide +kernel)
theorem im_X5_prefers : Cond.instanceMethod yX5_prefers ∈ TBg := tb_of 495 (by decide +kernel) (by decide +kernel)
theorem im_X7_prefers : Cond.instanceMethod yX7_prefers ∈ TBg := tb_of 498 (by decide +kernel) (by decide +kernel)
theorem im_X8_bitter : Cond.instanceMethod yX8_bitter ∈ TBg := tb_of 503 (by decide +kernel) (by decide +kernel)
theorem im_X8_ink : Cond.instanceMethod yX8_ink ∈ TBg := tb_of 509 (by decide +kernel) (by decide +kernel)
theorem im_X8_watch : Cond.instanceMethod yX8_watch ∈ TBg := tb_of 513 (by decide +kernel) (by decide +kernel)
theorem im_X8_hour : Cond.instanceMethod yX8_hour ∈ TBg := tb_of 518 (by decide +kernel) (by decide +kernel)
theorem im_X2_passHour : Cond.instanceMethod yX2_passHour ∈ TBg := tb_of 522 (by decide +kernel) (by decide +kernel)
theorem im_X2_countLeft : Cond.instanceMethod yX2_countLeft ∈ TBg := tb_of 526 (by decide +kernel) (by decide +kernel)
theorem im_X2_leftWords : Cond.instanceMethod yX2_leftWords ∈ TBg := tb_of 530 (by decide +kernel) (by decide +kernel)
theorem im_X2_allWords : Cond.instanceMethod yX2_allWords ∈ TBg := tb_of 534 (by decide +kernel) (by decide +kernel)
theorem im_X6_meals : Cond.instanceMethod yX6_meals ∈ TBg := tb_of 545 (by decide +kernel) (by decide +kernel)
theorem im_X3_meals : Cond.instanceMethod yX3_meals ∈ TBg := tb_of 551 (by decide +kernel) (by decide +kernel)
theorem im_X8_anew : Cond.instanceMethod yX8_anew ∈ TBg := tb_of 558 (by decide +kernel) (by decide +kernel)
theorem im_X8_left : Cond.instanceMethod yX8_left ∈ TBg := tb_of 562 (by decide +kernel) (by decide +kernel)
theorem im_X8_mindAsNow : Cond.instanceMethod yX8_mindAsNow ∈ TBg := tb_of 567 (by decide +kernel) (by decide +kernel)
theorem im_X2_becomeAs : Cond.instanceMethod yX2_becomeAs ∈ TBg := tb_of 570 (by decide +kernel) (by decide +kernel)
theorem im_X8_eaten : Cond.instanceMethod yX8_eaten ∈ TBg := tb_of 578 (by decide +kernel) (by decide +kernel)
theorem im_X2_hourOfGoing : Cond.instanceMethod yX2_hourOfGoing ∈ TBg := tb_of 582 (by decide +kernel) (by decide +kernel)
theorem im_X8_meanings : Cond.instanceMethod yX8_meanings ∈ TBg := tb_of 587 (by decide +kernel) (by decide +kernel)
theorem im_X2_passTillDusk : Cond.instanceMethod yX2_passTillDusk ∈ TBg := tb_of 591 (by decide +kernel) (by decide +kernel)
theorem im_X2_leftMeanings : Cond.instanceMethod yX2_leftMeanings ∈ TBg := tb_of 595 (by decide +kernel) (by decide +kernel)
theorem im_X8_remain : Cond.instanceMethod yX8_remain ∈ TBg := tb_of 599 (by decide +kernel) (by decide +kernel)
theorem im_X8_holds : Cond.instanceMethod yX8_holds ∈ TBg := tb_of 603 (by decide +kernel) (by decide +kernel)
theorem im_X2_countLeftOf : Cond.instanceMethod yX2_countLeftOf ∈ TBg := tb_of 607 (by decide +kernel) (by decide +kernel)
theorem im_X8_boys : Cond.instanceMethod yX8_boys ∈ TBg := tb_of 612 (by decide +kernel) (by decide +kernel)
theorem im_X2_hasWords : Cond.instanceMethod yX2_hasWords ∈ TBg := tb_of 616 (by decide +kernel) (by decide +kernel)
theorem im_X8_isKeptByWatching : Cond.instanceMethod yX8_isKeptByWatching ∈ TBg := tb_of 623 (by decide +kernel) (by decide +kernel)
theorem im_X8_guard : Cond.instanceMethod yX8_guard ∈ TBg := tb_of 626 (by decide +kernel) (by decide +kernel)
theorem im_X8_winter : Cond.instanceMethod yX8_winter ∈ TBg := tb_of 630 (by decide +kernel) (by decide +kernel)
theorem im_X2_keepAway : Cond.instanceMethod yX2_keepAway ∈ TBg := tb_of 635 (by decide +kernel) (by decide +kernel)
theorem im_X8_becomes : Cond.instanceMethod yX8_becomes ∈ TBg := tb_of 639 (by decide +kernel) (by decide +kernel)
theorem im_X2_placeOtherThan : Cond.instanceMethod yX2_placeOtherThan ∈ TBg := tb_of 643 (by decide +kernel) (by decide +kernel)
theorem im_X8_danger : Cond.instanceMethod yX8_danger ∈ TBg := tb_of 647 (by decide +kernel) (by decide +kernel)
theorem im_X8_lasts : Cond.instanceMethod yX8_lasts ∈ TBg := tb_of 651 (by decide +kernel) (by decide +kernel)
theorem im_X8_mixed : Cond.instanceMethod yX8_mixed ∈ TBg := tb_of 655 (by decide +kernel) (by decide +kernel)
theorem im_X8_countLeftByBitters : Cond.instanceMethod yX8_countLeftByBitters ∈ TBg := tb_of 664 (by decide +kernel) (by decide +kernel)
theorem im_X8_tastes : Cond.instanceMethod yX8_tastes ∈ TBg := tb_of 667 (by decide +kernel) (by decide +kernel)
theorem im_X8_fitting : Cond.instanceMethod yX8_fitting ∈ TBg := tb_of 671 (by decide +kernel) (by decide +kernel)
theorem im_X8_seeds : Cond.instanceMethod yX8_seeds ∈ TBg := tb_of 677 (by decide +kernel) (by decide +kernel)
theorem im_X8_row : Cond.instanceMethod yX8_row ∈ TBg := tb_of 684 (by decide +kernel) (by decide +kernel)
theorem im_X8_judge : Cond.instanceMethod yX8_judge ∈ TBg := tb_of 688 (by decide +kernel) (by decide +kernel)
theorem im_X8_image : Cond.instanceMethod yX8_image ∈ TBg := tb_of 692 (by decide +kernel) (by decide +kernel)
theorem im_X8_on : Cond.instanceMethod yX8_on ∈ TBg := tb_of 696 (by decide +kernel) (by decide +kernel)
theorem im_X8_count : Cond.instanceMethod yX8_count ∈ TBg := tb_of 700 (by decide +kernel) (by decide +kernel)
theorem im_X2_strengthLeft : Cond.instanceMethod yX2_strengthLeft ∈ TBg := tb_of 704 (by decide +kernel) (by decide +kernel)
theorem im_X9_init : Cond.instanceMethod yX9_init ∈ TBg := tb_of 710 (by decide +kernel) (by decide +kernel)
theorem im_X9_letter : Cond.instanceMethod yX9_letter ∈ TBg := tb_of 796 (by decide +kernel) (by decide +kernel)
theorem im_X9_no : Cond.instanceMethod yX9_no ∈ TBg := tb_of 804 (by decide +kernel) (by decide +kernel)
theorem im_X9_text : Cond.instanceMethod yX9_text ∈ TBg := tb_of 807 (by decide +kernel) (by decide +kernel)
theorem im_X9_statement : Cond.instanceMethod yX9_statement ∈ TBg := tb_of 812 (by decide +kernel) (by decide +kernel)
theorem im_X9_next : Cond.instanceMethod yX9_next ∈ TBg := tb_of 816 (by decide +kernel) (by decide +kernel)
theorem im_X9_readsKind : Cond.instanceMethod yX9_readsKind ∈ TBg := tb_of 820 (by decide +kernel) (by decide +kernel)
theorem im_X9_readsOnes : Cond.instanceMethod yX9_readsOnes ∈ TBg := tb_of 827 (by decide +kernel) (by decide +kernel)
theorem im_X9_passesAll : Cond.instanceMethod yX9_passesAll ∈ TBg := tb_of 834 (by decide +kernel) (by decide +kernel)
theorem im_X9_passes : Cond.instanceMethod yX9_passes ∈ TBg := tb_of 838 (by decide +kernel) (by decide +kernel)
theorem im_X9_passOne : Cond.instanceMethod yX9_passOne ∈ TBg := tb_of 842 (by decide +kernel) (by decide +kernel)
theorem im_X9_comes : Cond.instanceMethod yX9_comes ∈ TBg := tb_of 846 (by decide +kernel) (by decide +kernel)
theorem im_X9_comesWord : Cond.instanceMethod yX9_comesWord ∈ TBg := tb_of 850 (by decide +kernel) (by decide +kernel)
theorem im_X9_comesBird : Cond.instanceMethod yX9_comesBird ∈ TBg := tb_of 854 (by decide +kernel) (by decide +kernel)
theorem im_X9_comesWatch : Cond.instanceMethod yX9_comesWatch ∈ TBg := tb_of 858 (by decide +kernel) (by decide +kernel)
theorem im_X9_isWord : Cond.instanceMethod yX9_isWord ∈ TBg := tb_of 862 (by decide +kernel) (by decide +kernel)
theorem im_X9_image : Cond.instanceMethod yX9_image ∈ TBg := tb_of 865 (by decide +kernel) (by decide +kernel)
theorem im_X9_on : Cond.instanceMethod yX9_on ∈ TBg := tb_of 869 (by decide +kernel) (by decide +kernel)
theorem im_X9_word : Cond.instanceMethod yX9_word ∈ TBg := tb_of 873 (by decide +kernel) (by decide +kernel)
theorem im_X9_strengthOf : Cond.instanceMethod yX9_strengthOf ∈ TBg := tb_of 878 (by decide +kernel) (by decide +kernel)
theorem im_X9_bird : Cond.instanceMethod yX9_bird ∈ TBg := tb_of 881 (by decide +kernel) (by decide +kernel)
theorem im_X9_isBird : Cond.instanceMethod yX9_isBird ∈ TBg := tb_of 886 (by decide +kernel) (by decide +kernel)
theorem im_X9_eatsBy : Cond.instanceMethod yX9_eatsBy ∈ TBg := tb_of 890 (by decide +kernel) (by decide +kernel)
theorem im_X9_mayEat : Cond.instanceMethod yX9_mayEat ∈ TBg := tb_of 894 (by decide +kernel) (by decide +kernel)
theorem im_X9_isGone : Cond.instanceMethod yX9_isGone ∈ TBg := tb_of 898 (by decide +kernel) (by decide +kernel)
theorem im_X9_isRather : Cond.instanceMethod yX9_isRather ∈ TBg := tb_of 902 (by decide +kernel) (by decide +kernel)
theorem im_X9_bitter : Cond.instanceMethod yX9_bitter ∈ TBg := tb_of 905 (by decide +kernel) (by decide +kernel)
theorem im_X9_ink : Cond.instanceMethod yX9_ink ∈ TBg := tb_of 912 (by decide +kernel) (by decide +kernel)
theorem im_X9_watch : Cond.instanceMethod yX9_watch ∈ TBg := tb_of 916 (by decide +kernel) (by decide +kernel)
theorem im_X9_hour : Cond.instanceMethod yX9_hour ∈ TBg := tb_of 920 (by decide +kernel) (by decide +kernel)
theorem im_X9_goesHour : Cond.instanceMethod yX9_goesHour ∈ TBg := tb_of 925 (by decide +kernel) (by decide +kernel)
theorem im_X9_eats : Cond.instanceMethod yX9_eats ∈ TBg := tb_of 929 (by decide +kernel) (by decide +kernel)
theorem im_X9_anew : Cond.instanceMethod yX9_anew ∈ TBg := tb_of 932 (by decide +kernel) (by decide +kernel)
theorem im_X9_left : Cond.instanceMethod yX9_left ∈ TBg := tb_of 936 (by decide +kernel) (by decide +kernel)
theorem im_X9_leftNow : Cond.instanceMethod yX9_leftNow ∈ TBg := tb_of 941 (by decide +kernel) (by decide +kernel)
theorem im_X9_eaten : Cond.instanceMethod yX9_eaten ∈ TBg := tb_of 944 (by decide +kernel) (by decide +kernel)
theorem im_X9_goesIn : Cond.instanceMethod yX9_goesIn ∈ TBg := tb_of 949 (by decide +kernel) (by decide +kernel)
theorem im_X9_meanings : Cond.instanceMethod yX9_meanings ∈ TBg := tb_of 952 (by decide +kernel) (by decide +kernel)
theorem im_X9_leftAtDusk : Cond.instanceMethod yX9_leftAtDusk ∈ TBg := tb_of 957 (by decide +kernel) (by decide +kernel)
theorem im_X9_meaningsOf : Cond.instanceMethod yX9_meaningsOf ∈ TBg := tb_of 961 (by decide +kernel) (by decide +kernel)
theorem im_X9_remain : Cond.instanceMethod yX9_remain ∈ TBg := tb_of 964 (by decide +kernel) (by decide +kernel)
theorem im_X9_holds : Cond.instanceMethod yX9_holds ∈ TBg := tb_of 971 (by decide +kernel) (by decide +kernel)
theorem im_X9_boys : Cond.instanceMethod yX9_boys ∈ TBg := tb_of 975 (by decide +kernel) (by decide +kernel)
theorem im_X9_areWords : Cond.instanceMethod yX9_areWords ∈ TBg := tb_of 980 (by decide +kernel) (by decide +kernel)
theorem im_X9_watchedLeft : Cond.instanceMethod yX9_watchedLeft ∈ TBg := tb_of 984 (by decide +kernel) (by decide +kernel)
theorem im_X9_guard : Cond.instanceMethod yX9_guard ∈ TBg := tb_of 987 (by decide +kernel) (by decide +kernel)
theorem im_X9_winter : Cond.instanceMethod yX9_winter ∈ TBg := tb_of 991 (by decide +kernel) (by decide +kernel)
theorem im_X9_lower : Cond.instanceMethod yX9_lower ∈ TBg := tb_of 996 (by decide +kernel) (by decide +kernel)
theorem im_X9_becomes : Cond.instanceMethod yX9_becomes ∈ TBg := tb_of 1000 (by decide +kernel) (by decide +kernel)
theorem im_X9_otherAt : Cond.instanceMethod yX9_otherAt ∈ TBg := tb_of 1005 (by decide +kernel) (by decide +kernel)
theorem im_X9_danger : Cond.instanceMethod yX9_danger ∈ TBg := tb_of 1008 (by decide +kernel) (by decide +kernel)
theorem im_X9_lasts : Cond.instanceMethod yX9_lasts ∈ TBg := tb_of 1012 (by decide +kernel) (by decide +kernel)
theorem im_X9_mixed : Cond.instanceMethod yX9_mixed ∈ TBg := tb_of 1016 (by decide +kernel) (by decide +kernel)
theorem im_X9_tastes : Cond.instanceMethod yX9_tastes ∈ TBg := tb_of 1020 (by decide +kernel) (by decide +kernel)
theorem im_X9_fitting : Cond.instanceMethod yX9_fitting ∈ TBg := tb_of 1024 (by decide +kernel) (by decide +kernel)
theorem im_X9_row : Cond.instanceMethod yX9_row ∈ TBg := tb_of 1028 (by decide +kernel) (by decide +kernel)
theorem im_X9_judge : Cond.instanceMethod yX9_judge ∈ TBg := tb_of 1032 (by decide +kernel) (by decide +kernel)
theorem im_X9_seeds : Cond.instanceMethod yX9_seeds ∈ TBg := tb_of 1036 (by decide +kernel) (by decide +kernel)
theorem im_X9_count : Cond.instanceMethod yX9_count ∈ TBg := tb_of 1043 (by decide +kernel) (by decide +kernel)
theorem sta_X4_formBehind : Cond.static yX4_formBehind ∈ TBg := tb_of 248 (by decide +kernel) (by decide +kernel)
theorem sta_J1_charAt_3b067 : Cond.static yJ1_charAt_3b067 ∈ TBg := tb_of 277 (by decide +kernel) (by decide +kernel)
theorem sta_J0_checkIndex_df160 : Cond.static yJ0_checkIndex_df160 ∈ TBg := tb_of 280 (by decide +kernel) (by decide +kernel)
theorem sta_J3_checkIndex_8e157 : Cond.static yJ3_checkIndex_8e157 ∈ TBg := tb_of 285 (by decide +kernel) (by decide +kernel)
theorem sta_J2_charAt_3b067 : Cond.static yJ2_charAt_3b067 ∈ TBg := tb_of 288 (by decide +kernel) (by decide +kernel)
theorem sta_J2_checkIndex_2214a : Cond.static yJ2_checkIndex_2214a ∈ TBg := tb_of 291 (by decide +kernel) (by decide +kernel)
theorem sta_J2_length_9d52b : Cond.static yJ2_length_9d52b ∈ TBg := tb_of 294 (by decide +kernel) (by decide +kernel)
theorem sta_J2_getChar_3b067 : Cond.static yJ2_getChar_3b067 ∈ TBg := tb_of 298 (by decide +kernel) (by decide +kernel)
theorem sta_X4_isOfForm : Cond.static yX4_isOfForm ∈ TBg := tb_of 307 (by decide +kernel) (by decide +kernel)
theorem sta_J1_indexOf_4cfef : Cond.static yJ1_indexOf_4cfef ∈ TBg := tb_of 320 (by decide +kernel) (by decide +kernel)
theorem sta_J1_canEncode_9a6ad : Cond.static yJ1_canEncode_9a6ad ∈ TBg := tb_of 323 (by decide +kernel) (by decide +kernel)
theorem sta_J9_max_7cf53 : Cond.static yJ9_max_7cf53 ∈ TBg := tb_of 326 (by decide +kernel) (by decide +kernel)
theorem sta_J9_min_7cf53 : Cond.static yJ9_min_7cf53 ∈ TBg := tb_of 329 (by decide +kernel) (by decide +kernel)
theorem sta_J1_indexOfChar_4cfef : Cond.static yJ1_indexOfChar_4cfef ∈ TBg := tb_of 332 (by decide +kernel) (by decide +kernel)
theorem sta_J2_indexOf_4cfef : Cond.static yJ2_indexOf_4cfef ∈ TBg := tb_of 335 (by decide +kernel) (by decide +kernel)
theorem sta_J2_indexOfChar_4cfef : Cond.static yJ2_indexOfChar_4cfef ∈ TBg := tb_of 341 (by decide +kernel) (by decide +kernel)
theorem sta_J2_checkBoundsBeginEnd_d044e : Cond.static yJ2_checkBoundsBeginEnd_d044e ∈ TBg := tb_of 344 (by decide +kernel) (by decide +kernel)
theorem sta_J0_checkBoundsBeginEnd_23922 : Cond.static yJ0_checkBoundsBeginEnd_23922 ∈ TBg := tb_of 347 (by decide +kernel) (by decide +kernel)
theorem sta_J3_checkFromToIndex_8c36e : Cond.static yJ3_checkFromToIndex_8c36e ∈ TBg := tb_of 350 (by decide +kernel) (by decide +kernel)
theorem sta_J2_indexOfCharUnsafe_4cfef : Cond.static yJ2_indexOfCharUnsafe_4cfef ∈ TBg := tb_of 353 (by decide +kernel) (by decide +kernel)
theorem sta_J2_indexOfSupplementary_4cfef : Cond.static yJ2_indexOfSupplementary_4cfef ∈ TBg := tb_of 356 (by decide +kernel) (by decide +kernel)
theorem sta_J11_isValidCodePoint_9a6ad : Cond.static yJ11_isValidCodePoint_9a6ad ∈ TBg := tb_of 359 (by decide +kernel) (by decide +kernel)
theorem sta_J11_highSurrogate_5068e : Cond.static yJ11_highSurrogate_5068e ∈ TBg := tb_of 362 (by decide +kernel) (by decide +kernel)
theorem sta_J11_lowSurrogate_5068e : Cond.static yJ11_lowSurrogate_5068e ∈ TBg := tb_of 366 (by decide +kernel) (by decide +kernel)
theorem sta_X8_isInk : Cond.static yX8_isInk ∈ TBg := tb_of 386 (by decide +kernel) (by decide +kernel)
theorem sta_X4_areHours : Cond.static yX4_areHours ∈ TBg := tb_of 389 (by decide +kernel) (by decide +kernel)
theorem sta_J6_bitCount_0f7a4 : Cond.static yJ6_bitCount_0f7a4 ∈ TBg := tb_of 538 (by decide +kernel) (by decide +kernel)
theorem sta_X8_sumOfDigits : Cond.static yX8_sumOfDigits ∈ TBg := tb_of 660 (by decide +kernel) (by decide +kernel)
theorem sta_X9_bound : Cond.static yX9_bound ∈ TBg := tb_of 800 (by decide +kernel) (by decide +kernel)
theorem sta_X9_kindOf : Cond.static yX9_kindOf ∈ TBg := tb_of 823 (by decide +kernel) (by decide +kernel)
theorem sta_X9_isIn : Cond.static yX9_isIn ∈ TBg := tb_of 830 (by decide +kernel) (by decide +kernel)
theorem sta_X9_isInk : Cond.static yX9_isInk ∈ TBg := tb_of 909 (by decide +kernel) (by decide +kernel)
theorem sta_X9_bits : Cond.static yX9_bits ∈ TBg := tb_of 968 (by decide +kernel) (by decide +kernel)
theorem sel_X8_X8_letter_X8_letter : Cond.selects RX8 yX8_letter yX8_letter ∈ TBg := tb_of 216 (by decide +kernel) (by decide +kernel)
theorem sel_X4_X4_isFull_X4_isFull : Cond.selects RX4 yX4_isFull yX4_isFull ∈ TBg := tb_of 224 (by decide +kernel) (by decide +kernel)
theorem sel_X4_X4_add_X4_add : Cond.selects RX4 yX4_add yX4_add ∈ TBg := tb_of 228 (by decide +kernel) (by decide +kernel)
theorem sel_X8_X8_text_X8_text : Cond.selects RX8 yX8_text yX8_text ∈ TBg := tb_of 233 (by decide +kernel) (by decide +kernel)
theorem sel_X4_X4_fault_X4_fault : Cond.selects RX4 yX4_fault yX4_fault ∈ TBg := tb_of 237 (by decide +kernel) (by decide +kernel)
theorem sel_J0_J0_isEmpty_aae02_J0_isEmpty_aae02 : Cond.selects RJ0 yJ0_isEmpty_aae02 yJ0_isEmpty_aae02 ∈ TBg := tb_of 256 (by decide +kernel) (by decide +kernel)
theorem sel_J0_J0_length_8abf5_J0_length_8abf5 : Cond.selects RJ0 yJ0_length_8abf5 yJ0_length_8abf5 ∈ TBg := tb_of 260 (by decide +kernel) (by decide +kernel)
theorem sel_J0_J0_coder_7d493_J0_coder_7d493 : Cond.selects RJ0 yJ0_coder_7d493 yJ0_coder_7d493 ∈ TBg := tb_of 264 (by decide +kernel) (by decide +kernel)
theorem sel_J0_J0_charAt_5068e_J0_charAt_5068e : Cond.selects RJ0 yJ0_charAt_5068e yJ0_charAt_5068e ∈ TBg := tb_of 270 (by decide +kernel) (by decide +kernel)
theorem sel_J0_J0_isLatin1_aae02_J0_isLatin1_aae02 : Cond.selects RJ0 yJ0_isLatin1_aae02 yJ0_isLatin1_aae02 ∈ TBg := tb_of 274 (by decide +kernel) (by decide +kernel)
theorem sel_J0_J0_indexOf_0f7a4_J0_indexOf_0f7a4 : Cond.selects RJ0 yJ0_indexOf_0f7a4 yJ0_indexOf_0f7a4 ∈ TBg := tb_of 312 (by decide +kernel) (by decide +kernel)
theorem sel_J0_J0_indexOf_7cf53_J0_indexOf_7cf53 : Cond.selects RJ0 yJ0_indexOf_7cf53 yJ0_indexOf_7cf53 ∈ TBg := tb_of 316 (by decide +kernel) (by decide +kernel)
theorem sel_X4_X4_tellTo_X4_tellTo : Cond.selects RX4 yX4_tellTo yX4_tellTo ∈ TBg := tb_of 393 (by decide +kernel) (by decide +kernel)
theorem sel_X2_X2_addWord_X2_addWord : Cond.selects RX2 yX2_addWord yX2_addWord ∈ TBg := tb_of 401 (by decide +kernel) (by decide +kernel)
theorem sel_X2_X2_addBird_X2_addBird : Cond.selects RX2 yX2_addBird yX2_addBird ∈ TBg := tb_of 406 (by decide +kernel) (by decide +kernel)
theorem sel_X2_X2_setBitter_X2_setBitter : Cond.selects RX2 yX2_setBitter yX2_setBitter ∈ TBg := tb_of 410 (by decide +kernel) (by decide +kernel)
theorem sel_X2_X2_setWatched_X2_setWatched : Cond.selects RX2 yX2_setWatched yX2_setWatched ∈ TBg := tb_of 414 (by decide +kernel) (by decide +kernel)
theorem sel_X2_X2_hasWord_X2_hasWord : Cond.selects RX2 yX2_hasWord yX2_hasWord ∈ TBg := tb_of 418 (by decide +kernel) (by decide +kernel)
theorem sel_X4_X4_clear_X4_clear : Cond.selects RX4 yX4_clear yX4_clear ∈ TBg := tb_of 422 (by decide +kernel) (by decide +kernel)
theorem sel_X8_X8_word_X8_word : Cond.selects RX8 yX8_word yX8_word ∈ TBg := tb_of 427 (by decide +kernel) (by decide +kernel)
theorem sel_X2_X2_strength_X2_strength : Cond.selects RX2 yX2_strength yX2_strength ∈ TBg := tb_of 432 (by decide +kernel) (by decide +kernel)
theorem sel_X2_X2_isGone_X2_isGone : Cond.selects RX2 yX2_isGone yX2_isGone ∈ TBg := tb_of 436 (by decide +kernel) (by decide +kernel)
theorem sel_X2_X2_isWatched_X2_isWatched : Cond.selects RX2 yX2_isWatched yX2_isWatched ∈ TBg := tb_of 440 (by decide +kernel) (by decide +kernel)
theorem sel_X8_X8_bird_X8_bird : Cond.selects RX8 yX8_bird yX8_bird ∈ TBg := tb_of 444 (by decide +kernel) (by decide +kernel)
theorem sel_X2_X2_hasBird_X2_hasBird : Cond.selects RX2 yX2_hasBird yX2_hasBird ∈ TBg := tb_of 448 (by decide +kernel) (by decide +kernel)
theorem sel_X2_X2_kindOf_X2_kindOf : Cond.selects RX2 yX2_kindOf yX2_kindOf ∈ TBg := tb_of 452 (by decide +kernel) (by decide +kernel)
theorem sel_X6_X6_choice_X6_choice : Cond.selects RX6 yX6_choice yX6_choice ∈ TBg := tb_of 456 (by decide +kernel) (by decide +kernel)
theorem sel_X0_X6_choice_X6_choice : Cond.selects RX0 yX6_choice yX6_choice ∈ TBg := tb_of 458 (by decide +kernel) (by decide +kernel)
theorem sel_X1_X6_choice_X6_choice : Cond.selects RX1 yX6_choice yX6_choice ∈ TBg := tb_of 459 (by decide +kernel) (by decide +kernel)
theorem sel_X3_X6_choice_X6_choice : Cond.selects RX3 yX6_choice yX6_choice ∈ TBg := tb_of 460 (by decide +kernel) (by decide +kernel)
theorem sel_X5_X6_choice_X6_choice : Cond.selects RX5 yX6_choice yX6_choice ∈ TBg := tb_of 461 (by decide +kernel) (by decide +kernel)
theorem sel_X7_X6_choice_X6_choice : Cond.selects RX7 yX6_choice yX6_choice ∈ TBg := tb_of 462 (by decide +kernel) (by decide +kernel)
theorem sel_X2_X2_mayBeEaten_X2_mayBeEaten : Cond.selects RX2 yX2_mayBeEaten yX2_mayBeEaten ∈ TBg := tb_of 466 (by decide +kernel) (by decide +kernel)
theorem sel_X6_X6_reaches_X6_reaches : Cond.selects RX6 yX6_reaches yX6_reaches ∈ TBg := tb_of 473 (by decide +kernel) (by decide +kernel)
theorem sel_X0_X6_reaches_X6_reaches : Cond.selects RX0 yX6_reaches yX6_reaches ∈ TBg := tb_of 475 (by decide +kernel) (by decide +kernel)
theorem sel_X1_X6_reaches_X1_reaches : Cond.selects RX1 yX6_reaches yX1_reaches ∈ TBg := tb_of 476 (by decide +kernel) (by decide +kernel)
theorem sel_X3_X6_reaches_X6_reaches : Cond.selects RX3 yX6_reaches yX6_reaches ∈ TBg := tb_of 480 (by decide +kernel) (by decide +kernel)
theorem sel_X5_X6_reaches_X6_reaches : Cond.selects RX5 yX6_reaches yX6_reaches ∈ TBg := tb_of 481 (by decide +kernel) (by decide +kernel)
theorem sel_X7_X6_reaches_X6_reaches : Cond.selects RX7 yX6_reaches yX6_reaches ∈ TBg := tb_of 482 (by decide +kernel) (by decide +kernel)
theorem sel_X6_X6_prefers_X6_prefers : Cond.selects RX6 yX6_prefers yX6_prefers ∈ TBg := tb_of 486 (by decide +kernel) (by decide +kernel)
theorem sel_X0_X6_prefers_X0_prefers : Cond.selects RX0 yX6_prefers yX0_prefers ∈ TBg := tb_of 488 (by decide +kernel) (by decide +kernel)
theorem sel_X1_X6_prefers_X0_prefers : Cond.selects RX1 yX6_prefers yX0_prefers ∈ TBg := tb_of 492 (by decide +kernel) (by decide +kernel)
theorem sel_X3_X6_prefers_X6_prefers : Cond.selects RX3 yX6_prefers yX6_prefers ∈ TBg := tb_of 493 (by decide +kernel) (by decide +kernel)
theorem sel_X5_X6_prefers_X5_prefers : Cond.selects RX5 yX6_prefers yX5_prefers ∈ TBg := tb_of 494 (by decide +kernel) (by decide +kernel)
theorem sel_X7_X6_prefers_X7_prefers : Cond.selects RX7 yX6_prefers yX7_prefers ∈ TBg := tb_of 497 (by decide +kernel) (by decide +kernel)
theorem sel_X8_X8_bitter_X8_bitter : Cond.selects RX8 yX8_bitter yX8_bitter ∈ TBg := tb_of 504 (by decide +kernel) (by decide +kernel)
theorem sel_X8_X8_ink_X8_ink : Cond.selects RX8 yX8_ink yX8_ink ∈ TBg := tb_of 510 (by decide +kernel) (by decide +kernel)
theorem sel_X8_X8_watch_X8_watch : Cond.selects RX8 yX8_watch yX8_watch ∈ TBg := tb_of 514 (by decide +kernel) (by decide +kernel)
theorem sel_X8_X8_hour_X8_hour : Cond.selects RX8 yX8_hour yX8_hour ∈ TBg := tb_of 519 (by decide +kernel) (by decide +kernel)
theorem sel_X2_X2_passHour_X2_passHour : Cond.selects RX2 yX2_passHour yX2_passHour ∈ TBg := tb_of 523 (by decide +kernel) (by decide +kernel)
theorem sel_X2_X2_countLeft_X2_countLeft : Cond.selects RX2 yX2_countLeft yX2_countLeft ∈ TBg := tb_of 527 (by decide +kernel) (by decide +kernel)
theorem sel_X2_X2_leftWords_X2_leftWords : Cond.selects RX2 yX2_leftWords yX2_leftWords ∈ TBg := tb_of 531 (by decide +kernel) (by decide +kernel)
theorem sel_X2_X2_allWords_X2_allWords : Cond.selects RX2 yX2_allWords yX2_allWords ∈ TBg := tb_of 535 (by decide +kernel) (by decide +kernel)
theorem sel_X6_X6_meals_X6_meals : Cond.selects RX6 yX6_meals yX6_meals ∈ TBg := tb_of 546 (by decide +kernel) (by decide +kernel)
theorem sel_X0_X6_meals_X6_meals : Cond.selects RX0 yX6_meals yX6_meals ∈ TBg := tb_of 548 (by decide +kernel) (by decide +kernel)
theorem sel_X1_X6_meals_X6_meals : Cond.selects RX1 yX6_meals yX6_meals ∈ TBg := tb_of 549 (by decide +kernel) (by decide +kernel)
theorem sel_X3_X6_meals_X3_meals : Cond.selects RX3 yX6_meals yX3_meals ∈ TBg := tb_of 550 (by decide +kernel) (by decide +kernel)
theorem sel_X5_X6_meals_X6_meals : Cond.selects RX5 yX6_meals yX6_meals ∈ TBg := tb_of 553 (by decide +kernel) (by decide +kernel)
theorem sel_X7_X6_meals_X6_meals : Cond.selects RX7 yX6_meals yX6_meals ∈ TBg := tb_of 554 (by decide +kernel) (by decide +kernel)
theorem sel_X8_X8_anew_X8_anew : Cond.selects RX8 yX8_anew yX8_anew ∈ TBg := tb_of 559 (by decide +kernel) (by decide +kernel)
theorem sel_X8_X8_left_X8_left : Cond.selects RX8 yX8_left yX8_left ∈ TBg := tb_of 563 (by decide +kernel) (by decide +kernel)
theorem sel_X2_X2_becomeAs_X2_becomeAs : Cond.selects RX2 yX2_becomeAs yX2_becomeAs ∈ TBg := tb_of 571 (by decide +kernel) (by decide +kernel)
theorem sel_X8_X8_eaten_X8_eaten : Cond.selects RX8 yX8_eaten yX8_eaten ∈ TBg := tb_of 579 (by decide +kernel) (by decide +kernel)
theorem sel_X2_X2_hourOfGoing_X2_hourOfGoing : Cond.selects RX2 yX2_hourOfGoing yX2_hourOfGoing ∈ TBg := tb_of 583 (by decide +kernel) (by decide +kernel)
theorem sel_X8_X8_meanings_X8_meanings : Cond.selects RX8 yX8_meanings yX8_meanings ∈ TBg := tb_of 588 (by decide +kernel) (by decide +kernel)
theorem sel_X2_X2_passTillDusk_X2_passTillDusk : Cond.selects RX2 yX2_passTillDusk yX2_passTillDusk ∈ TBg := tb_of 592 (by decide +kernel) (by decide +kernel)
theorem sel_X2_X2_leftMeanings_X2_leftMeanings : Cond.selects RX2 yX2_leftMeanings yX2_leftMeanings ∈ TBg := tb_of 596 (by decide +kernel) (by decide +kernel)
theorem sel_X8_X8_remain_X8_remain : Cond.selects RX8 yX8_remain yX8_remain ∈ TBg := tb_of 600 (by decide +kernel) (by decide +kernel)
theorem sel_X8_X8_holds_X8_holds : Cond.selects RX8 yX8_holds yX8_holds ∈ TBg := tb_of 604 (by decide +kernel) (by decide +kernel)
theorem sel_X2_X2_countLeftOf_X2_countLeftOf : Cond.selects RX2 yX2_countLeftOf yX2_countLeftOf ∈ TBg := tb_of 608 (by decide +kernel) (by decide +kernel)
theorem sel_X8_X8_boys_X8_boys : Cond.selects RX8 yX8_boys yX8_boys ∈ TBg := tb_of 613 (by decide +kernel) (by decide +kernel)
theorem sel_X2_X2_hasWords_X2_hasWords : Cond.selects RX2 yX2_hasWords yX2_hasWords ∈ TBg := tb_of 617 (by decide +kernel) (by decide +kernel)
theorem sel_X8_X8_guard_X8_guard : Cond.selects RX8 yX8_guard yX8_guard ∈ TBg := tb_of 627 (by decide +kernel) (by decide +kernel)
theorem sel_X8_X8_winter_X8_winter : Cond.selects RX8 yX8_winter yX8_winter ∈ TBg := tb_of 631 (by decide +kernel) (by decide +kernel)
theorem sel_X2_X2_keepAway_X2_keepAway : Cond.selects RX2 yX2_keepAway yX2_keepAway ∈ TBg := tb_of 636 (by decide +kernel) (by decide +kernel)
theorem sel_X8_X8_becomes_X8_becomes : Cond.selects RX8 yX8_becomes yX8_becomes ∈ TBg := tb_of 640 (by decide +kernel) (by decide +kernel)
theorem sel_X2_X2_placeOtherThan_X2_placeOtherThan : Cond.selects RX2 yX2_placeOtherThan yX2_placeOtherThan ∈ TBg := tb_of 644 (by decide +kernel) (by decide +kernel)
theorem sel_X8_X8_danger_X8_danger : Cond.selects RX8 yX8_danger yX8_danger ∈ TBg := tb_of 648 (by decide +kernel) (by decide +kernel)
theorem sel_X8_X8_lasts_X8_lasts : Cond.selects RX8 yX8_lasts yX8_lasts ∈ TBg := tb_of 652 (by decide +kernel) (by decide +kernel)
theorem sel_X8_X8_mixed_X8_mixed : Cond.selects RX8 yX8_mixed yX8_mixed ∈ TBg := tb_of 656 (by decide +kernel) (by decide +kernel)
theorem sel_X8_X8_tastes_X8_tastes : Cond.selects RX8 yX8_tastes yX8_tastes ∈ TBg := tb_of 668 (by decide +kernel) (by decide +kernel)
theorem sel_X8_X8_fitting_X8_fitting : Cond.selects RX8 yX8_fitting yX8_fitting ∈ TBg := tb_of 672 (by decide +kernel) (by decide +kernel)
theorem sel_X8_X8_seeds_X8_seeds : Cond.selects RX8 yX8_seeds yX8_seeds ∈ TBg := tb_of 678 (by decide +kernel) (by decide +kernel)
theorem sel_X8_X8_row_X8_row : Cond.selects RX8 yX8_row yX8_row ∈ TBg := tb_of 685 (by decide +kernel) (by decide +kernel)
theorem sel_X8_X8_judge_X8_judge : Cond.selects RX8 yX8_judge yX8_judge ∈ TBg := tb_of 689 (by decide +kernel) (by decide +kernel)
theorem sel_X8_X8_image_X8_image : Cond.selects RX8 yX8_image yX8_image ∈ TBg := tb_of 693 (by decide +kernel) (by decide +kernel)
theorem sel_X8_X8_on_X8_on : Cond.selects RX8 yX8_on yX8_on ∈ TBg := tb_of 697 (by decide +kernel) (by decide +kernel)
theorem sel_X8_X8_count_X8_count : Cond.selects RX8 yX8_count yX8_count ∈ TBg := tb_of 701 (by decide +kernel) (by decide +kernel)
theorem sel_X2_X2_strengthLeft_X2_strengthLeft : Cond.selects RX2 yX2_strengthLeft yX2_strengthLeft ∈ TBg := tb_of 705 (by decide +kernel) (by decide +kernel)
theorem sel_X9_X9_letter_X9_letter : Cond.selects RX9 yX9_letter yX9_letter ∈ TBg := tb_of 797 (by decide +kernel) (by decide +kernel)
theorem sel_X9_X9_text_X9_text : Cond.selects RX9 yX9_text yX9_text ∈ TBg := tb_of 808 (by decide +kernel) (by decide +kernel)
theorem sel_X9_X9_image_X9_image : Cond.selects RX9 yX9_image yX9_image ∈ TBg := tb_of 866 (by decide +kernel) (by decide +kernel)
theorem sel_X9_X9_on_X9_on : Cond.selects RX9 yX9_on yX9_on ∈ TBg := tb_of 870 (by decide +kernel) (by decide +kernel)
theorem sel_X9_X9_word_X9_word : Cond.selects RX9 yX9_word yX9_word ∈ TBg := tb_of 874 (by decide +kernel) (by decide +kernel)
theorem sel_X9_X9_bird_X9_bird : Cond.selects RX9 yX9_bird yX9_bird ∈ TBg := tb_of 882 (by decide +kernel) (by decide +kernel)
theorem sel_X9_X9_bitter_X9_bitter : Cond.selects RX9 yX9_bitter yX9_bitter ∈ TBg := tb_of 906 (by decide +kernel) (by decide +kernel)
theorem sel_X9_X9_ink_X9_ink : Cond.selects RX9 yX9_ink yX9_ink ∈ TBg := tb_of 913 (by decide +kernel) (by decide +kernel)
theorem sel_X9_X9_watch_X9_watch : Cond.selects RX9 yX9_watch yX9_watch ∈ TBg := tb_of 917 (by decide +kernel) (by decide +kernel)
theorem sel_X9_X9_hour_X9_hour : Cond.selects RX9 yX9_hour yX9_hour ∈ TBg := tb_of 921 (by decide +kernel) (by decide +kernel)
theorem sel_X9_X9_anew_X9_anew : Cond.selects RX9 yX9_anew yX9_anew ∈ TBg := tb_of 933 (by decide +kernel) (by decide +kernel)
theorem sel_X9_X9_left_X9_left : Cond.selects RX9 yX9_left yX9_left ∈ TBg := tb_of 937 (by decide +kernel) (by decide +kernel)
theorem sel_X9_X9_eaten_X9_eaten : Cond.selects RX9 yX9_eaten yX9_eaten ∈ TBg := tb_of 945 (by decide +kernel) (by decide +kernel)
theorem sel_X9_X9_meanings_X9_meanings : Cond.selects RX9 yX9_meanings yX9_meanings ∈ TBg := tb_of 953 (by decide +kernel) (by decide +kernel)
theorem sel_X9_X9_remain_X9_remain : Cond.selects RX9 yX9_remain yX9_remain ∈ TBg := tb_of 965 (by decide +kernel) (by decide +kernel)
theorem sel_X9_X9_holds_X9_holds : Cond.selects RX9 yX9_holds yX9_holds ∈ TBg := tb_of 972 (by decide +kernel) (by decide +kernel)
theorem sel_X9_X9_boys_X9_boys : Cond.selects RX9 yX9_boys yX9_boys ∈ TBg := tb_of 976 (by decide +kernel) (by decide +kernel)
theorem sel_X9_X9_guard_X9_guard : Cond.selects RX9 yX9_guard yX9_guard ∈ TBg := tb_of 988 (by decide +kernel) (by decide +kernel)
theorem sel_X9_X9_winter_X9_winter : Cond.selects RX9 yX9_winter yX9_winter ∈ TBg := tb_of 992 (by decide +kernel) (by decide +kernel)
theorem sel_X9_X9_becomes_X9_becomes : Cond.selects RX9 yX9_becomes yX9_becomes ∈ TBg := tb_of 1001 (by decide +kernel) (by decide +kernel)
theorem sel_X9_X9_danger_X9_danger : Cond.selects RX9 yX9_danger yX9_danger ∈ TBg := tb_of 1009 (by decide +kernel) (by decide +kernel)
theorem sel_X9_X9_lasts_X9_lasts : Cond.selects RX9 yX9_lasts yX9_lasts ∈ TBg := tb_of 1013 (by decide +kernel) (by decide +kernel)
theorem sel_X9_X9_mixed_X9_mixed : Cond.selects RX9 yX9_mixed yX9_mixed ∈ TBg := tb_of 1017 (by decide +kernel) (by decide +kernel)
theorem sel_X9_X9_tastes_X9_tastes : Cond.selects RX9 yX9_tastes yX9_tastes ∈ TBg := tb_of 1021 (by decide +kernel) (by decide +kernel)
theorem sel_X9_X9_fitting_X9_fitting : Cond.selects RX9 yX9_fitting yX9_fitting ∈ TBg := tb_of 1025 (by decide +kernel) (by decide +kernel)
theorem sel_X9_X9_row_X9_row : Cond.selects RX9 yX9_row yX9_row ∈ TBg := tb_of 1029 (by decide +kernel) (by decide +kernel)
theorem sel_X9_X9_judge_X9_judge : Cond.selects RX9 yX9_judge yX9_judge ∈ TBg := tb_of 1033 (by decide +kernel) (by decide +kernel)
theorem sel_X9_X9_seeds_X9_seeds : Cond.selects RX9 yX9_seeds yX9_seeds ∈ TBg := tb_of 1037 (by decide +kernel) (by decide +kernel)
theorem sel_X9_X9_count_X9_count : Cond.selects RX9 yX9_count yX9_count ∈ TBg := tb_of 1044 (by decide +kernel) (by decide +kernel)
theorem sel_X8_X8_refuse_X8_refuse : Cond.selects RX8 yX8_refuse yX8_refuse ∈ TBg := tb_of 0 (by decide +kernel) (by decide +kernel)
theorem sel_X4_X4_misspeltPlace_X4_misspeltPlace : Cond.selects RX4 yX4_misspeltPlace yX4_misspeltPlace ∈ TBg := tb_of 1 (by decide +kernel) (by decide +kernel)
theorem sel_X4_X4_letterAt_X4_letterAt : Cond.selects RX4 yX4_letterAt yX4_letterAt ∈ TBg := tb_of 2 (by decide +kernel) (by decide +kernel)
theorem sel_X4_X4_unfitPlace_X4_unfitPlace : Cond.selects RX4 yX4_unfitPlace yX4_unfitPlace ∈ TBg := tb_of 3 (by decide +kernel) (by decide +kernel)
theorem sel_X4_X4_beginsStatement_X4_beginsStatement : Cond.selects RX4 yX4_beginsStatement yX4_beginsStatement ∈ TBg := tb_of 4 (by decide +kernel) (by decide +kernel)
theorem sel_X4_X4_isFit_X4_isFit : Cond.selects RX4 yX4_isFit yX4_isFit ∈ TBg := tb_of 5 (by decide +kernel) (by decide +kernel)
theorem sel_X4_X4_digitAt_X4_digitAt : Cond.selects RX4 yX4_digitAt yX4_digitAt ∈ TBg := tb_of 6 (by decide +kernel) (by decide +kernel)
theorem sel_X4_X4_tellStatement_X4_tellStatement : Cond.selects RX4 yX4_tellStatement yX4_tellStatement ∈ TBg := tb_of 7 (by decide +kernel) (by decide +kernel)
theorem sel_X8_X8_mindAsNow_X8_mindAsNow : Cond.selects RX8 yX8_mindAsNow yX8_mindAsNow ∈ TBg := tb_of 8 (by decide +kernel) (by decide +kernel)
theorem sel_X8_X8_isKeptByWatching_X8_isKeptByWatching : Cond.selects RX8 yX8_isKeptByWatching yX8_isKeptByWatching ∈ TBg := tb_of 9 (by decide +kernel) (by decide +kernel)
theorem sel_X8_X8_countLeftByBitters_X8_countLeftByBitters : Cond.selects RX8 yX8_countLeftByBitters yX8_countLeftByBitters ∈ TBg := tb_of 10 (by decide +kernel) (by decide +kernel)
theorem sel_X9_X9_no_X9_no : Cond.selects RX9 yX9_no yX9_no ∈ TBg := tb_of 11 (by decide +kernel) (by decide +kernel)
theorem sel_X9_X9_statement_X9_statement : Cond.selects RX9 yX9_statement yX9_statement ∈ TBg := tb_of 12 (by decide +kernel) (by decide +kernel)
theorem sel_X9_X9_next_X9_next : Cond.selects RX9 yX9_next yX9_next ∈ TBg := tb_of 13 (by decide +kernel) (by decide +kernel)
theorem sel_X9_X9_readsKind_X9_readsKind : Cond.selects RX9 yX9_readsKind yX9_readsKind ∈ TBg := tb_of 14 (by decide +kernel) (by decide +kernel)
theorem sel_X9_X9_readsOnes_X9_readsOnes : Cond.selects RX9 yX9_readsOnes yX9_readsOnes ∈ TBg := tb_of 15 (by decide +kernel) (by decide +kernel)
theorem sel_X9_X9_passesAll_X9_passesAll : Cond.selects RX9 yX9_passesAll yX9_passesAll ∈ TBg := tb_of 16 (by decide +kernel) (by decide +kernel)
theorem sel_X9_X9_passes_X9_passes : Cond.selects RX9 yX9_passes yX9_passes ∈ TBg := tb_of 17 (by decide +kernel) (by decide +kernel)
theorem sel_X9_X9_passOne_X9_passOne : Cond.selects RX9 yX9_passOne yX9_passOne ∈ TBg := tb_of 18 (by decide +kernel) (by decide +kernel)
theorem sel_X9_X9_comes_X9_comes : Cond.selects RX9 yX9_comes yX9_comes ∈ TBg := tb_of 19 (by decide +kernel) (by decide +kernel)
theorem sel_X9_X9_comesWord_X9_comesWord : Cond.selects RX9 yX9_comesWord yX9_comesWord ∈ TBg := tb_of 20 (by decide +kernel) (by decide +kernel)
theorem sel_X9_X9_comesBird_X9_comesBird : Cond.selects RX9 yX9_comesBird yX9_comesBird ∈ TBg := tb_of 21 (by decide +kernel) (by decide +kernel)
theorem sel_X9_X9_comesWatch_X9_comesWatch : Cond.selects RX9 yX9_comesWatch yX9_comesWatch ∈ TBg := tb_of 22 (by decide +kernel) (by decide +kernel)
theorem sel_X9_X9_isWord_X9_isWord : Cond.selects RX9 yX9_isWord yX9_isWord ∈ TBg := tb_of 23 (by decide +kernel) (by decide +kernel)
theorem sel_X9_X9_strengthOf_X9_strengthOf : Cond.selects RX9 yX9_strengthOf yX9_strengthOf ∈ TBg := tb_of 24 (by decide +kernel) (by decide +kernel)
theorem sel_X9_X9_isBird_X9_isBird : Cond.selects RX9 yX9_isBird yX9_isBird ∈ TBg := tb_of 25 (by decide +kernel) (by decide +kernel)
theorem sel_X9_X9_eatsBy_X9_eatsBy : Cond.selects RX9 yX9_eatsBy yX9_eatsBy ∈ TBg := tb_of 26 (by decide +kernel) (by decide +kernel)
theorem sel_X9_X9_mayEat_X9_mayEat : Cond.selects RX9 yX9_mayEat yX9_mayEat ∈ TBg := tb_of 27 (by decide +kernel) (by decide +kernel)
theorem sel_X9_X9_isGone_X9_isGone : Cond.selects RX9 yX9_isGone yX9_isGone ∈ TBg := tb_of 28 (by decide +kernel) (by decide +kernel)
theorem sel_X9_X9_isRather_X9_isRather : Cond.selects RX9 yX9_isRather yX9_isRather ∈ TBg := tb_of 29 (by decide +kernel) (by decide +kernel)
theorem sel_X9_X9_goesHour_X9_goesHour : Cond.selects RX9 yX9_goesHour yX9_goesHour ∈ TBg := tb_of 30 (by decide +kernel) (by decide +kernel)
theorem sel_X9_X9_eats_X9_eats : Cond.selects RX9 yX9_eats yX9_eats ∈ TBg := tb_of 31 (by decide +kernel) (by decide +kernel)
theorem sel_X9_X9_leftNow_X9_leftNow : Cond.selects RX9 yX9_leftNow yX9_leftNow ∈ TBg := tb_of 32 (by decide +kernel) (by decide +kernel)
theorem sel_X9_X9_goesIn_X9_goesIn : Cond.selects RX9 yX9_goesIn yX9_goesIn ∈ TBg := tb_of 33 (by decide +kernel) (by decide +kernel)
theorem sel_X9_X9_leftAtDusk_X9_leftAtDusk : Cond.selects RX9 yX9_leftAtDusk yX9_leftAtDusk ∈ TBg := tb_of 34 (by decide +kernel) (by decide +kernel)
theorem sel_X9_X9_meaningsOf_X9_meaningsOf : Cond.selects RX9 yX9_meaningsOf yX9_meaningsOf ∈ TBg := tb_of 35 (by decide +kernel) (by decide +kernel)
theorem sel_X9_X9_areWords_X9_areWords : Cond.selects RX9 yX9_areWords yX9_areWords ∈ TBg := tb_of 36 (by decide +kernel) (by decide +kernel)
theorem sel_X9_X9_watchedLeft_X9_watchedLeft : Cond.selects RX9 yX9_watchedLeft yX9_watchedLeft ∈ TBg := tb_of 37 (by decide +kernel) (by decide +kernel)
theorem sel_X9_X9_lower_X9_lower : Cond.selects RX9 yX9_lower yX9_lower ∈ TBg := tb_of 38 (by decide +kernel) (by decide +kernel)
theorem sel_X9_X9_otherAt_X9_otherAt : Cond.selects RX9 yX9_otherAt yX9_otherAt ∈ TBg := tb_of 39 (by decide +kernel) (by decide +kernel)
theorem ml_L_9 : Cond.methodLink RL 9 yX8_init ∈ TBg := tb_of 61 (by decide +kernel) (by decide +kernel)
theorem kI_L_9 : CIw RL 9 yX8_init cX8_init 2 0 := ⟨ml_L_9, im_X8_init, ini_X8, cod_X8_init, rfl, ⟨by decide +kernel, by decide +kernel, by decide +kernel⟩⟩
theorem ml_X8_27 : Cond.methodLink RX8 27 yX2_init ∈ TBg := tb_of 112 (by decide +kernel) (by decide +kernel)
theorem kI_X8_27 : CIw RX8 27 yX2_init cX2_init 2 1 := ⟨ml_X8_27, im_X2_init, ini_X2, cod_X2_init, rfl, ⟨by decide +kernel, by decide +kernel, by decide +kernel⟩⟩
theorem ml_L_13 : Cond.methodLink RL 13 yX8_letter ∈ TBg := tb_of 214 (by decide +kernel) (by decide +kernel)
theorem kV_L_13 : CVw RL 13 yX8_letter cX8_letter 2 (some .int) 1 := ⟨ml_L_13, im_X8_letter, sel_X8_X8_letter_X8_letter, ini_X8, cod_X8_letter, ⟨by decide +kernel, by decide +kernel, by decide +kernel⟩⟩
theorem ml_X8_56 : Cond.methodLink RX8 56 yX8_refuse ∈ TBg := tb_of 218 (by decide +kernel) (by decide +kernel)
theorem kV_X8_56 : CVw RX8 56 yX8_refuse cX8_refuse 3 (some .int) 1 := ⟨ml_X8_56, im_X8_refuse, sel_X8_X8_refuse_X8_refuse, ini_X8, cod_X8_refuse, ⟨by decide +kernel, by decide +kernel, by decide +kernel⟩⟩
theorem ml_X8_60 : Cond.methodLink RX8 60 yX4_isFull ∈ TBg := tb_of 222 (by decide +kernel) (by decide +kernel)
theorem kV_X8_60 : CVw RX8 60 yX4_isFull cX4_isFull 1 (some .boolean) 0 := ⟨ml_X8_60, im_X4_isFull, sel_X4_X4_isFull_X4_isFull, ini_X4, cod_X4_isFull, ⟨by decide +kernel, by decide +kernel, by decide +kernel⟩⟩
theorem ml_X8_64 : Cond.methodLink RX8 64 yX4_add ∈ TBg := tb_of 226 (by decide +kernel) (by decide +kernel)
theorem kV_X8_64 : CVw RX8 64 yX4_add cX4_add 2 (some .int) 1 := ⟨ml_X8_64, im_X4_add, sel_X4_X4_add_X4_add, ini_X4, cod_X4_add, ⟨by decide +kernel, by decide +kernel, by decide +kernel⟩⟩
theorem ml_X4_19 : Cond.methodLink RX4 19 yX4_isFull ∈ TBg := tb_of 230 (by decide +kernel) (by decide +kernel)
theorem kV_X4_19 : CVw RX4 19 yX4_isFull cX4_isFull 1 (some .boolean) 0 := ⟨ml_X4_19, im_X4_isFull, sel_X4_X4_isFull_X4_isFull, ini_X4, cod_X4_isFull, ⟨by decide +kernel, by decide +kernel, by decide +kernel⟩⟩
theorem ml_L_18 : Cond.methodLink RL 18 yX8_text ∈ TBg := tb_of 231 (by decide +kernel) (by decide +kernel)
theorem kV_L_18 : CVw RL 18 yX8_text cX8_text 2 (some .int) 0 := ⟨ml_L_18, im_X8_text, sel_X8_X8_text_X8_text, ini_X8, cod_X8_text, ⟨by decide +kernel, by decide +kernel, by decide +kernel⟩⟩
theorem ml_X8_75 : Cond.methodLink RX8 75 yX4_fault ∈ TBg := tb_of 235 (by decide +kernel) (by decide +kernel)
theorem kV_X8_75 : CVw RX8 75 yX4_fault cX4_fault 5 (some .int) 2 := ⟨ml_X8_75, im_X4_fault, sel_X4_X4_fault_X4_fault, ini_X4, cod_X4_fault, ⟨by decide +kernel, by decide +kernel, by decide +kernel⟩⟩
theorem ml_X4_23 : Cond.methodLink RX4 23 yX4_misspeltPlace ∈ TBg := tb_of 239 (by decide +kernel) (by decide +kernel)
theorem kV_X4_23 : CVw RX4 23 yX4_misspeltPlace cX4_misspeltPlace 4 (some .int) 0 := ⟨ml_X4_23, im_X4_misspeltPlace, sel_X4_X4_misspeltPlace_X4_misspeltPlace, ini_X4, cod_X4_misspeltPlace, ⟨by decide +kernel, by decide +kernel, by decide +kernel⟩⟩
theorem ml_X4_39 : Cond.methodLink RX4 39 yX4_letterAt ∈ TBg := tb_of 243 (by decide +kernel) (by decide +kernel)
theorem kV_X4_39 : CVw RX4 39 yX4_letterAt cX4_letterAt 2 (some .char) 1 := ⟨ml_X4_39, im_X4_letterAt, sel_X4_X4_letterAt_X4_letterAt, ini_X4, cod_X4_letterAt, ⟨by decide +kernel, by decide +kernel, by decide +kernel⟩⟩
theorem ml_X4_43 : Cond.methodLink RX4 43 yX4_formBehind ∈ TBg := tb_of 247 (by decide +kernel) (by decide +kernel)
theorem kS_X4_43 : CSw RX4 43 yX4_formBehind cX4_formBehind 1 (some (.object "java/lang/String")) 1 := ⟨ml_X4_43, sta_X4_formBehind, ini_X4, cod_X4_formBehind, ⟨by decide +kernel, by decide +kernel, by decide +kernel⟩⟩
theorem ml_X4_47 : Cond.methodLink RX4 47 yJ0_isEmpty_aae02 ∈ TBg := tb_of 254 (by decide +kernel) (by decide +kernel)
theorem kV_X4_47 : CVw RX4 47 yJ0_isEmpty_aae02 cJ0_isEmpty_aae02 1 (some .boolean) 0 := ⟨ml_X4_47, im_J0_isEmpty_aae02, sel_J0_J0_isEmpty_aae02_J0_isEmpty_aae02, ini_J0, cod_J0_isEmpty_aae02, ⟨by decide +kernel, by decide +kernel, by decide +kernel⟩⟩
theorem ml_X4_52 : Cond.methodLink RX4 52 yJ0_length_8abf5 ∈ TBg := tb_of 258 (by decide +kernel) (by decide +kernel)
theorem kV_X4_52 : CVw RX4 52 yJ0_length_8abf5 cJ0_length_8abf5 1 (some .int) 0 := ⟨ml_X4_52, im_J0_length_8abf5, sel_J0_J0_length_8abf5_J0_length_8abf5, ini_J0, cod_J0_length_8abf5, ⟨by decide +kernel, by decide +kernel, by decide +kernel⟩⟩
theorem ml_J0_335 : Cond.methodLink RJ0 335 yJ0_coder_7d493 ∈ TBg := tb_of 262 (by decide +kernel) (by decide +kernel)
theorem kV_J0_335 : CVw RJ0 335 yJ0_coder_7d493 cJ0_coder_7d493 1 (some .byte) 0 := ⟨ml_J0_335, im_J0_coder_7d493, sel_J0_J0_coder_7d493_J0_coder_7d493, ini_J0, cod_J0_coder_7d493, ⟨by decide +kernel, by decide +kernel, by decide +kernel⟩⟩
theorem ml_X4_55 : Cond.methodLink RX4 55 yJ0_charAt_5068e ∈ TBg := tb_of 268 (by decide +kernel) (by decide +kernel)
theorem kV_X4_55 : CVw RX4 55 yJ0_charAt_5068e cJ0_charAt_5068e 2 (some .char) 1 := ⟨ml_X4_55, im_J0_charAt_5068e, sel_J0_J0_charAt_5068e_J0_charAt_5068e, ini_J0, cod_J0_charAt_5068e, ⟨by decide +kernel, by decide +kernel, by decide +kernel⟩⟩
theorem ml_J0_492 : Cond.methodLink RJ0 492 yJ0_isLatin1_aae02 ∈ TBg := tb_of 272 (by decide +kernel) (by decide +kernel)
theorem kV_J0_492 : CVw RJ0 492 yJ0_isLatin1_aae02 cJ0_isLatin1_aae02 1 (some .boolean) 0 := ⟨ml_J0_492, im_J0_isLatin1_aae02, sel_J0_J0_isLatin1_aae02_J0_isLatin1_aae02, ini_J0, cod_J0_isLatin1_aae02, ⟨by decide +kernel, by decide +kernel, by decide +kernel⟩⟩
theorem ml_J0_495 : Cond.methodLink RJ0 495 yJ1_charAt_3b067 ∈ TBg := tb_of 276 (by decide +kernel) (by decide +kernel)
theorem kS_J0_495 : CSw RJ0 495 yJ1_charAt_3b067 cJ1_charAt_3b067 2 (some .char) 2 := ⟨ml_J0_495, sta_J1_charAt_3b067, ini_J1, cod_J1_charAt_3b067, ⟨by decide +kernel, by decide +kernel, by decide +kernel⟩⟩
theorem ml_J1_9 : Cond.methodLink RJ1 9 yJ0_checkIndex_df160 ∈ TBg := tb_of 279 (by decide +kernel) (by decide +kernel)
theorem kS_J1_9 : CSw RJ1 9 yJ0_checkIndex_df160 cJ0_checkIndex_df160 2 none 2 := ⟨ml_J1_9, sta_J0_checkIndex_df160, ini_J0, cod_J0_checkIndex_df160, ⟨by decide +kernel, by decide +kernel, by decide +kernel⟩⟩
theorem ml_J0_1059 : Cond.methodLink RJ0 1059 yJ3_checkIndex_8e157 ∈ TBg := tb_of 284 (by decide +kernel) (by decide +kernel)
theorem kS_J0_1059 : CSw RJ0 1059 yJ3_checkIndex_8e157 cJ3_checkIndex_8e157 3 (some .int) 3 := ⟨ml_J0_1059, sta_J3_checkIndex_8e157, ini_J3, cod_J3_checkIndex_8e157, ⟨by decide +kernel, by decide +kernel, by decide +kernel⟩⟩
theorem ml_J0_498 : Cond.methodLink RJ0 498 yJ2_charAt_3b067 ∈ TBg := tb_of 287 (by decide +kernel) (by decide +kernel)
theorem kS_J0_498 : CSw RJ0 498 yJ2_charAt_3b067 cJ2_charAt_3b067 2 (some .char) 2 := ⟨ml_J0_498, sta_J2_charAt_3b067, ini_J2, cod_J2_charAt_3b067, ⟨by decide +kernel, by decide +kernel, by decide +kernel⟩⟩
theorem ml_J2_67 : Cond.methodLink RJ2 67 yJ2_checkIndex_2214a ∈ TBg := tb_of 290 (by decide +kernel) (by decide +kernel)
theorem kS_J2_67 : CSw RJ2 67 yJ2_checkIndex_2214a cJ2_checkIndex_2214a 2 none 2 := ⟨ml_J2_67, sta_J2_checkIndex_2214a, ini_J2, cod_J2_checkIndex_2214a, ⟨by decide +kernel, by decide +kernel, by decide +kernel⟩⟩
theorem ml_J2_48 : Cond.methodLink RJ2 48 yJ2_length_9d52b ∈ TBg := tb_of 293 (by decide +kernel) (by decide +kernel)
theorem kS_J2_48 : CSw RJ2 48 yJ2_length_9d52b cJ2_length_9d52b 1 (some .int) 1 := ⟨ml_J2_48, sta_J2_length_9d52b, ini_J2, cod_J2_length_9d52b, ⟨by decide +kernel, by decide +kernel, by decide +kernel⟩⟩
theorem ml_J2_414 : Cond.methodLink RJ2 414 yJ0_checkIndex_df160 ∈ TBg := tb_of 296 (by decide +kernel) (by decide +kernel)
theorem kS_J2_414 : CSw RJ2 414 yJ0_checkIndex_df160 cJ0_checkIndex_df160 2 none 2 := ⟨ml_J2_414, sta_J0_checkIndex_df160, ini_J0, cod_J0_checkIndex_df160, ⟨by decide +kernel, by decide +kernel, by decide +kernel⟩⟩
theorem ml_J2_71 : Cond.methodLink RJ2 71 yJ2_getChar_3b067 ∈ TBg := tb_of 297 (by decide +kernel) (by decide +kernel)
theorem kS_J2_71 : CSw RJ2 71 yJ2_getChar_3b067 cJ2_getChar_3b067 2 (some .char) 2 := ⟨ml_J2_71, sta_J2_getChar_3b067, ini_J2, cod_J2_getChar_3b067, ⟨by decide +kernel, by decide +kernel, by decide +kernel⟩⟩
theorem ml_X4_58 : Cond.methodLink RX4 58 yX4_isOfForm ∈ TBg := tb_of 306 (by decide +kernel) (by decide +kernel)
theorem kS_X4_58 : CSw RX4 58 yX4_isOfForm cX4_isOfForm 2 (some .boolean) 2 := ⟨ml_X4_58, sta_X4_isOfForm, ini_X4, cod_X4_isOfForm, ⟨by decide +kernel, by decide +kernel, by decide +kernel⟩⟩
theorem ml_X4_85 : Cond.methodLink RX4 85 yJ0_indexOf_0f7a4 ∈ TBg := tb_of 310 (by decide +kernel) (by decide +kernel)
theorem kV_X4_85 : CVw RX4 85 yJ0_indexOf_0f7a4 cJ0_indexOf_0f7a4 2 (some .int) 1 := ⟨ml_X4_85, im_J0_indexOf_0f7a4, sel_J0_J0_indexOf_0f7a4_J0_indexOf_0f7a4, ini_J0, cod_J0_indexOf_0f7a4, ⟨by decide +kernel, by decide +kernel, by decide +kernel⟩⟩
theorem ml_J0_633 : Cond.methodLink RJ0 633 yJ0_indexOf_7cf53 ∈ TBg := tb_of 314 (by decide +kernel) (by decide +kernel)
theorem kV_J0_633 : CVw RJ0 633 yJ0_indexOf_7cf53 cJ0_indexOf_7cf53 3 (some .int) 2 := ⟨ml_J0_633, im_J0_indexOf_7cf53, sel_J0_J0_indexOf_7cf53_J0_indexOf_7cf53, ini_J0, cod_J0_indexOf_7cf53, ⟨by decide +kernel, by decide +kernel, by decide +kernel⟩⟩
theorem ml_J0_505 : Cond.methodLink RJ0 505 yJ0_length_8abf5 ∈ TBg := tb_of 318 (by decide +kernel) (by decide +kernel)
theorem kV_J0_505 : CVw RJ0 505 yJ0_length_8abf5 cJ0_length_8abf5 1 (some .int) 0 := ⟨ml_J0_505, im_J0_length_8abf5, sel_J0_J0_length_8abf5_J0_length_8abf5, ini_J0, cod_J0_length_8abf5, ⟨by decide +kernel, by decide +kernel, by decide +kernel⟩⟩
theorem ml_J0_637 : Cond.methodLink RJ0 637 yJ1_indexOf_4cfef ∈ TBg := tb_of 319 (by decide +kernel) (by decide +kernel)
theorem kS_J0_637 : CSw RJ0 637 yJ1_indexOf_4cfef cJ1_indexOf_4cfef 4 (some .int) 4 := ⟨ml_J0_637, sta_J1_indexOf_4cfef, ini_J1, cod_J1_indexOf_4cfef, ⟨by decide +kernel, by decide +kernel, by decide +kernel⟩⟩
theorem ml_J1_88 : Cond.methodLink RJ1 88 yJ1_canEncode_9a6ad ∈ TBg := tb_of 322 (by decide +kernel) (by decide +kernel)
theorem kS_J1_88 : CSw RJ1 88 yJ1_canEncode_9a6ad cJ1_canEncode_9a6ad 1 (some .boolean) 1 := ⟨ml_J1_88, sta_J1_canEncode_9a6ad, ini_J1, cod_J1_canEncode_9a6ad, ⟨by decide +kernel, by decide +kernel, by decide +kernel⟩⟩
theorem ml_J1_92 : Cond.methodLink RJ1 92 yJ9_max_7cf53 ∈ TBg := tb_of 325 (by decide +kernel) (by decide +kernel)
theorem kS_J1_92 : CSw RJ1 92 yJ9_max_7cf53 cJ9_max_7cf53 2 (some .int) 2 := ⟨ml_J1_92, sta_J9_max_7cf53, ini_J9, cod_J9_max_7cf53, ⟨by decide +kernel, by decide +kernel, by decide +kernel⟩⟩
theorem ml_J1_38 : Cond.methodLink RJ1 38 yJ9_min_7cf53 ∈ TBg := tb_of 328 (by decide +kernel) (by decide +kernel)
theorem kS_J1_38 : CSw RJ1 38 yJ9_min_7cf53 cJ9_min_7cf53 2 (some .int) 2 := ⟨ml_J1_38, sta_J9_min_7cf53, ini_J9, cod_J9_min_7cf53, ⟨by decide +kernel, by decide +kernel, by decide +kernel⟩⟩
theorem ml_J1_95 : Cond.methodLink RJ1 95 yJ1_indexOfChar_4cfef ∈ TBg := tb_of 331 (by decide +kernel) (by decide +kernel)
theorem kS_J1_95 : CSw RJ1 95 yJ1_indexOfChar_4cfef cJ1_indexOfChar_4cfef 6 (some .int) 4 := ⟨ml_J1_95, sta_J1_indexOfChar_4cfef, ini_J1, cod_J1_indexOfChar_4cfef, ⟨by decide +kernel, by decide +kernel, by decide +kernel⟩⟩
theorem ml_J0_640 : Cond.methodLink RJ0 640 yJ2_indexOf_4cfef ∈ TBg := tb_of 334 (by decide +kernel) (by decide +kernel)
theorem kS_J0_640 : CSw RJ0 640 yJ2_indexOf_4cfef cJ2_indexOf_4cfef 4 (some .int) 4 := ⟨ml_J0_640, sta_J2_indexOf_4cfef, ini_J2, cod_J2_indexOf_4cfef, ⟨by decide +kernel, by decide +kernel, by decide +kernel⟩⟩
theorem ml_J2_224 : Cond.methodLink RJ2 224 yJ9_max_7cf53 ∈ TBg := tb_of 337 (by decide +kernel) (by decide +kernel)
theorem kS_J2_224 : CSw RJ2 224 yJ9_max_7cf53 cJ9_max_7cf53 2 (some .int) 2 := ⟨ml_J2_224, sta_J9_max_7cf53, ini_J9, cod_J9_max_7cf53, ⟨by decide +kernel, by decide +kernel, by decide +kernel⟩⟩
theorem ml_J2_183 : Cond.methodLink RJ2 183 yJ9_min_7cf53 ∈ TBg := tb_of 338 (by decide +kernel) (by decide +kernel)
theorem kS_J2_183 : CSw RJ2 183 yJ9_min_7cf53 cJ9_min_7cf53 2 (some .int) 2 := ⟨ml_J2_183, sta_J9_min_7cf53, ini_J9, cod_J9_min_7cf53, ⟨by decide +kernel, by decide +kernel, by decide +kernel⟩⟩
theorem ml_J2_228 : Cond.methodLink RJ2 228 yJ2_indexOfChar_4cfef ∈ TBg := tb_of 340 (by decide +kernel) (by decide +kernel)
theorem kS_J2_228 : CSw RJ2 228 yJ2_indexOfChar_4cfef cJ2_indexOfChar_4cfef 4 (some .int) 4 := ⟨ml_J2_228, sta_J2_indexOfChar_4cfef, ini_J2, cod_J2_indexOfChar_4cfef, ⟨by decide +kernel, by decide +kernel, by decide +kernel⟩⟩
theorem ml_J2_96 : Cond.methodLink RJ2 96 yJ2_checkBoundsBeginEnd_d044e ∈ TBg := tb_of 343 (by decide +kernel) (by decide +kernel)
theorem kS_J2_96 : CSw RJ2 96 yJ2_checkBoundsBeginEnd_d044e cJ2_checkBoundsBeginEnd_d044e 3 none 3 := ⟨ml_J2_96, sta_J2_checkBoundsBeginEnd_d044e, ini_J2, cod_J2_checkBoundsBeginEnd_d044e, ⟨by decide +kernel, by decide +kernel, by decide +kernel⟩⟩
theorem ml_J2_241 : Cond.methodLink RJ2 241 yJ0_checkBoundsBeginEnd_23922 ∈ TBg := tb_of 346 (by decide +kernel) (by decide +kernel)
theorem kS_J2_241 : CSw RJ2 241 yJ0_checkBoundsBeginEnd_23922 cJ0_checkBoundsBeginEnd_23922 3 none 3 := ⟨ml_J2_241, sta_J0_checkBoundsBeginEnd_23922, ini_J0, cod_J0_checkBoundsBeginEnd_23922, ⟨by decide +kernel, by decide +kernel, by decide +kernel⟩⟩
theorem ml_J0_1062 : Cond.methodLink RJ0 1062 yJ3_checkFromToIndex_8c36e ∈ TBg := tb_of 349 (by decide +kernel) (by decide +kernel)
theorem kS_J0_1062 : CSw RJ0 1062 yJ3_checkFromToIndex_8c36e cJ3_checkFromToIndex_8c36e 4 (some .int) 4 := ⟨ml_J0_1062, sta_J3_checkFromToIndex_8c36e, ini_J3, cod_J3_checkFromToIndex_8c36e, ⟨by decide +kernel, by decide +kernel, by decide +kernel⟩⟩
theorem ml_J2_244 : Cond.methodLink RJ2 244 yJ2_indexOfCharUnsafe_4cfef ∈ TBg := tb_of 352 (by decide +kernel) (by decide +kernel)
theorem kS_J2_244 : CSw RJ2 244 yJ2_indexOfCharUnsafe_4cfef cJ2_indexOfCharUnsafe_4cfef 5 (some .int) 4 := ⟨ml_J2_244, sta_J2_indexOfCharUnsafe_4cfef, ini_J2, cod_J2_indexOfCharUnsafe_4cfef, ⟨by decide +kernel, by decide +kernel, by decide +kernel⟩⟩
theorem ml_J2_232 : Cond.methodLink RJ2 232 yJ2_indexOfSupplementary_4cfef ∈ TBg := tb_of 355 (by decide +kernel) (by decide +kernel)
theorem kS_J2_232 : CSw RJ2 232 yJ2_indexOfSupplementary_4cfef cJ2_indexOfSupplementary_4cfef 7 (some .int) 4 := ⟨ml_J2_232, sta_J2_indexOfSupplementary_4cfef, ini_J2, cod_J2_indexOfSupplementary_4cfef, ⟨by decide +kernel, by decide +kernel, by decide +kernel⟩⟩
theorem ml_J2_164 : Cond.methodLink RJ2 164 yJ11_isValidCodePoint_9a6ad ∈ TBg := tb_of 358 (by decide +kernel) (by decide +kernel)
theorem kS_J2_164 : CSw RJ2 164 yJ11_isValidCodePoint_9a6ad cJ11_isValidCodePoint_9a6ad 2 (some .boolean) 1 := ⟨ml_J2_164, sta_J11_isValidCodePoint_9a6ad, ini_J11, cod_J11_isValidCodePoint_9a6ad, ⟨by decide +kernel, by decide +kernel, by decide +kernel⟩⟩
theorem ml_J2_157 : Cond.methodLink RJ2 157 yJ11_highSurrogate_5068e ∈ TBg := tb_of 361 (by decide +kernel) (by decide +kernel)
theorem kS_J2_157 : CSw RJ2 157 yJ11_highSurrogate_5068e cJ11_highSurrogate_5068e 1 (some .char) 1 := ⟨ml_J2_157, sta_J11_highSurrogate_5068e, ini_J11, cod_J11_highSurrogate_5068e, ⟨by decide +kernel, by decide +kernel, by decide +kernel⟩⟩
theorem ml_J2_161 : Cond.methodLink RJ2 161 yJ11_lowSurrogate_5068e ∈ TBg := tb_of 365 (by decide +kernel) (by decide +kernel)
theorem kS_J2_161 : CSw RJ2 161 yJ11_lowSurrogate_5068e cJ11_lowSurrogate_5068e 1 (some .char) 1 := ⟨ml_J2_161, sta_J11_lowSurrogate_5068e, ini_J11, cod_J11_lowSurrogate_5068e, ⟨by decide +kernel, by decide +kernel, by decide +kernel⟩⟩
theorem ml_X4_27 : Cond.methodLink RX4 27 yX4_unfitPlace ∈ TBg := tb_of 369 (by decide +kernel) (by decide +kernel)
theorem kV_X4_27 : CVw RX4 27 yX4_unfitPlace cX4_unfitPlace 6 (some .int) 2 := ⟨ml_X4_27, im_X4_unfitPlace, sel_X4_X4_unfitPlace_X4_unfitPlace, ini_X4, cod_X4_unfitPlace, ⟨by decide +kernel, by decide +kernel, by decide +kernel⟩⟩
theorem ml_X4_31 : Cond.methodLink RX4 31 yX4_beginsStatement ∈ TBg := tb_of 373 (by decide +kernel) (by decide +kernel)
theorem kV_X4_31 : CVw RX4 31 yX4_beginsStatement cX4_beginsStatement 2 (some .boolean) 1 := ⟨ml_X4_31, im_X4_beginsStatement, sel_X4_X4_beginsStatement_X4_beginsStatement, ini_X4, cod_X4_beginsStatement, ⟨by decide +kernel, by decide +kernel, by decide +kernel⟩⟩
theorem ml_X4_62 : Cond.methodLink RX4 62 yX4_isFit ∈ TBg := tb_of 377 (by decide +kernel) (by decide +kernel)
theorem kV_X4_62 : CVw RX4 62 yX4_isFit cX4_isFit 4 (some .boolean) 3 := ⟨ml_X4_62, im_X4_isFit, sel_X4_X4_isFit_X4_isFit, ini_X4, cod_X4_isFit, ⟨by decide +kernel, by decide +kernel, by decide +kernel⟩⟩
theorem ml_X4_66 : Cond.methodLink RX4 66 yX4_digitAt ∈ TBg := tb_of 381 (by decide +kernel) (by decide +kernel)
theorem kV_X4_66 : CVw RX4 66 yX4_digitAt cX4_digitAt 2 (some .int) 1 := ⟨ml_X4_66, im_X4_digitAt, sel_X4_X4_digitAt_X4_digitAt, ini_X4, cod_X4_digitAt, ⟨by decide +kernel, by decide +kernel, by decide +kernel⟩⟩
theorem ml_X4_73 : Cond.methodLink RX4 73 yX4_areHours ∈ TBg := tb_of 388 (by decide +kernel) (by decide +kernel)
theorem kS_X4_73 : CSw RX4 73 yX4_areHours cX4_areHours 2 (some .boolean) 2 := ⟨ml_X4_73, sta_X4_areHours, ini_X4, cod_X4_areHours, ⟨by decide +kernel, by decide +kernel, by decide +kernel⟩⟩
theorem ml_X8_79 : Cond.methodLink RX8 79 yX4_tellTo ∈ TBg := tb_of 391 (by decide +kernel) (by decide +kernel)
theorem kV_X8_79 : CVw RX8 79 yX4_tellTo cX4_tellTo 4 (some .int) 1 := ⟨ml_X8_79, im_X4_tellTo, sel_X4_X4_tellTo_X4_tellTo, ini_X4, cod_X4_tellTo, ⟨by decide +kernel, by decide +kernel, by decide +kernel⟩⟩
theorem ml_X4_35 : Cond.methodLink RX4 35 yX4_tellStatement ∈ TBg := tb_of 395 (by decide +kernel) (by decide +kernel)
theorem kV_X4_35 : CVw RX4 35 yX4_tellStatement cX4_tellStatement 7 none 2 := ⟨ml_X4_35, im_X4_tellStatement, sel_X4_X4_tellStatement_X4_tellStatement, ini_X4, cod_X4_tellStatement, ⟨by decide +kernel, by decide +kernel, by decide +kernel⟩⟩
theorem ml_X4_77 : Cond.methodLink RX4 77 yX2_addWord ∈ TBg := tb_of 399 (by decide +kernel) (by decide +kernel)
theorem kV_X4_77 : CVw RX4 77 yX2_addWord cX2_addWord 4 none 3 := ⟨ml_X4_77, im_X2_addWord, sel_X2_X2_addWord_X2_addWord, ini_X2, cod_X2_addWord, ⟨by decide +kernel, by decide +kernel, by decide +kernel⟩⟩
theorem ml_X4_88 : Cond.methodLink RX4 88 yX2_addBird ∈ TBg := tb_of 404 (by decide +kernel) (by decide +kernel)
theorem kV_X4_88 : CVw RX4 88 yX2_addBird cX2_addBird 5 none 4 := ⟨ml_X4_88, im_X2_addBird, sel_X2_X2_addBird_X2_addBird, ini_X2, cod_X2_addBird, ⟨by decide +kernel, by decide +kernel, by decide +kernel⟩⟩
theorem ml_X4_92 : Cond.methodLink RX4 92 yX2_setBitter ∈ TBg := tb_of 408 (by decide +kernel) (by decide +kernel)
theorem kV_X4_92 : CVw RX4 92 yX2_setBitter cX2_setBitter 3 none 2 := ⟨ml_X4_92, im_X2_setBitter, sel_X2_X2_setBitter_X2_setBitter, ini_X2, cod_X2_setBitter, ⟨by decide +kernel, by decide +kernel, by decide +kernel⟩⟩
theorem ml_X4_96 : Cond.methodLink RX4 96 yX2_setWatched ∈ TBg := tb_of 412 (by decide +kernel) (by decide +kernel)
theorem kV_X4_96 : CVw RX4 96 yX2_setWatched cX2_setWatched 5 none 3 := ⟨ml_X4_96, im_X2_setWatched, sel_X2_X2_setWatched_X2_setWatched, ini_X2, cod_X2_setWatched, ⟨by decide +kernel, by decide +kernel, by decide +kernel⟩⟩
theorem ml_X2_70 : Cond.methodLink RX2 70 yX2_hasWord ∈ TBg := tb_of 416 (by decide +kernel) (by decide +kernel)
theorem kV_X2_70 : CVw RX2 70 yX2_hasWord cX2_hasWord 2 (some .boolean) 1 := ⟨ml_X2_70, im_X2_hasWord, sel_X2_X2_hasWord_X2_hasWord, ini_X2, cod_X2_hasWord, ⟨by decide +kernel, by decide +kernel, by decide +kernel⟩⟩
theorem ml_X8_83 : Cond.methodLink RX8 83 yX4_clear ∈ TBg := tb_of 420 (by decide +kernel) (by decide +kernel)
theorem kV_X8_83 : CVw RX8 83 yX4_clear cX4_clear 1 none 0 := ⟨ml_X8_83, im_X4_clear, sel_X4_X4_clear_X4_clear, ini_X4, cod_X4_clear, ⟨by decide +kernel, by decide +kernel, by decide +kernel⟩⟩
theorem ml_L_23 : Cond.methodLink RL 23 yX8_word ∈ TBg := tb_of 425 (by decide +kernel) (by decide +kernel)
theorem kV_L_23 : CVw RL 23 yX8_word cX8_word 3 (some .int) 2 := ⟨ml_L_23, im_X8_word, sel_X8_X8_word_X8_word, ini_X8, cod_X8_word, ⟨by decide +kernel, by decide +kernel, by decide +kernel⟩⟩
theorem ml_X8_86 : Cond.methodLink RX8 86 yX2_hasWord ∈ TBg := tb_of 429 (by decide +kernel) (by decide +kernel)
theorem kV_X8_86 : CVw RX8 86 yX2_hasWord cX2_hasWord 2 (some .boolean) 1 := ⟨ml_X8_86, im_X2_hasWord, sel_X2_X2_hasWord_X2_hasWord, ini_X2, cod_X2_hasWord, ⟨by decide +kernel, by decide +kernel, by decide +kernel⟩⟩
theorem ml_X8_99 : Cond.methodLink RX8 99 yX2_strength ∈ TBg := tb_of 430 (by decide +kernel) (by decide +kernel)
theorem kV_X8_99 : CVw RX8 99 yX2_strength cX2_strength 3 (some .int) 1 := ⟨ml_X8_99, im_X2_strength, sel_X2_X2_strength_X2_strength, ini_X2, cod_X2_strength, ⟨by decide +kernel, by decide +kernel, by decide +kernel⟩⟩
theorem ml_X8_102 : Cond.methodLink RX8 102 yX2_isGone ∈ TBg := tb_of 434 (by decide +kernel) (by decide +kernel)
theorem kV_X8_102 : CVw RX8 102 yX2_isGone cX2_isGone 2 (some .boolean) 1 := ⟨ml_X8_102, im_X2_isGone, sel_X2_X2_isGone_X2_isGone, ini_X2, cod_X2_isGone, ⟨by decide +kernel, by decide +kernel, by decide +kernel⟩⟩
theorem ml_X8_108 : Cond.methodLink RX8 108 yX2_isWatched ∈ TBg := tb_of 438 (by decide +kernel) (by decide +kernel)
theorem kV_X8_108 : CVw RX8 108 yX2_isWatched cX2_isWatched 3 (some .boolean) 2 := ⟨ml_X8_108, im_X2_isWatched, sel_X2_X2_isWatched_X2_isWatched, ini_X2, cod_X2_isWatched, ⟨by decide +kernel, by decide +kernel, by decide +kernel⟩⟩
theorem ml_L_28 : Cond.methodLink RL 28 yX8_bird ∈ TBg := tb_of 442 (by decide +kernel) (by decide +kernel)
theorem kV_L_28 : CVw RL 28 yX8_bird cX8_bird 3 (some .int) 2 := ⟨ml_L_28, im_X8_bird, sel_X8_X8_bird_X8_bird, ini_X8, cod_X8_bird, ⟨by decide +kernel, by decide +kernel, by decide +kernel⟩⟩
theorem ml_X8_112 : Cond.methodLink RX8 112 yX2_hasBird ∈ TBg := tb_of 446 (by decide +kernel) (by decide +kernel)
theorem kV_X8_112 : CVw RX8 112 yX2_hasBird cX2_hasBird 2 (some .boolean) 1 := ⟨ml_X8_112, im_X2_hasBird, sel_X2_X2_hasBird_X2_hasBird, ini_X2, cod_X2_hasBird, ⟨by decide +kernel, by decide +kernel, by decide +kernel⟩⟩
theorem ml_X8_127 : Cond.methodLink RX8 127 yX2_kindOf ∈ TBg := tb_of 450 (by decide +kernel) (by decide +kernel)
theorem kV_X8_127 : CVw RX8 127 yX2_kindOf cX2_kindOf 2 (some (.object "EatenByDusk$Sparrow")) 1 := ⟨ml_X8_127, im_X2_kindOf, sel_X2_X2_kindOf_X2_kindOf, ini_X2, cod_X2_kindOf, ⟨by decide +kernel, by decide +kernel, by decide +kernel⟩⟩
theorem ml_X8_131 : Cond.methodLink RX8 131 yX6_choice ∈ TBg := tb_of 454 (by decide +kernel) (by decide +kernel)
theorem sm_X8_131 : Cond.sameMethod yX6_choice.cls yX6_choice.cls yX6_choice.name yX6_choice.desc ∈ TBg := tb_of 457 (by decide +kernel) (by decide +kernel)
theorem kU_X8_131_X0 : CUw RX8 131 RX0 yX6_choice yX6_choice cX6_choice 5 (some .int) 2 := ⟨ml_X8_131, sm_X8_131, sel_X0_X6_choice_X6_choice, im_X6_choice, ini_X6, cod_X6_choice, im_X6_choice, ⟨_, _, _, cod_X6_choice⟩, ⟨by decide +kernel, by decide +kernel, by decide +kernel⟩⟩
theorem kU_X8_131_X1 : CUw RX8 131 RX1 yX6_choice yX6_choice cX6_choice 5 (some .int) 2 := ⟨ml_X8_131, sm_X8_131, sel_X1_X6_choice_X6_choice, im_X6_choice, ini_X6, cod_X6_choice, im_X6_choice, ⟨_, _, _, cod_X6_choice⟩, ⟨by decide +kernel, by decide +kernel, by decide +kernel⟩⟩
theorem kU_X8_131_X3 : CUw RX8 131 RX3 yX6_choice yX6_choice cX6_choice 5 (some .int) 2 := ⟨ml_X8_131, sm_X8_131, sel_X3_X6_choice_X6_choice, im_X6_choice, ini_X6, cod_X6_choice, im_X6_choice, ⟨_, _, _, cod_X6_choice⟩, ⟨by decide +kernel, by decide +kernel, by decide +kernel⟩⟩
theorem kU_X8_131_X5 : CUw RX8 131 RX5 yX6_choice yX6_choice cX6_choice 5 (some .int) 2 := ⟨ml_X8_131, sm_X8_131, sel_X5_X6_choice_X6_choice, im_X6_choice, ini_X6, cod_X6_choice, im_X6_choice, ⟨_, _, _, cod_X6_choice⟩, ⟨by decide +kernel, by decide +kernel, by decide +kernel⟩⟩
theorem kU_X8_131_X6 : CUw RX8 131 RX6 yX6_choice yX6_choice cX6_choice 5 (some .int) 2 := ⟨ml_X8_131, sm_X8_131, sel_X6_X6_choice_X6_choice, im_X6_choice, ini_X6, cod_X6_choice, im_X6_choice, ⟨_, _, _, cod_X6_choice⟩, ⟨by decide +kernel, by decide +kernel, by decide +kernel⟩⟩
theorem kU_X8_131_X7 : CUw RX8 131 RX7 yX6_choice yX6_choice cX6_choice 5 (some .int) 2 := ⟨ml_X8_131, sm_X8_131, sel_X7_X6_choice_X6_choice, im_X6_choice, ini_X6, cod_X6_choice, im_X6_choice, ⟨_, _, _, cod_X6_choice⟩, ⟨by decide +kernel, by decide +kernel, by decide +kernel⟩⟩
theorem ml_X6_15 : Cond.methodLink RX6 15 yX2_mayBeEaten ∈ TBg := tb_of 464 (by decide +kernel) (by decide +kernel)
theorem kV_X6_15 : CVw RX6 15 yX2_mayBeEaten cX2_mayBeEaten 3 (some .boolean) 2 := ⟨ml_X6_15, im_X2_mayBeEaten, sel_X2_X2_mayBeEaten_X2_mayBeEaten, ini_X2, cod_X2_mayBeEaten, ⟨by decide +kernel, by decide +kernel, by decide +kernel⟩⟩
theorem ml_X2_73 : Cond.methodLink RX2 73 yX2_isGone ∈ TBg := tb_of 468 (by decide +kernel) (by decide +kernel)
theorem kV_X2_73 : CVw RX2 73 yX2_isGone cX2_isGone 2 (some .boolean) 1 := ⟨ml_X2_73, im_X2_isGone, sel_X2_X2_isGone_X2_isGone, ini_X2, cod_X2_isGone, ⟨by decide +kernel, by decide +kernel, by decide +kernel⟩⟩
theorem ml_X2_76 : Cond.methodLink RX2 76 yX2_isWatched ∈ TBg := tb_of 469 (by decide +kernel) (by decide +kernel)
theorem kV_X2_76 : CVw RX2 76 yX2_isWatched cX2_isWatched 3 (some .boolean) 2 := ⟨ml_X2_76, im_X2_isWatched, sel_X2_X2_isWatched_X2_isWatched, ini_X2, cod_X2_isWatched, ⟨by decide +kernel, by decide +kernel, by decide +kernel⟩⟩
theorem ml_X2_80 : Cond.methodLink RX2 80 yX2_strength ∈ TBg := tb_of 470 (by decide +kernel) (by decide +kernel)
theorem kV_X2_80 : CVw RX2 80 yX2_strength cX2_strength 3 (some .int) 1 := ⟨ml_X2_80, im_X2_strength, sel_X2_X2_strength_X2_strength, ini_X2, cod_X2_strength, ⟨by decide +kernel, by decide +kernel, by decide +kernel⟩⟩
theorem ml_X6_19 : Cond.methodLink RX6 19 yX6_reaches ∈ TBg := tb_of 471 (by decide +kernel) (by decide +kernel)
theorem sm_X6_19 : Cond.sameMethod yX6_reaches.cls yX6_reaches.cls yX6_reaches.name yX6_reaches.desc ∈ TBg := tb_of 474 (by decide +kernel) (by decide +kernel)
theorem kU_X6_19_X0 : CUw RX6 19 RX0 yX6_reaches yX6_reaches cX6_reaches 3 (some .boolean) 2 := ⟨ml_X6_19, sm_X6_19, sel_X0_X6_reaches_X6_reaches, im_X6_reaches, ini_X6, cod_X6_reaches, im_X6_reaches, ⟨_, _, _, cod_X6_reaches⟩, ⟨by decide +kernel, by decide +kernel, by decide +kernel⟩⟩
theorem kU_X6_19_X1 : CUw RX6 19 RX1 yX6_reaches yX1_reaches cX1_reaches 3 (some .boolean) 2 := ⟨ml_X6_19, sm_X6_19, sel_X1_X6_reaches_X1_reaches, im_X1_reaches, ini_X1, cod_X1_reaches, im_X6_reaches, ⟨_, _, _, cod_X6_reaches⟩, ⟨by decide +kernel, by decide +kernel, by decide +kernel⟩⟩
theorem kU_X6_19_X3 : CUw RX6 19 RX3 yX6_reaches yX6_reaches cX6_reaches 3 (some .boolean) 2 := ⟨ml_X6_19, sm_X6_19, sel_X3_X6_reaches_X6_reaches, im_X6_reaches, ini_X6, cod_X6_reaches, im_X6_reaches, ⟨_, _, _, cod_X6_reaches⟩, ⟨by decide +kernel, by decide +kernel, by decide +kernel⟩⟩
theorem kU_X6_19_X5 : CUw RX6 19 RX5 yX6_reaches yX6_reaches cX6_reaches 3 (some .boolean) 2 := ⟨ml_X6_19, sm_X6_19, sel_X5_X6_reaches_X6_reaches, im_X6_reaches, ini_X6, cod_X6_reaches, im_X6_reaches, ⟨_, _, _, cod_X6_reaches⟩, ⟨by decide +kernel, by decide +kernel, by decide +kernel⟩⟩
theorem kU_X6_19_X6 : CUw RX6 19 RX6 yX6_reaches yX6_reaches cX6_reaches 3 (some .boolean) 2 := ⟨ml_X6_19, sm_X6_19, sel_X6_X6_reaches_X6_reaches, im_X6_reaches, ini_X6, cod_X6_reaches, im_X6_reaches, ⟨_, _, _, cod_X6_reaches⟩, ⟨by decide +kernel, by decide +kernel, by decide +kernel⟩⟩
theorem kU_X6_19_X7 : CUw RX6 19 RX7 yX6_reaches yX6_reaches cX6_reaches 3 (some .boolean) 2 := ⟨ml_X6_19, sm_X6_19, sel_X7_X6_reaches_X6_reaches, im_X6_reaches, ini_X6, cod_X6_reaches, im_X6_reaches, ⟨_, _, _, cod_X6_reaches⟩, ⟨by decide +kernel, by decide +kernel, by decide +kernel⟩⟩
theorem ml_X1_7 : Cond.methodLink RX1 7 yX2_isGone ∈ TBg := tb_of 479 (by decide +kernel) (by decide +kernel)
theorem kV_X1_7 : CVw RX1 7 yX2_isGone cX2_isGone 2 (some .boolean) 1 := ⟨ml_X1_7, im_X2_isGone, sel_X2_X2_isGone_X2_isGone, ini_X2, cod_X2_isGone, ⟨by decide +kernel, by decide +kernel, by decide +kernel⟩⟩
theorem ml_X6_25 : Cond.methodLink RX6 25 yX6_prefers ∈ TBg := tb_of 484 (by decide +kernel) (by decide +kernel)
theorem sm_X6_25 : Cond.sameMethod yX6_prefers.cls yX6_prefers.cls yX6_prefers.name yX6_prefers.desc ∈ TBg := tb_of 487 (by decide +kernel) (by decide +kernel)
theorem kU_X6_25_X0 : CUw RX6 25 RX0 yX6_prefers yX0_prefers cX0_prefers 4 (some .boolean) 3 := ⟨ml_X6_25, sm_X6_25, sel_X0_X6_prefers_X0_prefers, im_X0_prefers, ini_X0, cod_X0_prefers, im_X6_prefers, ⟨_, _, _, cod_X6_prefers⟩, ⟨by decide +kernel, by decide +kernel, by decide +kernel⟩⟩
theorem kU_X6_25_X1 : CUw RX6 25 RX1 yX6_prefers yX0_prefers cX0_prefers 4 (some .boolean) 3 := ⟨ml_X6_25, sm_X6_25, sel_X1_X6_prefers_X0_prefers, im_X0_prefers, ini_X0, cod_X0_prefers, im_X6_prefers, ⟨_, _, _, cod_X6_prefers⟩, ⟨by decide +kernel, by decide +kernel, by decide +kernel⟩⟩
theorem kU_X6_25_X3 : CUw RX6 25 RX3 yX6_prefers yX6_prefers cX6_prefers 4 (some .boolean) 3 := ⟨ml_X6_25, sm_X6_25, sel_X3_X6_prefers_X6_prefers, im_X6_prefers, ini_X6, cod_X6_prefers, im_X6_prefers, ⟨_, _, _, cod_X6_prefers⟩, ⟨by decide +kernel, by decide +kernel, by decide +kernel⟩⟩
theorem kU_X6_25_X5 : CUw RX6 25 RX5 yX6_prefers yX5_prefers cX5_prefers 4 (some .boolean) 3 := ⟨ml_X6_25, sm_X6_25, sel_X5_X6_prefers_X5_prefers, im_X5_prefers, ini_X5, cod_X5_prefers, im_X6_prefers, ⟨_, _, _, cod_X6_prefers⟩, ⟨by decide +kernel, by decide +kernel, by decide +kernel⟩⟩
theorem kU_X6_25_X6 : CUw RX6 25 RX6 yX6_prefers yX6_prefers cX6_prefers 4 (some .boolean) 3 := ⟨ml_X6_25, sm_X6_25, sel_X6_X6_prefers_X6_prefers, im_X6_prefers, ini_X6, cod_X6_prefers, im_X6_prefers, ⟨_, _, _, cod_X6_prefers⟩, ⟨by decide +kernel, by decide +kernel, by decide +kernel⟩⟩
theorem kU_X6_25_X7 : CUw RX6 25 RX7 yX6_prefers yX7_prefers cX7_prefers 4 (some .boolean) 3 := ⟨ml_X6_25, sm_X6_25, sel_X7_X6_prefers_X7_prefers, im_X7_prefers, ini_X7, cod_X7_prefers, im_X6_prefers, ⟨_, _, _, cod_X6_prefers⟩, ⟨by decide +kernel, by decide +kernel, by decide +kernel⟩⟩
theorem ml_X0_7 : Cond.methodLink RX0 7 yX2_strength ∈ TBg := tb_of 491 (by decide +kernel) (by decide +kernel)
theorem kV_X0_7 : CVw RX0 7 yX2_strength cX2_strength 3 (some .int) 1 := ⟨ml_X0_7, im_X2_strength, sel_X2_X2_strength_X2_strength, ini_X2, cod_X2_strength, ⟨by decide +kernel, by decide +kernel, by decide +kernel⟩⟩
theorem ml_X6_29 : Cond.methodLink RX6 29 yX2_strength ∈ TBg := tb_of 501 (by decide +kernel) (by decide +kernel)
theorem kV_X6_29 : CVw RX6 29 yX2_strength cX2_strength 3 (some .int) 1 := ⟨ml_X6_29, im_X2_strength, sel_X2_X2_strength_X2_strength, ini_X2, cod_X2_strength, ⟨by decide +kernel, by decide +kernel, by decide +kernel⟩⟩
theorem ml_L_32 : Cond.methodLink RL 32 yX8_bitter ∈ TBg := tb_of 502 (by decide +kernel) (by decide +kernel)
theorem kV_L_32 : CVw RL 32 yX8_bitter cX8_bitter 4 (some .int) 2 := ⟨ml_L_32, im_X8_bitter, sel_X8_X8_bitter_X8_bitter, ini_X8, cod_X8_bitter, ⟨by decide +kernel, by decide +kernel, by decide +kernel⟩⟩
theorem ml_X8_135 : Cond.methodLink RX8 135 yX8_isInk ∈ TBg := tb_of 506 (by decide +kernel) (by decide +kernel)
theorem kS_X8_135 : CSw RX8 135 yX8_isInk cX8_isInk 1 (some .boolean) 1 := ⟨ml_X8_135, sta_X8_isInk, ini_X8, cod_X8_isInk, ⟨by decide +kernel, by decide +kernel, by decide +kernel⟩⟩
theorem ml_X8_141 : Cond.methodLink RX8 141 yX2_setBitter ∈ TBg := tb_of 507 (by decide +kernel) (by decide +kernel)
theorem kV_X8_141 : CVw RX8 141 yX2_setBitter cX2_setBitter 3 none 2 := ⟨ml_X8_141, im_X2_setBitter, sel_X2_X2_setBitter_X2_setBitter, ini_X2, cod_X2_setBitter, ⟨by decide +kernel, by decide +kernel, by decide +kernel⟩⟩
theorem ml_L_36 : Cond.methodLink RL 36 yX8_ink ∈ TBg := tb_of 508 (by decide +kernel) (by decide +kernel)
theorem kV_L_36 : CVw RL 36 yX8_ink cX8_ink 4 (some .int) 2 := ⟨ml_L_36, im_X8_ink, sel_X8_X8_ink_X8_ink, ini_X8, cod_X8_ink, ⟨by decide +kernel, by decide +kernel, by decide +kernel⟩⟩
theorem ml_L_40 : Cond.methodLink RL 40 yX8_watch ∈ TBg := tb_of 512 (by decide +kernel) (by decide +kernel)
theorem kV_L_40 : CVw RL 40 yX8_watch cX8_watch 5 (some .int) 3 := ⟨ml_L_40, im_X8_watch, sel_X8_X8_watch_X8_watch, ini_X8, cod_X8_watch, ⟨by decide +kernel, by decide +kernel, by decide +kernel⟩⟩
theorem ml_X8_145 : Cond.methodLink RX8 145 yX2_setWatched ∈ TBg := tb_of 516 (by decide +kernel) (by decide +kernel)
theorem kV_X8_145 : CVw RX8 145 yX2_setWatched cX2_setWatched 5 none 3 := ⟨ml_X8_145, im_X2_setWatched, sel_X2_X2_setWatched_X2_setWatched, ini_X2, cod_X2_setWatched, ⟨by decide +kernel, by decide +kernel, by decide +kernel⟩⟩
theorem ml_L_45 : Cond.methodLink RL 45 yX8_hour ∈ TBg := tb_of 517 (by decide +kernel) (by decide +kernel)
theorem kV_L_45 : CVw RL 45 yX8_hour cX8_hour 1 (some .int) 0 := ⟨ml_L_45, im_X8_hour, sel_X8_X8_hour_X8_hour, ini_X8, cod_X8_hour, ⟨by decide +kernel, by decide +kernel, by decide +kernel⟩⟩
theorem ml_X8_149 : Cond.methodLink RX8 149 yX2_passHour ∈ TBg := tb_of 521 (by decide +kernel) (by decide +kernel)
theorem kV_X8_149 : CVw RX8 149 yX2_passHour cX2_passHour 7 (some .int) 0 := ⟨ml_X8_149, im_X2_passHour, sel_X2_X2_passHour_X2_passHour, ini_X2, cod_X2_passHour, ⟨by decide +kernel, by decide +kernel, by decide +kernel⟩⟩
theorem ml_X2_84 : Cond.methodLink RX2 84 yX2_countLeft ∈ TBg := tb_of 525 (by decide +kernel) (by decide +kernel)
theorem kV_X2_84 : CVw RX2 84 yX2_countLeft cX2_countLeft 1 (some .int) 0 := ⟨ml_X2_84, im_X2_countLeft, sel_X2_X2_countLeft_X2_countLeft, ini_X2, cod_X2_countLeft, ⟨by decide +kernel, by decide +kernel, by decide +kernel⟩⟩
theorem ml_X2_103 : Cond.methodLink RX2 103 yX2_leftWords ∈ TBg := tb_of 529 (by decide +kernel) (by decide +kernel)
theorem kV_X2_103 : CVw RX2 103 yX2_leftWords cX2_leftWords 1 (some .int) 0 := ⟨ml_X2_103, im_X2_leftWords, sel_X2_X2_leftWords_X2_leftWords, ini_X2, cod_X2_leftWords, ⟨by decide +kernel, by decide +kernel, by decide +kernel⟩⟩
theorem ml_X2_62 : Cond.methodLink RX2 62 yX2_allWords ∈ TBg := tb_of 533 (by decide +kernel) (by decide +kernel)
theorem kV_X2_62 : CVw RX2 62 yX2_allWords cX2_allWords 1 (some .int) 0 := ⟨ml_X2_62, im_X2_allWords, sel_X2_X2_allWords_X2_allWords, ini_X2, cod_X2_allWords, ⟨by decide +kernel, by decide +kernel, by decide +kernel⟩⟩
theorem ml_X2_106 : Cond.methodLink RX2 106 yJ6_bitCount_0f7a4 ∈ TBg := tb_of 537 (by decide +kernel) (by decide +kernel)
theorem kS_X2_106 : CSw RX2 106 yJ6_bitCount_0f7a4 cJ6_bitCount_0f7a4 1 (some .int) 1 := ⟨ml_X2_106, sta_J6_bitCount_0f7a4, ini_J6, cod_J6_bitCount_0f7a4, ⟨by decide +kernel, by decide +kernel, by decide +kernel⟩⟩
theorem ml_X2_87 : Cond.methodLink RX2 87 yX2_kindOf ∈ TBg := tb_of 543 (by decide +kernel) (by decide +kernel)
theorem kV_X2_87 : CVw RX2 87 yX2_kindOf cX2_kindOf 2 (some (.object "EatenByDusk$Sparrow")) 1 := ⟨ml_X2_87, im_X2_kindOf, sel_X2_X2_kindOf_X2_kindOf, ini_X2, cod_X2_kindOf, ⟨by decide +kernel, by decide +kernel, by decide +kernel⟩⟩
theorem ml_X2_91 : Cond.methodLink RX2 91 yX6_meals ∈ TBg := tb_of 544 (by decide +kernel) (by decide +kernel)
theorem sm_X2_91 : Cond.sameMethod yX6_meals.cls yX6_meals.cls yX6_meals.name yX6_meals.desc ∈ TBg := tb_of 547 (by decide +kernel) (by decide +kernel)
theorem kU_X2_91_X0 : CUw RX2 91 RX0 yX6_meals yX6_meals cX6_meals 1 (some .int) 0 := ⟨ml_X2_91, sm_X2_91, sel_X0_X6_meals_X6_meals, im_X6_meals, ini_X6, cod_X6_meals, im_X6_meals, ⟨_, _, _, cod_X6_meals⟩, ⟨by decide +kernel, by decide +kernel, by decide +kernel⟩⟩
theorem kU_X2_91_X1 : CUw RX2 91 RX1 yX6_meals yX6_meals cX6_meals 1 (some .int) 0 := ⟨ml_X2_91, sm_X2_91, sel_X1_X6_meals_X6_meals, im_X6_meals, ini_X6, cod_X6_meals, im_X6_meals, ⟨_, _, _, cod_X6_meals⟩, ⟨by decide +kernel, by decide +kernel, by decide +kernel⟩⟩
theorem kU_X2_91_X3 : CUw RX2 91 RX3 yX6_meals yX3_meals cX3_meals 1 (some .int) 0 := ⟨ml_X2_91, sm_X2_91, sel_X3_X6_meals_X3_meals, im_X3_meals, ini_X3, cod_X3_meals, im_X6_meals, ⟨_, _, _, cod_X6_meals⟩, ⟨by decide +kernel, by decide +kernel, by decide +kernel⟩⟩
theorem kU_X2_91_X5 : CUw RX2 91 RX5 yX6_meals yX6_meals cX6_meals 1 (some .int) 0 := ⟨ml_X2_91, sm_X2_91, sel_X5_X6_meals_X6_meals, im_X6_meals, ini_X6, cod_X6_meals, im_X6_meals, ⟨_, _, _, cod_X6_meals⟩, ⟨by decide +kernel, by decide +kernel, by decide +kernel⟩⟩
theorem kU_X2_91_X6 : CUw RX2 91 RX6 yX6_meals yX6_meals cX6_meals 1 (some .int) 0 := ⟨ml_X2_91, sm_X2_91, sel_X6_X6_meals_X6_meals, im_X6_meals, ini_X6, cod_X6_meals, im_X6_meals, ⟨_, _, _, cod_X6_meals⟩, ⟨by decide +kernel, by decide +kernel, by decide +kernel⟩⟩
theorem kU_X2_91_X7 : CUw RX2 91 RX7 yX6_meals yX6_meals cX6_meals 1 (some .int) 0 := ⟨ml_X2_91, sm_X2_91, sel_X7_X6_meals_X6_meals, im_X6_meals, ini_X6, cod_X6_meals, im_X6_meals, ⟨_, _, _, cod_X6_meals⟩, ⟨by decide +kernel, by decide +kernel, by decide +kernel⟩⟩
theorem ml_X2_96 : Cond.methodLink RX2 96 yX6_choice ∈ TBg := tb_of 556 (by decide +kernel) (by decide +kernel)
theorem sm_X2_96 : Cond.sameMethod yX6_choice.cls yX6_choice.cls yX6_choice.name yX6_choice.desc ∈ TBg := tb_of 457 (by decide +kernel) (by decide +kernel)
theorem kU_X2_96_X0 : CUw RX2 96 RX0 yX6_choice yX6_choice cX6_choice 5 (some .int) 2 := ⟨ml_X2_96, sm_X2_96, sel_X0_X6_choice_X6_choice, im_X6_choice, ini_X6, cod_X6_choice, im_X6_choice, ⟨_, _, _, cod_X6_choice⟩, ⟨by decide +kernel, by decide +kernel, by decide +kernel⟩⟩
theorem kU_X2_96_X1 : CUw RX2 96 RX1 yX6_choice yX6_choice cX6_choice 5 (some .int) 2 := ⟨ml_X2_96, sm_X2_96, sel_X1_X6_choice_X6_choice, im_X6_choice, ini_X6, cod_X6_choice, im_X6_choice, ⟨_, _, _, cod_X6_choice⟩, ⟨by decide +kernel, by decide +kernel, by decide +kernel⟩⟩
theorem kU_X2_96_X3 : CUw RX2 96 RX3 yX6_choice yX6_choice cX6_choice 5 (some .int) 2 := ⟨ml_X2_96, sm_X2_96, sel_X3_X6_choice_X6_choice, im_X6_choice, ini_X6, cod_X6_choice, im_X6_choice, ⟨_, _, _, cod_X6_choice⟩, ⟨by decide +kernel, by decide +kernel, by decide +kernel⟩⟩
theorem kU_X2_96_X5 : CUw RX2 96 RX5 yX6_choice yX6_choice cX6_choice 5 (some .int) 2 := ⟨ml_X2_96, sm_X2_96, sel_X5_X6_choice_X6_choice, im_X6_choice, ini_X6, cod_X6_choice, im_X6_choice, ⟨_, _, _, cod_X6_choice⟩, ⟨by decide +kernel, by decide +kernel, by decide +kernel⟩⟩
theorem kU_X2_96_X6 : CUw RX2 96 RX6 yX6_choice yX6_choice cX6_choice 5 (some .int) 2 := ⟨ml_X2_96, sm_X2_96, sel_X6_X6_choice_X6_choice, im_X6_choice, ini_X6, cod_X6_choice, im_X6_choice, ⟨_, _, _, cod_X6_choice⟩, ⟨by decide +kernel, by decide +kernel, by decide +kernel⟩⟩
theorem kU_X2_96_X7 : CUw RX2 96 RX7 yX6_choice yX6_choice cX6_choice 5 (some .int) 2 := ⟨ml_X2_96, sm_X2_96, sel_X7_X6_choice_X6_choice, im_X6_choice, ini_X6, cod_X6_choice, im_X6_choice, ⟨_, _, _, cod_X6_choice⟩, ⟨by decide +kernel, by decide +kernel, by decide +kernel⟩⟩
theorem ml_L_49 : Cond.methodLink RL 49 yX8_anew ∈ TBg := tb_of 557 (by decide +kernel) (by decide +kernel)
theorem kV_L_49 : CVw RL 49 yX8_anew cX8_anew 1 (some .int) 0 := ⟨ml_L_49, im_X8_anew, sel_X8_X8_anew_X8_anew, ini_X8, cod_X8_anew, ⟨by decide +kernel, by decide +kernel, by decide +kernel⟩⟩
theorem ml_L_53 : Cond.methodLink RL 53 yX8_left ∈ TBg := tb_of 561 (by decide +kernel) (by decide +kernel)
theorem kV_L_53 : CVw RL 53 yX8_left cX8_left 4 (some .int) 1 := ⟨ml_L_53, im_X8_left, sel_X8_X8_left_X8_left, ini_X8, cod_X8_left, ⟨by decide +kernel, by decide +kernel, by decide +kernel⟩⟩
theorem ml_X8_156 : Cond.methodLink RX8 156 yX8_mindAsNow ∈ TBg := tb_of 565 (by decide +kernel) (by decide +kernel)
theorem kV_X8_156 : CVw RX8 156 yX8_mindAsNow cX8_mindAsNow 1 (some (.object "EatenByDusk$Garden")) 0 := ⟨ml_X8_156, im_X8_mindAsNow, sel_X8_X8_mindAsNow_X8_mindAsNow, ini_X8, cod_X8_mindAsNow, ⟨by decide +kernel, by decide +kernel, by decide +kernel⟩⟩
theorem ml_X8_228 : Cond.methodLink RX8 228 yX2_becomeAs ∈ TBg := tb_of 569 (by decide +kernel) (by decide +kernel)
theorem kV_X8_228 : CVw RX8 228 yX2_becomeAs cX2_becomeAs 2 none 1 := ⟨ml_X8_228, im_X2_becomeAs, sel_X2_X2_becomeAs_X2_becomeAs, ini_X2, cod_X2_becomeAs, ⟨by decide +kernel, by decide +kernel, by decide +kernel⟩⟩
theorem ml_X8_160 : Cond.methodLink RX8 160 yX2_leftWords ∈ TBg := tb_of 576 (by decide +kernel) (by decide +kernel)
theorem kV_X8_160 : CVw RX8 160 yX2_leftWords cX2_leftWords 1 (some .int) 0 := ⟨ml_X8_160, im_X2_leftWords, sel_X2_X2_leftWords_X2_leftWords, ini_X2, cod_X2_leftWords, ⟨by decide +kernel, by decide +kernel, by decide +kernel⟩⟩
theorem ml_L_57 : Cond.methodLink RL 57 yX8_eaten ∈ TBg := tb_of 577 (by decide +kernel) (by decide +kernel)
theorem kV_L_57 : CVw RL 57 yX8_eaten cX8_eaten 3 (some .int) 1 := ⟨ml_L_57, im_X8_eaten, sel_X8_X8_eaten_X8_eaten, ini_X8, cod_X8_eaten, ⟨by decide +kernel, by decide +kernel, by decide +kernel⟩⟩
theorem ml_X8_163 : Cond.methodLink RX8 163 yX2_hourOfGoing ∈ TBg := tb_of 581 (by decide +kernel) (by decide +kernel)
theorem kV_X8_163 : CVw RX8 163 yX2_hourOfGoing cX2_hourOfGoing 3 (some .int) 1 := ⟨ml_X8_163, im_X2_hourOfGoing, sel_X2_X2_hourOfGoing_X2_hourOfGoing, ini_X2, cod_X2_hourOfGoing, ⟨by decide +kernel, by decide +kernel, by decide +kernel⟩⟩
theorem ml_X2_100 : Cond.methodLink RX2 100 yX2_passHour ∈ TBg := tb_of 585 (by decide +kernel) (by decide +kernel)
theorem kV_X2_100 : CVw RX2 100 yX2_passHour cX2_passHour 7 (some .int) 0 := ⟨ml_X2_100, im_X2_passHour, sel_X2_X2_passHour_X2_passHour, ini_X2, cod_X2_passHour, ⟨by decide +kernel, by decide +kernel, by decide +kernel⟩⟩
theorem ml_L_61 : Cond.methodLink RL 61 yX8_meanings ∈ TBg := tb_of 586 (by decide +kernel) (by decide +kernel)
theorem kV_L_61 : CVw RL 61 yX8_meanings cX8_meanings 2 (some .int) 0 := ⟨ml_L_61, im_X8_meanings, sel_X8_X8_meanings_X8_meanings, ini_X8, cod_X8_meanings, ⟨by decide +kernel, by decide +kernel, by decide +kernel⟩⟩
theorem ml_X8_166 : Cond.methodLink RX8 166 yX2_passTillDusk ∈ TBg := tb_of 590 (by decide +kernel) (by decide +kernel)
theorem kV_X8_166 : CVw RX8 166 yX2_passTillDusk cX2_passTillDusk 2 (some .int) 0 := ⟨ml_X8_166, im_X2_passTillDusk, sel_X2_X2_passTillDusk_X2_passTillDusk, ini_X2, cod_X2_passTillDusk, ⟨by decide +kernel, by decide +kernel, by decide +kernel⟩⟩
theorem ml_X8_169 : Cond.methodLink RX8 169 yX2_leftMeanings ∈ TBg := tb_of 594 (by decide +kernel) (by decide +kernel)
theorem kV_X8_169 : CVw RX8 169 yX2_leftMeanings cX2_leftMeanings 3 (some .int) 0 := ⟨ml_X8_169, im_X2_leftMeanings, sel_X2_X2_leftMeanings_X2_leftMeanings, ini_X2, cod_X2_leftMeanings, ⟨by decide +kernel, by decide +kernel, by decide +kernel⟩⟩
theorem ml_L_65 : Cond.methodLink RL 65 yX8_remain ∈ TBg := tb_of 598 (by decide +kernel) (by decide +kernel)
theorem kV_L_65 : CVw RL 65 yX8_remain cX8_remain 1 (some .int) 0 := ⟨ml_L_65, im_X8_remain, sel_X8_X8_remain_X8_remain, ini_X8, cod_X8_remain, ⟨by decide +kernel, by decide +kernel, by decide +kernel⟩⟩
theorem ml_L_69 : Cond.methodLink RL 69 yX8_holds ∈ TBg := tb_of 602 (by decide +kernel) (by decide +kernel)
theorem kV_L_69 : CVw RL 69 yX8_holds cX8_holds 4 (some .int) 1 := ⟨ml_L_69, im_X8_holds, sel_X8_X8_holds_X8_holds, ini_X8, cod_X8_holds, ⟨by decide +kernel, by decide +kernel, by decide +kernel⟩⟩
theorem ml_X8_172 : Cond.methodLink RX8 172 yX2_countLeftOf ∈ TBg := tb_of 606 (by decide +kernel) (by decide +kernel)
theorem kV_X8_172 : CVw RX8 172 yX2_countLeftOf cX2_countLeftOf 4 (some .int) 1 := ⟨ml_X8_172, im_X2_countLeftOf, sel_X2_X2_countLeftOf_X2_countLeftOf, ini_X2, cod_X2_countLeftOf, ⟨by decide +kernel, by decide +kernel, by decide +kernel⟩⟩
theorem ml_X8_175 : Cond.methodLink RX8 175 yJ9_min_7cf53 ∈ TBg := tb_of 610 (by decide +kernel) (by decide +kernel)
theorem kS_X8_175 : CSw RX8 175 yJ9_min_7cf53 cJ9_min_7cf53 2 (some .int) 2 := ⟨ml_X8_175, sta_J9_min_7cf53, ini_J9, cod_J9_min_7cf53, ⟨by decide +kernel, by decide +kernel, by decide +kernel⟩⟩
theorem ml_L_73 : Cond.methodLink RL 73 yX8_boys ∈ TBg := tb_of 611 (by decide +kernel) (by decide +kernel)
theorem kV_L_73 : CVw RL 73 yX8_boys cX8_boys 6 (some .int) 1 := ⟨ml_L_73, im_X8_boys, sel_X8_X8_boys_X8_boys, ini_X8, cod_X8_boys, ⟨by decide +kernel, by decide +kernel, by decide +kernel⟩⟩
theorem ml_X8_180 : Cond.methodLink RX8 180 yX2_hasWords ∈ TBg := tb_of 615 (by decide +kernel) (by decide +kernel)
theorem kV_X8_180 : CVw RX8 180 yX2_hasWords cX2_hasWords 2 (some .boolean) 1 := ⟨ml_X8_180, im_X2_hasWords, sel_X2_X2_hasWords_X2_hasWords, ini_X2, cod_X2_hasWords, ⟨by decide +kernel, by decide +kernel, by decide +kernel⟩⟩
theorem ml_X8_183 : Cond.methodLink RX8 183 yJ6_bitCount_0f7a4 ∈ TBg := tb_of 619 (by decide +kernel) (by decide +kernel)
theorem kS_X8_183 : CSw RX8 183 yJ6_bitCount_0f7a4 cJ6_bitCount_0f7a4 1 (some .int) 1 := ⟨ml_X8_183, sta_J6_bitCount_0f7a4, ini_J6, cod_J6_bitCount_0f7a4, ⟨by decide +kernel, by decide +kernel, by decide +kernel⟩⟩
theorem ml_X8_188 : Cond.methodLink RX8 188 yX2_allWords ∈ TBg := tb_of 620 (by decide +kernel) (by decide +kernel)
theorem kV_X8_188 : CVw RX8 188 yX2_allWords cX2_allWords 1 (some .int) 0 := ⟨ml_X8_188, im_X2_allWords, sel_X2_X2_allWords_X2_allWords, ini_X2, cod_X2_allWords, ⟨by decide +kernel, by decide +kernel, by decide +kernel⟩⟩
theorem ml_X8_191 : Cond.methodLink RX8 191 yX8_isKeptByWatching ∈ TBg := tb_of 621 (by decide +kernel) (by decide +kernel)
theorem kV_X8_191 : CVw RX8 191 yX8_isKeptByWatching cX8_isKeptByWatching 5 (some .boolean) 2 := ⟨ml_X8_191, im_X8_isKeptByWatching, sel_X8_X8_isKeptByWatching_X8_isKeptByWatching, ini_X8, cod_X8_isKeptByWatching, ⟨by decide +kernel, by decide +kernel, by decide +kernel⟩⟩
theorem ml_L_77 : Cond.methodLink RL 77 yX8_guard ∈ TBg := tb_of 625 (by decide +kernel) (by decide +kernel)
theorem kV_L_77 : CVw RL 77 yX8_guard cX8_guard 6 (some .int) 0 := ⟨ml_L_77, im_X8_guard, sel_X8_X8_guard_X8_guard, ini_X8, cod_X8_guard, ⟨by decide +kernel, by decide +kernel, by decide +kernel⟩⟩
theorem ml_L_81 : Cond.methodLink RL 81 yX8_winter ∈ TBg := tb_of 629 (by decide +kernel) (by decide +kernel)
theorem kV_L_81 : CVw RL 81 yX8_winter cX8_winter 4 (some .int) 1 := ⟨ml_L_81, im_X8_winter, sel_X8_X8_winter_X8_winter, ini_X8, cod_X8_winter, ⟨by decide +kernel, by decide +kernel, by decide +kernel⟩⟩
theorem ml_X8_198 : Cond.methodLink RX8 198 yX2_keepAway ∈ TBg := tb_of 634 (by decide +kernel) (by decide +kernel)
theorem kV_X8_198 : CVw RX8 198 yX2_keepAway cX2_keepAway 2 none 1 := ⟨ml_X8_198, im_X2_keepAway, sel_X2_X2_keepAway_X2_keepAway, ini_X2, cod_X2_keepAway, ⟨by decide +kernel, by decide +kernel, by decide +kernel⟩⟩
theorem ml_L_85 : Cond.methodLink RL 85 yX8_becomes ∈ TBg := tb_of 638 (by decide +kernel) (by decide +kernel)
theorem kV_L_85 : CVw RL 85 yX8_becomes cX8_becomes 4 (some .int) 0 := ⟨ml_L_85, im_X8_becomes, sel_X8_X8_becomes_X8_becomes, ini_X8, cod_X8_becomes, ⟨by decide +kernel, by decide +kernel, by decide +kernel⟩⟩
theorem ml_X8_205 : Cond.methodLink RX8 205 yX2_placeOtherThan ∈ TBg := tb_of 642 (by decide +kernel) (by decide +kernel)
theorem kV_X8_205 : CVw RX8 205 yX2_placeOtherThan cX2_placeOtherThan 5 (some .int) 2 := ⟨ml_X8_205, im_X2_placeOtherThan, sel_X2_X2_placeOtherThan_X2_placeOtherThan, ini_X2, cod_X2_placeOtherThan, ⟨by decide +kernel, by decide +kernel, by decide +kernel⟩⟩
theorem ml_L_89 : Cond.methodLink RL 89 yX8_danger ∈ TBg := tb_of 646 (by decide +kernel) (by decide +kernel)
theorem kV_L_89 : CVw RL 89 yX8_danger cX8_danger 3 (some .int) 0 := ⟨ml_L_89, im_X8_danger, sel_X8_X8_danger_X8_danger, ini_X8, cod_X8_danger, ⟨by decide +kernel, by decide +kernel, by decide +kernel⟩⟩
theorem ml_L_93 : Cond.methodLink RL 93 yX8_lasts ∈ TBg := tb_of 650 (by decide +kernel) (by decide +kernel)
theorem kV_L_93 : CVw RL 93 yX8_lasts cX8_lasts 7 (some .int) 1 := ⟨ml_L_93, im_X8_lasts, sel_X8_X8_lasts_X8_lasts, ini_X8, cod_X8_lasts, ⟨by decide +kernel, by decide +kernel, by decide +kernel⟩⟩
theorem ml_L_97 : Cond.methodLink RL 97 yX8_mixed ∈ TBg := tb_of 654 (by decide +kernel) (by decide +kernel)
theorem kV_L_97 : CVw RL 97 yX8_mixed cX8_mixed 7 (some .int) 2 := ⟨ml_L_97, im_X8_mixed, sel_X8_X8_mixed_X8_mixed, ini_X8, cod_X8_mixed, ⟨by decide +kernel, by decide +kernel, by decide +kernel⟩⟩
theorem ml_X8_209 : Cond.methodLink RX8 209 yX2_countLeft ∈ TBg := tb_of 658 (by decide +kernel) (by decide +kernel)
theorem kV_X8_209 : CVw RX8 209 yX2_countLeft cX2_countLeft 1 (some .int) 0 := ⟨ml_X8_209, im_X2_countLeft, sel_X2_X2_countLeft_X2_countLeft, ini_X2, cod_X2_countLeft, ⟨by decide +kernel, by decide +kernel, by decide +kernel⟩⟩
theorem ml_X8_212 : Cond.methodLink RX8 212 yX8_sumOfDigits ∈ TBg := tb_of 659 (by decide +kernel) (by decide +kernel)
theorem kS_X8_212 : CSw RX8 212 yX8_sumOfDigits cX8_sumOfDigits 1 (some .int) 1 := ⟨ml_X8_212, sta_X8_sumOfDigits, ini_X8, cod_X8_sumOfDigits, ⟨by decide +kernel, by decide +kernel, by decide +kernel⟩⟩
theorem ml_X8_215 : Cond.methodLink RX8 215 yX8_countLeftByBitters ∈ TBg := tb_of 662 (by decide +kernel) (by decide +kernel)
theorem kV_X8_215 : CVw RX8 215 yX8_countLeftByBitters cX8_countLeftByBitters 3 (some .int) 1 := ⟨ml_X8_215, im_X8_countLeftByBitters, sel_X8_X8_countLeftByBitters_X8_countLeftByBitters, ini_X8, cod_X8_countLeftByBitters, ⟨by decide +kernel, by decide +kernel, by decide +kernel⟩⟩
theorem ml_L_101 : Cond.methodLink RL 101 yX8_tastes ∈ TBg := tb_of 666 (by decide +kernel) (by decide +kernel)
theorem kV_L_101 : CVw RL 101 yX8_tastes cX8_tastes 6 (some .int) 2 := ⟨ml_L_101, im_X8_tastes, sel_X8_X8_tastes_X8_tastes, ini_X8, cod_X8_tastes, ⟨by decide +kernel, by decide +kernel, by decide +kernel⟩⟩
theorem ml_L_105 : Cond.methodLink RL 105 yX8_fitting ∈ TBg := tb_of 670 (by decide +kernel) (by decide +kernel)
theorem kV_L_105 : CVw RL 105 yX8_fitting cX8_fitting 6 (some .int) 2 := ⟨ml_L_105, im_X8_fitting, sel_X8_X8_fitting_X8_fitting, ini_X8, cod_X8_fitting, ⟨by decide +kernel, by decide +kernel, by decide +kernel⟩⟩
theorem ml_X8_220 : Cond.methodLink RX8 220 yJ0_length_8abf5 ∈ TBg := tb_of 675 (by decide +kernel) (by decide +kernel)
theorem kV_X8_220 : CVw RX8 220 yJ0_length_8abf5 cJ0_length_8abf5 1 (some .int) 0 := ⟨ml_X8_220, im_J0_length_8abf5, sel_J0_J0_length_8abf5_J0_length_8abf5, ini_J0, cod_J0_length_8abf5, ⟨by decide +kernel, by decide +kernel, by decide +kernel⟩⟩
theorem ml_L_117 : Cond.methodLink RL 117 yX8_seeds ∈ TBg := tb_of 676 (by decide +kernel) (by decide +kernel)
theorem kV_L_117 : CVw RL 117 yX8_seeds cX8_seeds 8 (some .int) 2 := ⟨ml_L_117, im_X8_seeds, sel_X8_X8_seeds_X8_seeds, ini_X8, cod_X8_seeds, ⟨by decide +kernel, by decide +kernel, by decide +kernel⟩⟩
theorem ml_L_109 : Cond.methodLink RL 109 yX8_row ∈ TBg := tb_of 683 (by decide +kernel) (by decide +kernel)
theorem kV_L_109 : CVw RL 109 yX8_row cX8_row 2 (some .int) 1 := ⟨ml_L_109, im_X8_row, sel_X8_X8_row_X8_row, ini_X8, cod_X8_row, ⟨by decide +kernel, by decide +kernel, by decide +kernel⟩⟩
theorem ml_L_113 : Cond.methodLink RL 113 yX8_judge ∈ TBg := tb_of 687 (by decide +kernel) (by decide +kernel)
theorem kV_L_113 : CVw RL 113 yX8_judge cX8_judge 2 (some .int) 0 := ⟨ml_L_113, im_X8_judge, sel_X8_X8_judge_X8_judge, ini_X8, cod_X8_judge, ⟨by decide +kernel, by decide +kernel, by decide +kernel⟩⟩
theorem ml_L_121 : Cond.methodLink RL 121 yX8_image ∈ TBg := tb_of 691 (by decide +kernel) (by decide +kernel)
theorem kV_L_121 : CVw RL 121 yX8_image cX8_image 1 (some .int) 0 := ⟨ml_L_121, im_X8_image, sel_X8_X8_image_X8_image, ini_X8, cod_X8_image, ⟨by decide +kernel, by decide +kernel, by decide +kernel⟩⟩
theorem ml_L_125 : Cond.methodLink RL 125 yX8_on ∈ TBg := tb_of 695 (by decide +kernel) (by decide +kernel)
theorem kV_L_125 : CVw RL 125 yX8_on cX8_on 1 (some .int) 0 := ⟨ml_L_125, im_X8_on, sel_X8_X8_on_X8_on, ini_X8, cod_X8_on, ⟨by decide +kernel, by decide +kernel, by decide +kernel⟩⟩
theorem ml_L_129 : Cond.methodLink RL 129 yX8_count ∈ TBg := tb_of 699 (by decide +kernel) (by decide +kernel)
theorem kV_L_129 : CVw RL 129 yX8_count cX8_count 2 (some .int) 1 := ⟨ml_L_129, im_X8_count, sel_X8_X8_count_X8_count, ini_X8, cod_X8_count, ⟨by decide +kernel, by decide +kernel, by decide +kernel⟩⟩
theorem ml_X8_236 : Cond.methodLink RX8 236 yX2_strengthLeft ∈ TBg := tb_of 703 (by decide +kernel) (by decide +kernel)
theorem kV_X8_236 : CVw RX8 236 yX2_strengthLeft cX2_strengthLeft 3 (some .int) 0 := ⟨ml_X8_236, im_X2_strengthLeft, sel_X2_X2_strengthLeft_X2_strengthLeft, ini_X2, cod_X2_strengthLeft, ⟨by decide +kernel, by decide +kernel, by decide +kernel⟩⟩
theorem ml_L_12 : Cond.methodLink RL 12 yX9_init ∈ TBg := tb_of 709 (by decide +kernel) (by decide +kernel)
theorem kI_L_12 : CIw RL 12 yX9_init cX9_init 1 0 := ⟨ml_L_12, im_X9_init, ini_X9, cod_X9_init, rfl, ⟨by decide +kernel, by decide +kernel, by decide +kernel⟩⟩
theorem ml_L_17 : Cond.methodLink RL 17 yX9_letter ∈ TBg := tb_of 795 (by decide +kernel) (by decide +kernel)
theorem kV_L_17 : CVw RL 17 yX9_letter cX9_letter 3 (some .int) 1 := ⟨ml_L_17, im_X9_letter, sel_X9_X9_letter_X9_letter, ini_X9, cod_X9_letter, ⟨by decide +kernel, by decide +kernel, by decide +kernel⟩⟩
theorem ml_X9_66 : Cond.methodLink RX9 66 yX9_bound ∈ TBg := tb_of 799 (by decide +kernel) (by decide +kernel)
theorem kS_X9_66 : CSw RX9 66 yX9_bound cX9_bound 3 (some .int) 3 := ⟨ml_X9_66, sta_X9_bound, ini_X9, cod_X9_bound, ⟨by decide +kernel, by decide +kernel, by decide +kernel⟩⟩
theorem ml_X9_73 : Cond.methodLink RX9 73 yX9_no ∈ TBg := tb_of 802 (by decide +kernel) (by decide +kernel)
theorem kV_X9_73 : CVw RX9 73 yX9_no cX9_no 2 (some .int) 1 := ⟨ml_X9_73, im_X9_no, sel_X9_X9_no_X9_no, ini_X9, cod_X9_no, ⟨by decide +kernel, by decide +kernel, by decide +kernel⟩⟩
theorem ml_L_22 : Cond.methodLink RL 22 yX9_text ∈ TBg := tb_of 806 (by decide +kernel) (by decide +kernel)
theorem kV_L_22 : CVw RL 22 yX9_text cX9_text 3 (some .int) 0 := ⟨ml_L_22, im_X9_text, sel_X9_X9_text_X9_text, ini_X9, cod_X9_text, ⟨by decide +kernel, by decide +kernel, by decide +kernel⟩⟩
theorem ml_X9_114 : Cond.methodLink RX9 114 yX9_statement ∈ TBg := tb_of 810 (by decide +kernel) (by decide +kernel)
theorem kV_X9_114 : CVw RX9 114 yX9_statement cX9_statement 4 (some .boolean) 0 := ⟨ml_X9_114, im_X9_statement, sel_X9_X9_statement_X9_statement, ini_X9, cod_X9_statement, ⟨by decide +kernel, by decide +kernel, by decide +kernel⟩⟩
theorem ml_X9_80 : Cond.methodLink RX9 80 yX9_next ∈ TBg := tb_of 814 (by decide +kernel) (by decide +kernel)
theorem kV_X9_80 : CVw RX9 80 yX9_next cX9_next 1 (some .int) 0 := ⟨ml_X9_80, im_X9_next, sel_X9_X9_next_X9_next, ini_X9, cod_X9_next, ⟨by decide +kernel, by decide +kernel, by decide +kernel⟩⟩
theorem ml_X9_94 : Cond.methodLink RX9 94 yX9_readsKind ∈ TBg := tb_of 818 (by decide +kernel) (by decide +kernel)
theorem kV_X9_94 : CVw RX9 94 yX9_readsKind cX9_readsKind 2 (some .boolean) 1 := ⟨ml_X9_94, im_X9_readsKind, sel_X9_X9_readsKind_X9_readsKind, ini_X9, cod_X9_readsKind, ⟨by decide +kernel, by decide +kernel, by decide +kernel⟩⟩
theorem ml_X9_84 : Cond.methodLink RX9 84 yX9_kindOf ∈ TBg := tb_of 822 (by decide +kernel) (by decide +kernel)
theorem kS_X9_84 : CSw RX9 84 yX9_kindOf cX9_kindOf 1 (some .int) 1 := ⟨ml_X9_84, sta_X9_kindOf, ini_X9, cod_X9_kindOf, ⟨by decide +kernel, by decide +kernel, by decide +kernel⟩⟩
theorem ml_X9_98 : Cond.methodLink RX9 98 yX9_readsOnes ∈ TBg := tb_of 825 (by decide +kernel) (by decide +kernel)
theorem kV_X9_98 : CVw RX9 98 yX9_readsOnes cX9_readsOnes 4 (some .boolean) 2 := ⟨ml_X9_98, im_X9_readsOnes, sel_X9_X9_readsOnes_X9_readsOnes, ini_X9, cod_X9_readsOnes, ⟨by decide +kernel, by decide +kernel, by decide +kernel⟩⟩
theorem ml_X9_87 : Cond.methodLink RX9 87 yX9_isIn ∈ TBg := tb_of 829 (by decide +kernel) (by decide +kernel)
theorem kS_X9_87 : CSw RX9 87 yX9_isIn cX9_isIn 3 (some .boolean) 3 := ⟨ml_X9_87, sta_X9_isIn, ini_X9, cod_X9_isIn, ⟨by decide +kernel, by decide +kernel, by decide +kernel⟩⟩
theorem ml_X9_118 : Cond.methodLink RX9 118 yX9_passesAll ∈ TBg := tb_of 832 (by decide +kernel) (by decide +kernel)
theorem kV_X9_118 : CVw RX9 118 yX9_passesAll cX9_passesAll 3 none 2 := ⟨ml_X9_118, im_X9_passesAll, sel_X9_X9_passesAll_X9_passesAll, ini_X9, cod_X9_passesAll, ⟨by decide +kernel, by decide +kernel, by decide +kernel⟩⟩
theorem ml_X9_132 : Cond.methodLink RX9 132 yX9_passes ∈ TBg := tb_of 836 (by decide +kernel) (by decide +kernel)
theorem kV_X9_132 : CVw RX9 132 yX9_passes cX9_passes 3 none 1 := ⟨ml_X9_132, im_X9_passes, sel_X9_X9_passes_X9_passes, ini_X9, cod_X9_passes, ⟨by decide +kernel, by decide +kernel, by decide +kernel⟩⟩
theorem ml_X9_136 : Cond.methodLink RX9 136 yX9_passOne ∈ TBg := tb_of 840 (by decide +kernel) (by decide +kernel)
theorem kV_X9_136 : CVw RX9 136 yX9_passOne cX9_passOne 3 (some .int) 1 := ⟨ml_X9_136, im_X9_passOne, sel_X9_X9_passOne_X9_passOne, ini_X9, cod_X9_passOne, ⟨by decide +kernel, by decide +kernel, by decide +kernel⟩⟩
theorem ml_X9_122 : Cond.methodLink RX9 122 yX9_comes ∈ TBg := tb_of 844 (by decide +kernel) (by decide +kernel)
theorem kV_X9_122 : CVw RX9 122 yX9_comes cX9_comes 3 (some .boolean) 1 := ⟨ml_X9_122, im_X9_comes, sel_X9_X9_comes_X9_comes, ini_X9, cod_X9_comes, ⟨by decide +kernel, by decide +kernel, by decide +kernel⟩⟩
theorem ml_X9_105 : Cond.methodLink RX9 105 yX9_comesWord ∈ TBg := tb_of 848 (by decide +kernel) (by decide +kernel)
theorem kV_X9_105 : CVw RX9 105 yX9_comesWord cX9_comesWord 2 (some .boolean) 1 := ⟨ml_X9_105, im_X9_comesWord, sel_X9_X9_comesWord_X9_comesWord, ini_X9, cod_X9_comesWord, ⟨by decide +kernel, by decide +kernel, by decide +kernel⟩⟩
theorem ml_X9_108 : Cond.methodLink RX9 108 yX9_comesBird ∈ TBg := tb_of 852 (by decide +kernel) (by decide +kernel)
theorem kV_X9_108 : CVw RX9 108 yX9_comesBird cX9_comesBird 2 (some .boolean) 1 := ⟨ml_X9_108, im_X9_comesBird, sel_X9_X9_comesBird_X9_comesBird, ini_X9, cod_X9_comesBird, ⟨by decide +kernel, by decide +kernel, by decide +kernel⟩⟩
theorem ml_X9_111 : Cond.methodLink RX9 111 yX9_comesWatch ∈ TBg := tb_of 856 (by decide +kernel) (by decide +kernel)
theorem kV_X9_111 : CVw RX9 111 yX9_comesWatch cX9_comesWatch 3 (some .boolean) 1 := ⟨ml_X9_111, im_X9_comesWatch, sel_X9_X9_comesWatch_X9_comesWatch, ini_X9, cod_X9_comesWatch, ⟨by decide +kernel, by decide +kernel, by decide +kernel⟩⟩
theorem ml_X9_102 : Cond.methodLink RX9 102 yX9_isWord ∈ TBg := tb_of 860 (by decide +kernel) (by decide +kernel)
theorem kV_X9_102 : CVw RX9 102 yX9_isWord cX9_isWord 2 (some .boolean) 1 := ⟨ml_X9_102, im_X9_isWord, sel_X9_X9_isWord_X9_isWord, ini_X9, cod_X9_isWord, ⟨by decide +kernel, by decide +kernel, by decide +kernel⟩⟩
theorem ml_L_124 : Cond.methodLink RL 124 yX9_image ∈ TBg := tb_of 864 (by decide +kernel) (by decide +kernel)
theorem kV_L_124 : CVw RL 124 yX9_image cX9_image 1 (some .int) 0 := ⟨ml_L_124, im_X9_image, sel_X9_X9_image_X9_image, ini_X9, cod_X9_image, ⟨by decide +kernel, by decide +kernel, by decide +kernel⟩⟩
theorem ml_L_128 : Cond.methodLink RL 128 yX9_on ∈ TBg := tb_of 868 (by decide +kernel) (by decide +kernel)
theorem kV_L_128 : CVw RL 128 yX9_on cX9_on 1 (some .int) 0 := ⟨ml_L_128, im_X9_on, sel_X9_X9_on_X9_on, ini_X9, cod_X9_on, ⟨by decide +kernel, by decide +kernel, by decide +kernel⟩⟩
theorem ml_L_27 : Cond.methodLink RL 27 yX9_word ∈ TBg := tb_of 872 (by decide +kernel) (by decide +kernel)
theorem kV_L_27 : CVw RL 27 yX9_word cX9_word 3 (some .int) 2 := ⟨ml_L_27, im_X9_word, sel_X9_X9_word_X9_word, ini_X9, cod_X9_word, ⟨by decide +kernel, by decide +kernel, by decide +kernel⟩⟩
theorem ml_X9_151 : Cond.methodLink RX9 151 yX9_strengthOf ∈ TBg := tb_of 876 (by decide +kernel) (by decide +kernel)
theorem kV_X9_151 : CVw RX9 151 yX9_strengthOf cX9_strengthOf 2 (some .int) 1 := ⟨ml_X9_151, im_X9_strengthOf, sel_X9_X9_strengthOf_X9_strengthOf, ini_X9, cod_X9_strengthOf, ⟨by decide +kernel, by decide +kernel, by decide +kernel⟩⟩
theorem ml_L_31 : Cond.methodLink RL 31 yX9_bird ∈ TBg := tb_of 880 (by decide +kernel) (by decide +kernel)
theorem kV_L_31 : CVw RL 31 yX9_bird cX9_bird 3 (some .int) 2 := ⟨ml_L_31, im_X9_bird, sel_X9_X9_bird_X9_bird, ini_X9, cod_X9_bird, ⟨by decide +kernel, by decide +kernel, by decide +kernel⟩⟩
theorem ml_X9_172 : Cond.methodLink RX9 172 yX9_isBird ∈ TBg := tb_of 884 (by decide +kernel) (by decide +kernel)
theorem kV_X9_172 : CVw RX9 172 yX9_isBird cX9_isBird 2 (some .boolean) 1 := ⟨ml_X9_172, im_X9_isBird, sel_X9_X9_isBird_X9_isBird, ini_X9, cod_X9_isBird, ⟨by decide +kernel, by decide +kernel, by decide +kernel⟩⟩
theorem ml_X9_160 : Cond.methodLink RX9 160 yX9_eatsBy ∈ TBg := tb_of 888 (by decide +kernel) (by decide +kernel)
theorem kV_X9_160 : CVw RX9 160 yX9_eatsBy cX9_eatsBy 4 (some .int) 1 := ⟨ml_X9_160, im_X9_eatsBy, sel_X9_X9_eatsBy_X9_eatsBy, ini_X9, cod_X9_eatsBy, ⟨by decide +kernel, by decide +kernel, by decide +kernel⟩⟩
theorem ml_X9_154 : Cond.methodLink RX9 154 yX9_mayEat ∈ TBg := tb_of 892 (by decide +kernel) (by decide +kernel)
theorem kV_X9_154 : CVw RX9 154 yX9_mayEat cX9_mayEat 3 (some .boolean) 2 := ⟨ml_X9_154, im_X9_mayEat, sel_X9_X9_mayEat_X9_mayEat, ini_X9, cod_X9_mayEat, ⟨by decide +kernel, by decide +kernel, by decide +kernel⟩⟩
theorem ml_X9_148 : Cond.methodLink RX9 148 yX9_isGone ∈ TBg := tb_of 896 (by decide +kernel) (by decide +kernel)
theorem kV_X9_148 : CVw RX9 148 yX9_isGone cX9_isGone 2 (some .boolean) 1 := ⟨ml_X9_148, im_X9_isGone, sel_X9_X9_isGone_X9_isGone, ini_X9, cod_X9_isGone, ⟨by decide +kernel, by decide +kernel, by decide +kernel⟩⟩
theorem ml_X9_157 : Cond.methodLink RX9 157 yX9_isRather ∈ TBg := tb_of 900 (by decide +kernel) (by decide +kernel)
theorem kV_X9_157 : CVw RX9 157 yX9_isRather cX9_isRather 4 (some .boolean) 3 := ⟨ml_X9_157, im_X9_isRather, sel_X9_X9_isRather_X9_isRather, ini_X9, cod_X9_isRather, ⟨by decide +kernel, by decide +kernel, by decide +kernel⟩⟩
theorem ml_L_35 : Cond.methodLink RL 35 yX9_bitter ∈ TBg := tb_of 904 (by decide +kernel) (by decide +kernel)
theorem kV_L_35 : CVw RL 35 yX9_bitter cX9_bitter 5 (some .int) 2 := ⟨ml_L_35, im_X9_bitter, sel_X9_X9_bitter_X9_bitter, ini_X9, cod_X9_bitter, ⟨by decide +kernel, by decide +kernel, by decide +kernel⟩⟩
theorem ml_X9_175 : Cond.methodLink RX9 175 yX9_isInk ∈ TBg := tb_of 908 (by decide +kernel) (by decide +kernel)
theorem kS_X9_175 : CSw RX9 175 yX9_isInk cX9_isInk 1 (some .boolean) 1 := ⟨ml_X9_175, sta_X9_isInk, ini_X9, cod_X9_isInk, ⟨by decide +kernel, by decide +kernel, by decide +kernel⟩⟩
theorem ml_L_39 : Cond.methodLink RL 39 yX9_ink ∈ TBg := tb_of 911 (by decide +kernel) (by decide +kernel)
theorem kV_L_39 : CVw RL 39 yX9_ink cX9_ink 4 (some .int) 2 := ⟨ml_L_39, im_X9_ink, sel_X9_X9_ink_X9_ink, ini_X9, cod_X9_ink, ⟨by decide +kernel, by decide +kernel, by decide +kernel⟩⟩
theorem ml_L_44 : Cond.methodLink RL 44 yX9_watch ∈ TBg := tb_of 915 (by decide +kernel) (by decide +kernel)
theorem kV_L_44 : CVw RL 44 yX9_watch cX9_watch 6 (some .int) 3 := ⟨ml_L_44, im_X9_watch, sel_X9_X9_watch_X9_watch, ini_X9, cod_X9_watch, ⟨by decide +kernel, by decide +kernel, by decide +kernel⟩⟩
theorem ml_L_48 : Cond.methodLink RL 48 yX9_hour ∈ TBg := tb_of 919 (by decide +kernel) (by decide +kernel)
theorem kV_L_48 : CVw RL 48 yX9_hour cX9_hour 1 (some .int) 0 := ⟨ml_L_48, im_X9_hour, sel_X9_X9_hour_X9_hour, ini_X9, cod_X9_hour, ⟨by decide +kernel, by decide +kernel, by decide +kernel⟩⟩
theorem ml_X9_166 : Cond.methodLink RX9 166 yX9_goesHour ∈ TBg := tb_of 923 (by decide +kernel) (by decide +kernel)
theorem kV_X9_166 : CVw RX9 166 yX9_goesHour cX9_goesHour 3 (some .int) 0 := ⟨ml_X9_166, im_X9_goesHour, sel_X9_X9_goesHour_X9_goesHour, ini_X9, cod_X9_goesHour, ⟨by decide +kernel, by decide +kernel, by decide +kernel⟩⟩
theorem ml_X9_163 : Cond.methodLink RX9 163 yX9_eats ∈ TBg := tb_of 927 (by decide +kernel) (by decide +kernel)
theorem kV_X9_163 : CVw RX9 163 yX9_eats cX9_eats 3 (some .int) 1 := ⟨ml_X9_163, im_X9_eats, sel_X9_X9_eats_X9_eats, ini_X9, cod_X9_eats, ⟨by decide +kernel, by decide +kernel, by decide +kernel⟩⟩
theorem ml_L_52 : Cond.methodLink RL 52 yX9_anew ∈ TBg := tb_of 931 (by decide +kernel) (by decide +kernel)
theorem kV_L_52 : CVw RL 52 yX9_anew cX9_anew 1 (some .int) 0 := ⟨ml_L_52, im_X9_anew, sel_X9_X9_anew_X9_anew, ini_X9, cod_X9_anew, ⟨by decide +kernel, by decide +kernel, by decide +kernel⟩⟩
theorem ml_L_56 : Cond.methodLink RL 56 yX9_left ∈ TBg := tb_of 935 (by decide +kernel) (by decide +kernel)
theorem kV_L_56 : CVw RL 56 yX9_left cX9_left 4 (some .int) 1 := ⟨ml_L_56, im_X9_left, sel_X9_X9_left_X9_left, ini_X9, cod_X9_left, ⟨by decide +kernel, by decide +kernel, by decide +kernel⟩⟩
theorem ml_X9_169 : Cond.methodLink RX9 169 yX9_leftNow ∈ TBg := tb_of 939 (by decide +kernel) (by decide +kernel)
theorem kV_X9_169 : CVw RX9 169 yX9_leftNow cX9_leftNow 1 (some .int) 0 := ⟨ml_X9_169, im_X9_leftNow, sel_X9_X9_leftNow_X9_leftNow, ini_X9, cod_X9_leftNow, ⟨by decide +kernel, by decide +kernel, by decide +kernel⟩⟩
theorem ml_L_60 : Cond.methodLink RL 60 yX9_eaten ∈ TBg := tb_of 943 (by decide +kernel) (by decide +kernel)
theorem kV_L_60 : CVw RL 60 yX9_eaten cX9_eaten 3 (some .int) 1 := ⟨ml_L_60, im_X9_eaten, sel_X9_X9_eaten_X9_eaten, ini_X9, cod_X9_eaten, ⟨by decide +kernel, by decide +kernel, by decide +kernel⟩⟩
theorem ml_X9_178 : Cond.methodLink RX9 178 yX9_goesIn ∈ TBg := tb_of 947 (by decide +kernel) (by decide +kernel)
theorem kV_X9_178 : CVw RX9 178 yX9_goesIn cX9_goesIn 5 (some .int) 1 := ⟨ml_X9_178, im_X9_goesIn, sel_X9_X9_goesIn_X9_goesIn, ini_X9, cod_X9_goesIn, ⟨by decide +kernel, by decide +kernel, by decide +kernel⟩⟩
theorem ml_L_64 : Cond.methodLink RL 64 yX9_meanings ∈ TBg := tb_of 951 (by decide +kernel) (by decide +kernel)
theorem kV_L_64 : CVw RL 64 yX9_meanings cX9_meanings 1 (some .int) 0 := ⟨ml_L_64, im_X9_meanings, sel_X9_X9_meanings_X9_meanings, ini_X9, cod_X9_meanings, ⟨by decide +kernel, by decide +kernel, by decide +kernel⟩⟩
theorem ml_X9_181 : Cond.methodLink RX9 181 yX9_leftAtDusk ∈ TBg := tb_of 955 (by decide +kernel) (by decide +kernel)
theorem kV_X9_181 : CVw RX9 181 yX9_leftAtDusk cX9_leftAtDusk 4 (some .int) 0 := ⟨ml_X9_181, im_X9_leftAtDusk, sel_X9_X9_leftAtDusk_X9_leftAtDusk, ini_X9, cod_X9_leftAtDusk, ⟨by decide +kernel, by decide +kernel, by decide +kernel⟩⟩
theorem ml_X9_184 : Cond.methodLink RX9 184 yX9_meaningsOf ∈ TBg := tb_of 959 (by decide +kernel) (by decide +kernel)
theorem kV_X9_184 : CVw RX9 184 yX9_meaningsOf cX9_meaningsOf 4 (some .int) 1 := ⟨ml_X9_184, im_X9_meaningsOf, sel_X9_X9_meaningsOf_X9_meaningsOf, ini_X9, cod_X9_meaningsOf, ⟨by decide +kernel, by decide +kernel, by decide +kernel⟩⟩
theorem ml_L_68 : Cond.methodLink RL 68 yX9_remain ∈ TBg := tb_of 963 (by decide +kernel) (by decide +kernel)
theorem kV_L_68 : CVw RL 68 yX9_remain cX9_remain 1 (some .int) 0 := ⟨ml_L_68, im_X9_remain, sel_X9_X9_remain_X9_remain, ini_X9, cod_X9_remain, ⟨by decide +kernel, by decide +kernel, by decide +kernel⟩⟩
theorem ml_X9_187 : Cond.methodLink RX9 187 yX9_bits ∈ TBg := tb_of 967 (by decide +kernel) (by decide +kernel)
theorem kS_X9_187 : CSw RX9 187 yX9_bits cX9_bits 3 (some .int) 1 := ⟨ml_X9_187, sta_X9_bits, ini_X9, cod_X9_bits, ⟨by decide +kernel, by decide +kernel, by decide +kernel⟩⟩
theorem ml_L_72 : Cond.methodLink RL 72 yX9_holds ∈ TBg := tb_of 970 (by decide +kernel) (by decide +kernel)
theorem kV_L_72 : CVw RL 72 yX9_holds cX9_holds 6 (some .int) 1 := ⟨ml_L_72, im_X9_holds, sel_X9_X9_holds_X9_holds, ini_X9, cod_X9_holds, ⟨by decide +kernel, by decide +kernel, by decide +kernel⟩⟩
theorem ml_L_76 : Cond.methodLink RL 76 yX9_boys ∈ TBg := tb_of 974 (by decide +kernel) (by decide +kernel)
theorem kV_L_76 : CVw RL 76 yX9_boys cX9_boys 4 (some .int) 1 := ⟨ml_L_76, im_X9_boys, sel_X9_X9_boys_X9_boys, ini_X9, cod_X9_boys, ⟨by decide +kernel, by decide +kernel, by decide +kernel⟩⟩
theorem ml_X9_190 : Cond.methodLink RX9 190 yX9_areWords ∈ TBg := tb_of 978 (by decide +kernel) (by decide +kernel)
theorem kV_X9_190 : CVw RX9 190 yX9_areWords cX9_areWords 2 (some .boolean) 1 := ⟨ml_X9_190, im_X9_areWords, sel_X9_X9_areWords_X9_areWords, ini_X9, cod_X9_areWords, ⟨by decide +kernel, by decide +kernel, by decide +kernel⟩⟩
theorem ml_X9_193 : Cond.methodLink RX9 193 yX9_watchedLeft ∈ TBg := tb_of 982 (by decide +kernel) (by decide +kernel)
theorem kV_X9_193 : CVw RX9 193 yX9_watchedLeft cX9_watchedLeft 4 (some .int) 2 := ⟨ml_X9_193, im_X9_watchedLeft, sel_X9_X9_watchedLeft_X9_watchedLeft, ini_X9, cod_X9_watchedLeft, ⟨by decide +kernel, by decide +kernel, by decide +kernel⟩⟩
theorem ml_L_80 : Cond.methodLink RL 80 yX9_guard ∈ TBg := tb_of 986 (by decide +kernel) (by decide +kernel)
theorem kV_L_80 : CVw RL 80 yX9_guard cX9_guard 5 (some .int) 0 := ⟨ml_L_80, im_X9_guard, sel_X9_X9_guard_X9_guard, ini_X9, cod_X9_guard, ⟨by decide +kernel, by decide +kernel, by decide +kernel⟩⟩
theorem ml_L_84 : Cond.methodLink RL 84 yX9_winter ∈ TBg := tb_of 990 (by decide +kernel) (by decide +kernel)
theorem kV_L_84 : CVw RL 84 yX9_winter cX9_winter 5 (some .int) 1 := ⟨ml_L_84, im_X9_winter, sel_X9_X9_winter_X9_winter, ini_X9, cod_X9_winter, ⟨by decide +kernel, by decide +kernel, by decide +kernel⟩⟩
theorem ml_X9_197 : Cond.methodLink RX9 197 yX9_lower ∈ TBg := tb_of 994 (by decide +kernel) (by decide +kernel)
theorem kV_X9_197 : CVw RX9 197 yX9_lower cX9_lower 2 (some .int) 1 := ⟨ml_X9_197, im_X9_lower, sel_X9_X9_lower_X9_lower, ini_X9, cod_X9_lower, ⟨by decide +kernel, by decide +kernel, by decide +kernel⟩⟩
theorem ml_L_88 : Cond.methodLink RL 88 yX9_becomes ∈ TBg := tb_of 999 (by decide +kernel) (by decide +kernel)
theorem kV_L_88 : CVw RL 88 yX9_becomes cX9_becomes 4 (some .int) 0 := ⟨ml_L_88, im_X9_becomes, sel_X9_X9_becomes_X9_becomes, ini_X9, cod_X9_becomes, ⟨by decide +kernel, by decide +kernel, by decide +kernel⟩⟩
theorem ml_X9_203 : Cond.methodLink RX9 203 yX9_otherAt ∈ TBg := tb_of 1003 (by decide +kernel) (by decide +kernel)
theorem kV_X9_203 : CVw RX9 203 yX9_otherAt cX9_otherAt 3 (some .int) 0 := ⟨ml_X9_203, im_X9_otherAt, sel_X9_X9_otherAt_X9_otherAt, ini_X9, cod_X9_otherAt, ⟨by decide +kernel, by decide +kernel, by decide +kernel⟩⟩
theorem ml_L_92 : Cond.methodLink RL 92 yX9_danger ∈ TBg := tb_of 1007 (by decide +kernel) (by decide +kernel)
theorem kV_L_92 : CVw RL 92 yX9_danger cX9_danger 1 (some .int) 0 := ⟨ml_L_92, im_X9_danger, sel_X9_X9_danger_X9_danger, ini_X9, cod_X9_danger, ⟨by decide +kernel, by decide +kernel, by decide +kernel⟩⟩
theorem ml_L_96 : Cond.methodLink RL 96 yX9_lasts ∈ TBg := tb_of 1011 (by decide +kernel) (by decide +kernel)
theorem kV_L_96 : CVw RL 96 yX9_lasts cX9_lasts 7 (some .int) 1 := ⟨ml_L_96, im_X9_lasts, sel_X9_X9_lasts_X9_lasts, ini_X9, cod_X9_lasts, ⟨by decide +kernel, by decide +kernel, by decide +kernel⟩⟩
theorem ml_L_100 : Cond.methodLink RL 100 yX9_mixed ∈ TBg := tb_of 1015 (by decide +kernel) (by decide +kernel)
theorem kV_L_100 : CVw RL 100 yX9_mixed cX9_mixed 8 (some .int) 2 := ⟨ml_L_100, im_X9_mixed, sel_X9_X9_mixed_X9_mixed, ini_X9, cod_X9_mixed, ⟨by decide +kernel, by decide +kernel, by decide +kernel⟩⟩
theorem ml_L_104 : Cond.methodLink RL 104 yX9_tastes ∈ TBg := tb_of 1019 (by decide +kernel) (by decide +kernel)
theorem kV_L_104 : CVw RL 104 yX9_tastes cX9_tastes 6 (some .int) 2 := ⟨ml_L_104, im_X9_tastes, sel_X9_X9_tastes_X9_tastes, ini_X9, cod_X9_tastes, ⟨by decide +kernel, by decide +kernel, by decide +kernel⟩⟩
theorem ml_L_108 : Cond.methodLink RL 108 yX9_fitting ∈ TBg := tb_of 1023 (by decide +kernel) (by decide +kernel)
theorem kV_L_108 : CVw RL 108 yX9_fitting cX9_fitting 6 (some .int) 2 := ⟨ml_L_108, im_X9_fitting, sel_X9_X9_fitting_X9_fitting, ini_X9, cod_X9_fitting, ⟨by decide +kernel, by decide +kernel, by decide +kernel⟩⟩
theorem ml_L_112 : Cond.methodLink RL 112 yX9_row ∈ TBg := tb_of 1027 (by decide +kernel) (by decide +kernel)
theorem kV_L_112 : CVw RL 112 yX9_row cX9_row 3 (some .int) 1 := ⟨ml_L_112, im_X9_row, sel_X9_X9_row_X9_row, ini_X9, cod_X9_row, ⟨by decide +kernel, by decide +kernel, by decide +kernel⟩⟩
theorem ml_L_116 : Cond.methodLink RL 116 yX9_judge ∈ TBg := tb_of 1031 (by decide +kernel) (by decide +kernel)
theorem kV_L_116 : CVw RL 116 yX9_judge cX9_judge 2 (some .int) 0 := ⟨ml_L_116, im_X9_judge, sel_X9_X9_judge_X9_judge, ini_X9, cod_X9_judge, ⟨by decide +kernel, by decide +kernel, by decide +kernel⟩⟩
theorem ml_L_120 : Cond.methodLink RL 120 yX9_seeds ∈ TBg := tb_of 1035 (by decide +kernel) (by decide +kernel)
theorem kV_L_120 : CVw RL 120 yX9_seeds cX9_seeds 8 (some .int) 2 := ⟨ml_L_120, im_X9_seeds, sel_X9_X9_seeds_X9_seeds, ini_X9, cod_X9_seeds, ⟨by decide +kernel, by decide +kernel, by decide +kernel⟩⟩
theorem ml_L_132 : Cond.methodLink RL 132 yX9_count ∈ TBg := tb_of 1042 (by decide +kernel) (by decide +kernel)
theorem kV_L_132 : CVw RL 132 yX9_count cX9_count 4 (some .int) 1 := ⟨ml_L_132, im_X9_count, sel_X9_X9_count_X9_count, ini_X9, cod_X9_count, ⟨by decide +kernel, by decide +kernel, by decide +kernel⟩⟩
theorem kNI_X8_9 : CNIw RX8 9 yX6_init RX8 cX6_init 1 0 := ⟨by simp [nestW], im_X6_init, ini_X6, cod_X6_init, rfl, ⟨by decide +kernel, by decide +kernel, by decide +kernel⟩⟩
theorem kNI_X8_12 : CNIw RX8 12 yX7_init RX8 cX7_init 1 0 := ⟨by simp [nestW], im_X7_init, ini_X7, cod_X7_init, rfl, ⟨by decide +kernel, by decide +kernel, by decide +kernel⟩⟩
theorem kNI_X7_1 : CNIw RX7 1 yX6_init RX8 cX6_init 1 0 := ⟨by simp [nestW], im_X6_init, ini_X6, cod_X6_init, rfl, ⟨by decide +kernel, by decide +kernel, by decide +kernel⟩⟩
theorem kNI_X8_15 : CNIw RX8 15 yX0_init RX8 cX0_init 1 0 := ⟨by simp [nestW], im_X0_init, ini_X0, cod_X0_init, rfl, ⟨by decide +kernel, by decide +kernel, by decide +kernel⟩⟩
theorem kNI_X0_1 : CNIw RX0 1 yX6_init RX8 cX6_init 1 0 := ⟨by simp [nestW], im_X6_init, ini_X6, cod_X6_init, rfl, ⟨by decide +kernel, by decide +kernel, by decide +kernel⟩⟩
theorem kNI_X8_18 : CNIw RX8 18 yX5_init RX8 cX5_init 1 0 := ⟨by simp [nestW], im_X5_init, ini_X5, cod_X5_init, rfl, ⟨by decide +kernel, by decide +kernel, by decide +kernel⟩⟩
theorem kNI_X5_1 : CNIw RX5 1 yX7_init RX8 cX7_init 1 0 := ⟨by simp [nestW], im_X7_init, ini_X7, cod_X7_init, rfl, ⟨by decide +kernel, by decide +kernel, by decide +kernel⟩⟩
theorem kNI_X8_21 : CNIw RX8 21 yX3_init RX8 cX3_init 1 0 := ⟨by simp [nestW], im_X3_init, ini_X3, cod_X3_init, rfl, ⟨by decide +kernel, by decide +kernel, by decide +kernel⟩⟩
theorem kNI_X3_1 : CNIw RX3 1 yX6_init RX8 cX6_init 1 0 := ⟨by simp [nestW], im_X6_init, ini_X6, cod_X6_init, rfl, ⟨by decide +kernel, by decide +kernel, by decide +kernel⟩⟩
theorem kNI_X8_24 : CNIw RX8 24 yX1_init RX8 cX1_init 1 0 := ⟨by simp [nestW], im_X1_init, ini_X1, cod_X1_init, rfl, ⟨by decide +kernel, by decide +kernel, by decide +kernel⟩⟩
theorem kNI_X1_1 : CNIw RX1 1 yX0_init RX8 cX0_init 1 0 := ⟨by simp [nestW], im_X0_init, ini_X0, cod_X0_init, rfl, ⟨by decide +kernel, by decide +kernel, by decide +kernel⟩⟩
theorem kNI_X8_44 : CNIw RX8 44 yX4_init RX8 cX4_init 1 0 := ⟨by simp [nestW], im_X4_init, ini_X4, cod_X4_init, rfl, ⟨by decide +kernel, by decide +kernel, by decide +kernel⟩⟩
theorem kNS_X4_70 : CNSw RX4 70 yX8_isInk RX8 cX8_isInk 1 (some .boolean) 1 := ⟨by simp [nestW], sta_X8_isInk, ini_X8, cod_X8_isInk, ⟨by decide +kernel, by decide +kernel, by decide +kernel⟩⟩
theorem kNS_X2_66 : CNSw RX2 66 yX8_isInk RX8 cX8_isInk 1 (some .boolean) 1 := ⟨by simp [nestW], sta_X8_isInk, ini_X8, cod_X8_isInk, ⟨by decide +kernel, by decide +kernel, by decide +kernel⟩⟩
theorem in_X0 : ∀ w ∈ u_ws RX0 TX0 0, w ∈ TBg := fun w h => List.mem_filter.mpr ⟨(by decide +kernel : ∀ w ∈ u_ws RX0 TX0 0, w ∈ lw_tbl) w h, (by decide +kernel : ∀ w ∈ u_ws RX0 TX0 0, goodWord w = true) w h⟩
theorem in_X1 : ∀ w ∈ u_ws RX1 TX1 0, w ∈ TBg := fun w h => List.mem_filter.mpr ⟨(by decide +kernel : ∀ w ∈ u_ws RX1 TX1 0, w ∈ lw_tbl) w h, (by decide +kernel : ∀ w ∈ u_ws RX1 TX1 0, goodWord w = true) w h⟩
theorem in_X2 : ∀ w ∈ u_ws RX2 TX2 14, w ∈ TBg := fun w h => List.mem_filter.mpr ⟨(by decide +kernel : ∀ w ∈ u_ws RX2 TX2 14, w ∈ lw_tbl) w h, (by decide +kernel : ∀ w ∈ u_ws RX2 TX2 14, goodWord w = true) w h⟩
theorem in_X3 : ∀ w ∈ u_ws RX3 TX3 0, w ∈ TBg := fun w h => List.mem_filter.mpr ⟨(by decide +kernel : ∀ w ∈ u_ws RX3 TX3 0, w ∈ lw_tbl) w h, (by decide +kernel : ∀ w ∈ u_ws RX3 TX3 0, goodWord w = true) w h⟩
theorem in_X4 : ∀ w ∈ u_ws RX4 TX4 2, w ∈ TBg := fun w h => List.mem_filter.mpr ⟨(by decide +kernel : ∀ w ∈ u_ws RX4 TX4 2, w ∈ lw_tbl) w h, (by decide +kernel : ∀ w ∈ u_ws RX4 TX4 2, goodWord w = true) w h⟩
theorem in_X5 : ∀ w ∈ u_ws RX5 TX5 0, w ∈ TBg := fun w h => List.mem_filter.mpr ⟨(by decide +kernel : ∀ w ∈ u_ws RX5 TX5 0, w ∈ lw_tbl) w h, (by decide +kernel : ∀ w ∈ u_ws RX5 TX5 0, goodWord w = true) w h⟩
theorem in_X6 : ∀ w ∈ u_ws RX6 TX6 0, w ∈ TBg := fun w h => List.mem_filter.mpr ⟨(by decide +kernel : ∀ w ∈ u_ws RX6 TX6 0, w ∈ lw_tbl) w h, (by decide +kernel : ∀ w ∈ u_ws RX6 TX6 0, goodWord w = true) w h⟩
theorem in_X7 : ∀ w ∈ u_ws RX7 TX7 0, w ∈ TBg := fun w h => List.mem_filter.mpr ⟨(by decide +kernel : ∀ w ∈ u_ws RX7 TX7 0, w ∈ lw_tbl) w h, (by decide +kernel : ∀ w ∈ u_ws RX7 TX7 0, goodWord w = true) w h⟩
theorem in_X8 : ∀ w ∈ u_ws RX8 TX8 8, w ∈ TBg := fun w h => List.mem_filter.mpr ⟨(by decide +kernel : ∀ w ∈ u_ws RX8 TX8 8, w ∈ lw_tbl) w h, (by decide +kernel : ∀ w ∈ u_ws RX8 TX8 8, goodWord w = true) w h⟩
theorem in_X9 : ∀ w ∈ u_ws RX9 TX9 27, w ∈ TBg := fun w h => List.mem_filter.mpr ⟨(by decide +kernel : ∀ w ∈ u_ws RX9 TX9 27, w ∈ lw_tbl) w h, (by decide +kernel : ∀ w ∈ u_ws RX9 TX9 27, goodWord w = true) w h⟩
theorem arr_173 : Cond.arrayClass .int ∈ TBg := tb_of 173 (by decide +kernel) (by decide +kernel)
theorem arr_188 : Cond.arrayClass .char ∈ TBg := tb_of 188 (by decide +kernel) (by decide +kernel)
theorem arr_424 : Cond.arrayClass .byte ∈ TBg := tb_of 424 (by decide +kernel) (by decide +kernel)
theorem ko_X8_1 : Cond.methodLink RX8 1 objectInit ∈ TBg ∧ Cond.instanceMethod objectInit ∈ TBg ∧ Cond.code objectInit ⟨#[0xb1]⟩ 1 none ∈ TBg := ⟨tb_of 64 (by decide +kernel) (by decide +kernel), tb_of 65 (by decide +kernel) (by decide +kernel), tb_of 66 (by decide +kernel) (by decide +kernel)⟩
theorem ko_X6_3 : Cond.methodLink RX6 3 objectInit ∈ TBg ∧ Cond.instanceMethod objectInit ∈ TBg ∧ Cond.code objectInit ⟨#[0xb1]⟩ 1 none ∈ TBg := ⟨tb_of 73 (by decide +kernel) (by decide +kernel), tb_of 65 (by decide +kernel) (by decide +kernel), tb_of 66 (by decide +kernel) (by decide +kernel)⟩
theorem ko_X2_3 : Cond.methodLink RX2 3 objectInit ∈ TBg ∧ Cond.instanceMethod objectInit ∈ TBg ∧ Cond.code objectInit ⟨#[0xb1]⟩ 1 none ∈ TBg := ⟨tb_of 115 (by decide +kernel) (by decide +kernel), tb_of 65 (by decide +kernel) (by decide +kernel), tb_of 66 (by decide +kernel) (by decide +kernel)⟩
theorem ko_X4_3 : Cond.methodLink RX4 3 objectInit ∈ TBg ∧ Cond.instanceMethod objectInit ∈ TBg ∧ Cond.code objectInit ⟨#[0xb1]⟩ 1 none ∈ TBg := ⟨tb_of 179 (by decide +kernel) (by decide +kernel), tb_of 65 (by decide +kernel) (by decide +kernel), tb_of 66 (by decide +kernel) (by decide +kernel)⟩
theorem km_J1_92 : Cond.methodLink RJ1 92 Lib.Math.max.name ∈ TBg ∧ Cond.static Lib.Math.max.name ∈ TBg ∧ Cond.initialized "java/lang/Math" ∈ TBg ∧ Cond.code Lib.Math.max.name Lib.Math.max.code 2 (some .int) ∈ TBg := ⟨tb_of 325 (by decide +kernel) (by decide +kernel), tb_of 326 (by decide +kernel) (by decide +kernel), tb_of 55 (by decide +kernel) (by decide +kernel), tb_of 327 (by decide +kernel) (by decide +kernel)⟩
theorem km_J1_38 : Cond.methodLink RJ1 38 Lib.Math.min.name ∈ TBg ∧ Cond.static Lib.Math.min.name ∈ TBg ∧ Cond.initialized "java/lang/Math" ∈ TBg ∧ Cond.code Lib.Math.min.name Lib.Math.min.code 2 (some .int) ∈ TBg := ⟨tb_of 328 (by decide +kernel) (by decide +kernel), tb_of 329 (by decide +kernel) (by decide +kernel), tb_of 55 (by decide +kernel) (by decide +kernel), tb_of 330 (by decide +kernel) (by decide +kernel)⟩
theorem km_J2_224 : Cond.methodLink RJ2 224 Lib.Math.max.name ∈ TBg ∧ Cond.static Lib.Math.max.name ∈ TBg ∧ Cond.initialized "java/lang/Math" ∈ TBg ∧ Cond.code Lib.Math.max.name Lib.Math.max.code 2 (some .int) ∈ TBg := ⟨tb_of 337 (by decide +kernel) (by decide +kernel), tb_of 326 (by decide +kernel) (by decide +kernel), tb_of 55 (by decide +kernel) (by decide +kernel), tb_of 327 (by decide +kernel) (by decide +kernel)⟩
theorem km_J2_183 : Cond.methodLink RJ2 183 Lib.Math.min.name ∈ TBg ∧ Cond.static Lib.Math.min.name ∈ TBg ∧ Cond.initialized "java/lang/Math" ∈ TBg ∧ Cond.code Lib.Math.min.name Lib.Math.min.code 2 (some .int) ∈ TBg := ⟨tb_of 338 (by decide +kernel) (by decide +kernel), tb_of 329 (by decide +kernel) (by decide +kernel), tb_of 55 (by decide +kernel) (by decide +kernel), tb_of 330 (by decide +kernel) (by decide +kernel)⟩
theorem kac_X2_43 : Cond.methodLink RX2 43 arraycopyName ∈ TBg ∧ Cond.native arraycopyName ∈ TBg ∧ Cond.static arraycopyName ∈ TBg ∧ Cond.initialized "java/lang/System" ∈ TBg := ⟨tb_of 573 (by decide +kernel) (by decide +kernel), tb_of 575 (by decide +kernel) (by decide +kernel), tb_of 574 (by decide +kernel) (by decide +kernel), tb_of 58 (by decide +kernel) (by decide +kernel)⟩
theorem km_X8_175 : Cond.methodLink RX8 175 Lib.Math.min.name ∈ TBg ∧ Cond.static Lib.Math.min.name ∈ TBg ∧ Cond.initialized "java/lang/Math" ∈ TBg ∧ Cond.code Lib.Math.min.name Lib.Math.min.code 2 (some .int) ∈ TBg := ⟨tb_of 610 (by decide +kernel) (by decide +kernel), tb_of 329 (by decide +kernel) (by decide +kernel), tb_of 55 (by decide +kernel) (by decide +kernel), tb_of 330 (by decide +kernel) (by decide +kernel)⟩
theorem ko_X9_1 : Cond.methodLink RX9 1 objectInit ∈ TBg ∧ Cond.instanceMethod objectInit ∈ TBg ∧ Cond.code objectInit ⟨#[0xb1]⟩ 1 none ∈ TBg := ⟨tb_of 712 (by decide +kernel) (by decide +kernel), tb_of 65 (by decide +kernel) (by decide +kernel), tb_of 66 (by decide +kernel) (by decide +kernel)⟩
end
