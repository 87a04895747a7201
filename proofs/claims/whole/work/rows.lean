section
-- ===== PART A: goes FIRST, ahead of the names: the tables' words, and 'selects' of the private methods out of them =====
/-- a private method of a class that the tables say can be made, by its rows of tables_1 -/
def lw_okq (q : MethodName × Nat) : Prop := (q.1.cls ≠ "java/lang/invoke/MethodHandle" ∧ q.1.cls ≠ "java/lang/invoke/VarHandle") ∧ Cond.instantiable q.1.cls q.2 ∈ tables_1 ∧ Cond.privateMethod q.1 ∈ tables_1 ∧ Cond.instanceMethod q.1 ∈ tables_1
theorem lw_p0 : lw_okq (⟨"LieForce$Reader", "readNumbers", "([CIII)I"⟩, 1) := ⟨⟨by decide +kernel, by decide +kernel⟩, List.mem_of_getElem? (i := 24) (by decide +kernel), List.mem_of_getElem? (i := 150) (by decide +kernel), List.mem_of_getElem? (i := 151) (by decide +kernel)⟩
theorem lw_p1 : lw_okq (⟨"LieForce$Reader", "putItem", "(ILLieForce$Force;)Z"⟩, 1) := ⟨⟨by decide +kernel, by decide +kernel⟩, List.mem_of_getElem? (i := 24) (by decide +kernel), List.mem_of_getElem? (i := 163) (by decide +kernel), List.mem_of_getElem? (i := 164) (by decide +kernel)⟩
theorem lw_p2 : lw_okq (⟨"LieForce$Game", "bestOf", "(IZ)I"⟩, 2) := ⟨⟨by decide +kernel, by decide +kernel⟩, List.mem_of_getElem? (i := 249) (by decide +kernel), List.mem_of_getElem? (i := 499) (by decide +kernel), List.mem_of_getElem? (i := 500) (by decide +kernel)⟩
theorem lw_p3 : lw_okq (⟨"LieForce$Game", "worth", "(I)I"⟩, 2) := ⟨⟨by decide +kernel, by decide +kernel⟩, List.mem_of_getElem? (i := 249) (by decide +kernel), List.mem_of_getElem? (i := 503) (by decide +kernel), List.mem_of_getElem? (i := 504) (by decide +kernel)⟩
theorem lw_p4 : lw_okq (⟨"LieForceModel", "clearTold", "()V"⟩, 21) := ⟨⟨by decide +kernel, by decide +kernel⟩, List.mem_of_getElem? (i := 615) (by decide +kernel), List.mem_of_getElem? (i := 621) (by decide +kernel), List.mem_of_getElem? (i := 622) (by decide +kernel)⟩
theorem lw_p5 : lw_okq (⟨"LieForceModel", "tellsSaying", "(IIII)V"⟩, 21) := ⟨⟨by decide +kernel, by decide +kernel⟩, List.mem_of_getElem? (i := 615) (by decide +kernel), List.mem_of_getElem? (i := 625) (by decide +kernel), List.mem_of_getElem? (i := 626) (by decide +kernel)⟩
theorem lw_p6 : lw_okq (⟨"LieForceModel", "settles", "()V"⟩, 21) := ⟨⟨by decide +kernel, by decide +kernel⟩, List.mem_of_getElem? (i := 615) (by decide +kernel), List.mem_of_getElem? (i := 632) (by decide +kernel), List.mem_of_getElem? (i := 633) (by decide +kernel)⟩
theorem lw_p7 : lw_okq (⟨"LieForceModel", "appoints", "()V"⟩, 21) := ⟨⟨by decide +kernel, by decide +kernel⟩, List.mem_of_getElem? (i := 615) (by decide +kernel), List.mem_of_getElem? (i := 639) (by decide +kernel), List.mem_of_getElem? (i := 640) (by decide +kernel)⟩
theorem lw_p8 : lw_okq (⟨"LieForceModel", "policeIn", "(I)I"⟩, 21) := ⟨⟨by decide +kernel, by decide +kernel⟩, List.mem_of_getElem? (i := 615) (by decide +kernel), List.mem_of_getElem? (i := 643) (by decide +kernel), List.mem_of_getElem? (i := 644) (by decide +kernel)⟩
theorem lw_p9 : lw_okq (⟨"LieForceModel", "isSo", "(II)Z"⟩, 21) := ⟨⟨by decide +kernel, by decide +kernel⟩, List.mem_of_getElem? (i := 615) (by decide +kernel), List.mem_of_getElem? (i := 650) (by decide +kernel), List.mem_of_getElem? (i := 651) (by decide +kernel)⟩
theorem lw_p10 : lw_okq (⟨"LieForceModel", "readItem", "()Z"⟩, 21) := ⟨⟨by decide +kernel, by decide +kernel⟩, List.mem_of_getElem? (i := 615) (by decide +kernel), List.mem_of_getElem? (i := 736) (by decide +kernel), List.mem_of_getElem? (i := 737) (by decide +kernel)⟩
theorem lw_p11 : lw_okq (⟨"LieForceModel", "letterAt", "(I)I"⟩, 21) := ⟨⟨by decide +kernel, by decide +kernel⟩, List.mem_of_getElem? (i := 615) (by decide +kernel), List.mem_of_getElem? (i := 740) (by decide +kernel), List.mem_of_getElem? (i := 741) (by decide +kernel)⟩
theorem lw_p12 : lw_okq (⟨"LieForceModel", "readFactOf", "()Z"⟩, 21) := ⟨⟨by decide +kernel, by decide +kernel⟩, List.mem_of_getElem? (i := 615) (by decide +kernel), List.mem_of_getElem? (i := 744) (by decide +kernel), List.mem_of_getElem? (i := 745) (by decide +kernel)⟩
theorem lw_p13 : lw_okq (⟨"LieForceModel", "readNumbers", "(I)Z"⟩, 21) := ⟨⟨by decide +kernel, by decide +kernel⟩, List.mem_of_getElem? (i := 615) (by decide +kernel), List.mem_of_getElem? (i := 748) (by decide +kernel), List.mem_of_getElem? (i := 749) (by decide +kernel)⟩
theorem lw_p14 : lw_okq (⟨"LieForceModel", "isTold", "(III)Z"⟩, 21) := ⟨⟨by decide +kernel, by decide +kernel⟩, List.mem_of_getElem? (i := 615) (by decide +kernel), List.mem_of_getElem? (i := 755) (by decide +kernel), List.mem_of_getElem? (i := 756) (by decide +kernel)⟩
theorem lw_p15 : lw_okq (⟨"LieForceModel", "readSayingOf", "()Z"⟩, 21) := ⟨⟨by decide +kernel, by decide +kernel⟩, List.mem_of_getElem? (i := 615) (by decide +kernel), List.mem_of_getElem? (i := 759) (by decide +kernel), List.mem_of_getElem? (i := 760) (by decide +kernel)⟩
def lw_privs_1 : List (MethodName × Nat) := [(⟨"LieForce$Reader", "readNumbers", "([CIII)I"⟩, 1), (⟨"LieForce$Reader", "putItem", "(ILLieForce$Force;)Z"⟩, 1), (⟨"LieForce$Game", "bestOf", "(IZ)I"⟩, 2), (⟨"LieForce$Game", "worth", "(I)I"⟩, 2), (⟨"LieForceModel", "clearTold", "()V"⟩, 21), (⟨"LieForceModel", "tellsSaying", "(IIII)V"⟩, 21), (⟨"LieForceModel", "settles", "()V"⟩, 21), (⟨"LieForceModel", "appoints", "()V"⟩, 21), (⟨"LieForceModel", "policeIn", "(I)I"⟩, 21), (⟨"LieForceModel", "isSo", "(II)Z"⟩, 21), (⟨"LieForceModel", "readItem", "()Z"⟩, 21), (⟨"LieForceModel", "letterAt", "(I)I"⟩, 21), (⟨"LieForceModel", "readFactOf", "()Z"⟩, 21), (⟨"LieForceModel", "readNumbers", "(I)Z"⟩, 21), (⟨"LieForceModel", "isTold", "(III)Z"⟩, 21), (⟨"LieForceModel", "readSayingOf", "()Z"⟩, 21)]
theorem lw_r1 : ∀ q ∈ lw_privs_1, lw_okq q := List.forall_mem_cons.mpr ⟨lw_p0, List.forall_mem_cons.mpr ⟨lw_p1, List.forall_mem_cons.mpr ⟨lw_p2, List.forall_mem_cons.mpr ⟨lw_p3, List.forall_mem_cons.mpr ⟨lw_p4, List.forall_mem_cons.mpr ⟨lw_p5, List.forall_mem_cons.mpr ⟨lw_p6, List.forall_mem_cons.mpr ⟨lw_p7, List.forall_mem_cons.mpr ⟨lw_p8, List.forall_mem_cons.mpr ⟨lw_p9, List.forall_mem_cons.mpr ⟨lw_p10, List.forall_mem_cons.mpr ⟨lw_p11, List.forall_mem_cons.mpr ⟨lw_p12, List.forall_mem_cons.mpr ⟨lw_p13, List.forall_mem_cons.mpr ⟨lw_p14, List.forall_mem_cons.mpr ⟨lw_p15, fun _ h => absurd h List.not_mem_nil⟩⟩⟩⟩⟩⟩⟩⟩⟩⟩⟩⟩⟩⟩⟩⟩
theorem lw_p16 : lw_okq (⟨"LieForceModel", "readTermOf", "()Z"⟩, 21) := ⟨⟨by decide +kernel, by decide +kernel⟩, List.mem_of_getElem? (i := 615) (by decide +kernel), List.mem_of_getElem? (i := 763) (by decide +kernel), List.mem_of_getElem? (i := 764) (by decide +kernel)⟩
theorem lw_p17 : lw_okq (⟨"LieForceModel", "isSaying", "(I)Z"⟩, 21) := ⟨⟨by decide +kernel, by decide +kernel⟩, List.mem_of_getElem? (i := 615) (by decide +kernel), List.mem_of_getElem? (i := 776) (by decide +kernel), List.mem_of_getElem? (i := 777) (by decide +kernel)⟩
theorem lw_p18 : lw_okq (⟨"LieForceModel", "asItIs", "()V"⟩, 21) := ⟨⟨by decide +kernel, by decide +kernel⟩, List.mem_of_getElem? (i := 615) (by decide +kernel), List.mem_of_getElem? (i := 780) (by decide +kernel), List.mem_of_getElem? (i := 781) (by decide +kernel)⟩
theorem lw_p19 : lw_okq (⟨"LieForceModel", "doClash", "(II)Z"⟩, 21) := ⟨⟨by decide +kernel, by decide +kernel⟩, List.mem_of_getElem? (i := 615) (by decide +kernel), List.mem_of_getElem? (i := 795) (by decide +kernel), List.mem_of_getElem? (i := 796) (by decide +kernel)⟩
theorem lw_p20 : lw_okq (⟨"LieForceModel", "remembers", "()V"⟩, 21) := ⟨⟨by decide +kernel, by decide +kernel⟩, List.mem_of_getElem? (i := 615) (by decide +kernel), List.mem_of_getElem? (i := 803) (by decide +kernel), List.mem_of_getElem? (i := 804) (by decide +kernel)⟩
theorem lw_p21 : lw_okq (⟨"LieForceModel", "goes", "()V"⟩, 21) := ⟨⟨by decide +kernel, by decide +kernel⟩, List.mem_of_getElem? (i := 615) (by decide +kernel), List.mem_of_getElem? (i := 807) (by decide +kernel), List.mem_of_getElem? (i := 808) (by decide +kernel)⟩
theorem lw_p22 : lw_okq (⟨"LieForceModel", "canBeWithdrawn", "(I)Z"⟩, 21) := ⟨⟨by decide +kernel, by decide +kernel⟩, List.mem_of_getElem? (i := 615) (by decide +kernel), List.mem_of_getElem? (i := 819) (by decide +kernel), List.mem_of_getElem? (i := 820) (by decide +kernel)⟩
theorem lw_p23 : lw_okq (⟨"LieForceModel", "withdraws", "(I)V"⟩, 21) := ⟨⟨by decide +kernel, by decide +kernel⟩, List.mem_of_getElem? (i := 615) (by decide +kernel), List.mem_of_getElem? (i := 823) (by decide +kernel), List.mem_of_getElem? (i := 824) (by decide +kernel)⟩
theorem lw_p24 : lw_okq (⟨"LieForceModel", "police", "()I"⟩, 21) := ⟨⟨by decide +kernel, by decide +kernel⟩, List.mem_of_getElem? (i := 615) (by decide +kernel), List.mem_of_getElem? (i := 827) (by decide +kernel), List.mem_of_getElem? (i := 828) (by decide +kernel)⟩
theorem lw_p25 : lw_okq (⟨"LieForceModel", "findWorlds", "()V"⟩, 21) := ⟨⟨by decide +kernel, by decide +kernel⟩, List.mem_of_getElem? (i := 615) (by decide +kernel), List.mem_of_getElem? (i := 854) (by decide +kernel), List.mem_of_getElem? (i := 855) (by decide +kernel)⟩
theorem lw_p26 : lw_okq (⟨"LieForceModel", "standing", "()I"⟩, 21) := ⟨⟨by decide +kernel, by decide +kernel⟩, List.mem_of_getElem? (i := 615) (by decide +kernel), List.mem_of_getElem? (i := 858) (by decide +kernel), List.mem_of_getElem? (i := 859) (by decide +kernel)⟩
theorem lw_p27 : lw_okq (⟨"LieForceModel", "couldAll", "(I)Z"⟩, 21) := ⟨⟨by decide +kernel, by decide +kernel⟩, List.mem_of_getElem? (i := 615) (by decide +kernel), List.mem_of_getElem? (i := 862) (by decide +kernel), List.mem_of_getElem? (i := 863) (by decide +kernel)⟩
theorem lw_p28 : lw_okq (⟨"LieForceModel", "pairsFrom", "(III)I"⟩, 21) := ⟨⟨by decide +kernel, by decide +kernel⟩, List.mem_of_getElem? (i := 615) (by decide +kernel), List.mem_of_getElem? (i := 878) (by decide +kernel), List.mem_of_getElem? (i := 879) (by decide +kernel)⟩
theorem lw_p29 : lw_okq (⟨"LieForceModel", "isWorld", "(I)Z"⟩, 21) := ⟨⟨by decide +kernel, by decide +kernel⟩, List.mem_of_getElem? (i := 615) (by decide +kernel), List.mem_of_getElem? (i := 898) (by decide +kernel), List.mem_of_getElem? (i := 899) (by decide +kernel)⟩
theorem lw_p30 : lw_okq (⟨"LieForceModel", "liarsIn", "(I)I"⟩, 21) := ⟨⟨by decide +kernel, by decide +kernel⟩, List.mem_of_getElem? (i := 615) (by decide +kernel), List.mem_of_getElem? (i := 910) (by decide +kernel), List.mem_of_getElem? (i := 911) (by decide +kernel)⟩
theorem lw_p31 : lw_okq (⟨"LieForceModel", "longServed", "()I"⟩, 21) := ⟨⟨by decide +kernel, by decide +kernel⟩, List.mem_of_getElem? (i := 615) (by decide +kernel), List.mem_of_getElem? (i := 938) (by decide +kernel), List.mem_of_getElem? (i := 939) (by decide +kernel)⟩
def lw_privs_2 : List (MethodName × Nat) := [(⟨"LieForceModel", "readTermOf", "()Z"⟩, 21), (⟨"LieForceModel", "isSaying", "(I)Z"⟩, 21), (⟨"LieForceModel", "asItIs", "()V"⟩, 21), (⟨"LieForceModel", "doClash", "(II)Z"⟩, 21), (⟨"LieForceModel", "remembers", "()V"⟩, 21), (⟨"LieForceModel", "goes", "()V"⟩, 21), (⟨"LieForceModel", "canBeWithdrawn", "(I)Z"⟩, 21), (⟨"LieForceModel", "withdraws", "(I)V"⟩, 21), (⟨"LieForceModel", "police", "()I"⟩, 21), (⟨"LieForceModel", "findWorlds", "()V"⟩, 21), (⟨"LieForceModel", "standing", "()I"⟩, 21), (⟨"LieForceModel", "couldAll", "(I)Z"⟩, 21), (⟨"LieForceModel", "pairsFrom", "(III)I"⟩, 21), (⟨"LieForceModel", "isWorld", "(I)Z"⟩, 21), (⟨"LieForceModel", "liarsIn", "(I)I"⟩, 21), (⟨"LieForceModel", "longServed", "()I"⟩, 21)]
theorem lw_r2 : ∀ q ∈ lw_privs_2, lw_okq q := List.forall_mem_cons.mpr ⟨lw_p16, List.forall_mem_cons.mpr ⟨lw_p17, List.forall_mem_cons.mpr ⟨lw_p18, List.forall_mem_cons.mpr ⟨lw_p19, List.forall_mem_cons.mpr ⟨lw_p20, List.forall_mem_cons.mpr ⟨lw_p21, List.forall_mem_cons.mpr ⟨lw_p22, List.forall_mem_cons.mpr ⟨lw_p23, List.forall_mem_cons.mpr ⟨lw_p24, List.forall_mem_cons.mpr ⟨lw_p25, List.forall_mem_cons.mpr ⟨lw_p26, List.forall_mem_cons.mpr ⟨lw_p27, List.forall_mem_cons.mpr ⟨lw_p28, List.forall_mem_cons.mpr ⟨lw_p29, List.forall_mem_cons.mpr ⟨lw_p30, List.forall_mem_cons.mpr ⟨lw_p31, fun _ h => absurd h List.not_mem_nil⟩⟩⟩⟩⟩⟩⟩⟩⟩⟩⟩⟩⟩⟩⟩⟩
def lw_privs : List (MethodName × Nat) := lw_privs_1 ++ (lw_privs_2)
def lw_tbl : List Cond := k2_sels lw_privs ++ tables_1
theorem lw_privs_ok : ∀ q ∈ lw_privs, lw_okq q := by
  show ∀ q ∈ lw_privs_1 ++ (lw_privs_2), lw_okq q
  exact List.forall_mem_append.mpr ⟨lw_r1, lw_r2⟩
end
section
/-! ===== BEGIN words of one list among another's, by their places ===== -/
theorem goodIn_r {big : List Cond} (ws : List Cond) (ps : List Nat) (hp : ws = ps.filterMap (fun i => big[i]?)) (h : ws.all goodWord = true) : GoodIn big ws := by
  intro w hw
  have h1 := List.all_eq_true.mp h w hw
  rw [hp] at hw
  obtain ⟨i, -, hi⟩ := List.mem_filterMap.mp hw
  have hm : w ∈ big := by first | exact List.mem_of_getElem? hi | exact List.getElem?_mem hi
  exact ⟨hm, good_of_word h1⟩
theorem goodIn_app {big a b : List Cond} (ha : GoodIn big a) (hb : GoodIn big b) : GoodIn big (a ++ b) := fun w h => (List.mem_append.mp h).elim (ha w) (hb w)
theorem goodIn_ca {big a b : List Cond} {c : Cond} (ha : GoodIn big (c :: a)) (hb : GoodIn big b) : GoodIn big (c :: (a ++ b)) := fun w h => (List.mem_cons.mp h).elim (fun e => ha w (List.mem_cons.mpr (Or.inl e))) (fun h => (List.mem_append.mp h).elim (fun h => ha w (List.mem_cons.mpr (Or.inr h))) (hb w))
theorem goodIn_sub {big ws : List Cond} (hm : ∀ w ∈ ws, w ∈ big) (h : ws.all goodWord = true) : GoodIn big ws := fun w hw => ⟨hm w hw, good_of_word (List.all_eq_true.mp h w hw)⟩
/-! ===== END ===== -/

/-! ===== BEGIN printed: names, fields, word lists, decode rows ===== -/
def RX0 : String := "LieForce$Force"
def TX0 : u_T := fun k => match k with
  | 0 => ("LieForce$Force", "facts", "I", false)
  | 1 => ("LieForce$Force", "sayings", "I", false)
  | 2 => ("LieForce$Force", "withdrawn", "I", false)
  | 3 => ("LieForce$Force", "days", "I", false)
  | 4 => ("LieForce$Force", "term", "I", false)
  | 5 => ("LieForce$Force", "kinds", "[I", true)
  | 6 => ("LieForce$Force", "firsts", "[I", true)
  | 7 => ("LieForce$Force", "seconds", "[I", true)
  | 8 => ("LieForce$Force", "persons", "[I", true)
  | 9 => ("LieForce$Force", "served", "[I", true)
  | _ => ("LieForce$Force", "soWorlds", "[J", true)
def tyX0 : Nat → FieldType := fun k => match k with
  | 0 => .int
  | 1 => .int
  | 2 => .int
  | 3 => .int
  | 4 => .int
  | 5 => .array .int
  | 6 => .array .int
  | 7 => .array .int
  | 8 => .array .int
  | 9 => .array .int
  | _ => .array .long
abbrev wsX00 : List Cond := u_ws RX0 TX0 11
theorem nmX0 : ∀ a, a < 11 → ∀ b, b < 11 → a ≠ b → (TX0 a).2.1 ≠ (TX0 b).2.1 := by decide +kernel
theorem tyX0_ok : ∀ k, k < 11 → parseFieldDescriptor (TX0 k).2.2.1 = some (tyX0 k) := by decide +kernel
abbrev cX0_init : ByteArray := prog_2_method_1_code
def yX0_init : MethodName := ⟨RX0, "<init>", "()V"⟩
abbrev cX0_empty : ByteArray := prog_2_method_2_code
def yX0_empty : MethodName := ⟨RX0, "empty", "()V"⟩
abbrev cX0_copy : ByteArray := prog_2_method_3_code
def yX0_copy : MethodName := ⟨RX0, "copy", "(LLieForce$Force;)V"⟩
abbrev cX0_addSaying : ByteArray := prog_2_method_4_code
def yX0_addSaying : MethodName := ⟨RX0, "addSaying", "(IIII)I"⟩
abbrev cX0_isThere : ByteArray := prog_2_method_5_code
def yX0_isThere : MethodName := ⟨RX0, "isThere", "(I)Z"⟩
abbrev cX0_isWithdrawn : ByteArray := prog_2_method_6_code
def yX0_isWithdrawn : MethodName := ⟨RX0, "isWithdrawn", "(I)Z"⟩
abbrev cX0_isSoIn : ByteArray := prog_2_method_7_code
def yX0_isSoIn : MethodName := ⟨RX0, "isSoIn", "(II)Z"⟩
abbrev cX0_hasPoliceman : ByteArray := prog_2_method_8_code
def yX0_hasPoliceman : MethodName := ⟨RX0, "hasPoliceman", "(I)Z"⟩
abbrev cX0_hasServed : ByteArray := prog_2_method_9_code
def yX0_hasServed : MethodName := ⟨RX0, "hasServed", "(I)Z"⟩
abbrev cX0_canBeWithdrawn : ByteArray := prog_2_method_10_code
def yX0_canBeWithdrawn : MethodName := ⟨RX0, "canBeWithdrawn", "(I)Z"⟩
abbrev cX0_areClashing : ByteArray := prog_2_method_11_code
def yX0_areClashing : MethodName := ⟨RX0, "areClashing", "(II)Z"⟩
abbrev cX0_mayMarry : ByteArray := prog_2_method_12_code
def yX0_mayMarry : MethodName := ⟨RX0, "mayMarry", "(II)Z"⟩
abbrev cX0_standing : ByteArray := prog_2_method_13_code
def yX0_standing : MethodName := ⟨RX0, "standing", "()I"⟩
abbrev cX0_liesIn : ByteArray := prog_2_method_14_code
def yX0_liesIn : MethodName := ⟨RX0, "liesIn", "(I)I"⟩
abbrev cX0_soAtOnce : ByteArray := prog_2_method_15_code
def yX0_soAtOnce : MethodName := ⟨RX0, "soAtOnce", "(I)I"⟩
abbrev cX0_liarsIn : ByteArray := prog_2_method_16_code
def yX0_liarsIn : MethodName := ⟨RX0, "liarsIn", "(I)I"⟩
abbrev cX0_policedWorlds : ByteArray := prog_2_method_17_code
def yX0_policedWorlds : MethodName := ⟨RX0, "policedWorlds", "(I)J"⟩
abbrev cX0_policemen : ByteArray := prog_2_method_18_code
def yX0_policemen : MethodName := ⟨RX0, "policemen", "()I"⟩
abbrev cX0_policemenWhoServed : ByteArray := prog_2_method_19_code
def yX0_policemenWhoServed : MethodName := ⟨RX0, "policemenWhoServed", "()I"⟩
abbrev cX0_takeOut : ByteArray := prog_2_method_20_code
def yX0_takeOut : MethodName := ⟨RX0, "takeOut", "(I)V"⟩
abbrev cX0_turnFact : ByteArray := prog_2_method_21_code
def yX0_turnFact : MethodName := ⟨RX0, "turnFact", "(I)V"⟩
abbrev cX0_serveDay : ByteArray := prog_2_method_22_code
def yX0_serveDay : MethodName := ⟨RX0, "serveDay", "()V"⟩
abbrev cX0_mateOf : ByteArray := prog_2_method_23_code
def yX0_mateOf : MethodName := ⟨RX0, "mateOf", "(I)I"⟩
abbrev cX0_firstToFall : ByteArray := prog_2_method_24_code
def yX0_firstToFall : MethodName := ⟨RX0, "firstToFall", "()I"⟩
abbrev cX0_passDay : ByteArray := prog_2_method_25_code
def yX0_passDay : MethodName := ⟨RX0, "passDay", "()I"⟩
abbrev cX0_takeDraw : ByteArray := prog_2_method_26_code
def yX0_takeDraw : MethodName := ⟨RX0, "takeDraw", "(I)V"⟩
abbrev cX0_couldAllBeSo : ByteArray := prog_2_method_27_code
def yX0_couldAllBeSo : MethodName := ⟨RX0, "couldAllBeSo", "(I)Z"⟩
abbrev cX0_lowestCore : ByteArray := prog_2_method_28_code
def yX0_lowestCore : MethodName := ⟨RX0, "lowestCore", "()I"⟩
abbrev cX0_lowestCut : ByteArray := prog_2_method_29_code
def yX0_lowestCut : MethodName := ⟨RX0, "lowestCut", "()I"⟩
abbrev cX0_mostPairs : ByteArray := prog_2_method_30_code
def yX0_mostPairs : MethodName := ⟨RX0, "mostPairs", "(II)I"⟩
def RX1 : String := "LieForce$Game"
def TX1 : u_T := fun k => match k with
  | 0 => ("LieForce$Game", "behindTurn", "[I", true)
  | _ => ("LieForce$Game", "best", "[I", true)
def tyX1 : Nat → FieldType := fun k => match k with
  | 0 => .array .int
  | _ => .array .int
abbrev wsX10 : List Cond := u_ws RX1 TX1 2
theorem nmX1 : ∀ a, a < 2 → ∀ b, b < 2 → a ≠ b → (TX1 a).2.1 ≠ (TX1 b).2.1 := by decide +kernel
theorem tyX1_ok : ∀ k, k < 2 → parseFieldDescriptor (TX1 k).2.2.1 = some (tyX1 k) := by decide +kernel
abbrev cX1_init : ByteArray := prog_3_method_1_code
def yX1_init : MethodName := ⟨RX1, "<init>", "()V"⟩
abbrev cX1_lookAhead : ByteArray := prog_3_method_2_code
def yX1_lookAhead : MethodName := ⟨RX1, "lookAhead", "(LLieForce$Force;I)V"⟩
abbrev cX1_bestOf : ByteArray := prog_3_method_3_code
def yX1_bestOf : MethodName := ⟨RX1, "bestOf", "(IZ)I"⟩
abbrev cX1_worth : ByteArray := prog_3_method_4_code
def yX1_worth : MethodName := ⟨RX1, "worth", "(I)I"⟩
abbrev cX1_outcome : ByteArray := prog_3_method_5_code
def yX1_outcome : MethodName := ⟨RX1, "outcome", "(I)I"⟩
abbrev cX1_firstMove : ByteArray := prog_3_method_6_code
def yX1_firstMove : MethodName := ⟨RX1, "firstMove", "(I)I"⟩
def RX2 : String := "LieForce$Pile"
def TX2 : u_T := fun k => match k with
  | 0 => ("LieForce$Pile", "stood", "[LLieForce$Force;", true)
  | _ => ("LieForce$Pile", "size", "I", false)
def tyX2 : Nat → FieldType := fun k => match k with
  | 0 => .array (.object "LieForce$Force")
  | _ => .int
abbrev wsX20 : List Cond := u_ws RX2 TX2 2
theorem nmX2 : ∀ a, a < 2 → ∀ b, b < 2 → a ≠ b → (TX2 a).2.1 ≠ (TX2 b).2.1 := by decide +kernel
theorem tyX2_ok : ∀ k, k < 2 → parseFieldDescriptor (TX2 k).2.2.1 = some (tyX2 k) := by decide +kernel
abbrev cX2_init : ByteArray := prog_4_method_1_code
def yX2_init : MethodName := ⟨RX2, "<init>", "(I)V"⟩
abbrev cX2_clear : ByteArray := prog_4_method_2_code
def yX2_clear : MethodName := ⟨RX2, "clear", "()V"⟩
abbrev cX2_add : ByteArray := prog_4_method_3_code
def yX2_add : MethodName := ⟨RX2, "add", "(LLieForce$Force;)V"⟩
abbrev cX2_dropOldest : ByteArray := prog_4_method_4_code
def yX2_dropOldest : MethodName := ⟨RX2, "dropOldest", "()V"⟩
abbrev cX2_takeLast : ByteArray := prog_4_method_5_code
def yX2_takeLast : MethodName := ⟨RX2, "takeLast", "(LLieForce$Force;)Z"⟩
def RX3 : String := "LieForce$Reader"
def TX3 : u_T := fun k => match k with
  | _ => ("LieForce$Reader", "numbers", "[I", true)
def tyX3 : Nat → FieldType := fun k => match k with
  | _ => .array .int
abbrev wsX30 : List Cond := u_ws RX3 TX3 1
theorem nmX3 : ∀ a, a < 1 → ∀ b, b < 1 → a ≠ b → (TX3 a).2.1 ≠ (TX3 b).2.1 := by decide +kernel
theorem tyX3_ok : ∀ k, k < 1 → parseFieldDescriptor (TX3 k).2.2.1 = some (tyX3 k) := by decide +kernel
abbrev cX3_init : ByteArray := prog_5_method_1_code
def yX3_init : MethodName := ⟨RX3, "<init>", "()V"⟩
abbrev cX3_read : ByteArray := prog_5_method_2_code
def yX3_read : MethodName := ⟨RX3, "read", "([CILLieForce$Force;)I"⟩
abbrev cX3_readNumbers : ByteArray := prog_5_method_3_code
def yX3_readNumbers : MethodName := ⟨RX3, "readNumbers", "([CIII)I"⟩
abbrev cX3_numbersOf : ByteArray := prog_5_method_4_code
def yX3_numbersOf : MethodName := ⟨RX3, "numbersOf", "(I)I"⟩
abbrev cX3_letterAt : ByteArray := prog_5_method_5_code
def yX3_letterAt : MethodName := ⟨RX3, "letterAt", "([CII)I"⟩
abbrev cX3_isFigure : ByteArray := prog_5_method_6_code
def yX3_isFigure : MethodName := ⟨RX3, "isFigure", "(I)Z"⟩
abbrev cX3_figuresAt : ByteArray := prog_5_method_7_code
def yX3_figuresAt : MethodName := ⟨RX3, "figuresAt", "([CII)I"⟩
abbrev cX3_numberOf : ByteArray := prog_5_method_8_code
def yX3_numberOf : MethodName := ⟨RX3, "numberOf", "([CIII)I"⟩
abbrev cX3_putItem : ByteArray := prog_5_method_9_code
def yX3_putItem : MethodName := ⟨RX3, "putItem", "(ILLieForce$Force;)Z"⟩
def RX4 : String := "LieForce$Sight"
def TX4 : u_T := fun k => match k with
  | 0 => ("LieForce$Sight", "seen", "[I", true)
  | 1 => ("LieForce$Sight", "has", "[Z", true)
  | _ => ("LieForce$Sight", "size", "I", false)
def tyX4 : Nat → FieldType := fun k => match k with
  | 0 => .array .int
  | 1 => .array .boolean
  | _ => .int
abbrev wsX40 : List Cond := u_ws RX4 TX4 3
theorem nmX4 : ∀ a, a < 3 → ∀ b, b < 3 → a ≠ b → (TX4 a).2.1 ≠ (TX4 b).2.1 := by decide +kernel
theorem tyX4_ok : ∀ k, k < 3 → parseFieldDescriptor (TX4 k).2.2.1 = some (tyX4 k) := by decide +kernel
abbrev cX4_init : ByteArray := prog_6_method_1_code
def yX4_init : MethodName := ⟨RX4, "<init>", "()V"⟩
abbrev cX4_clear : ByteArray := prog_6_method_2_code
def yX4_clear : MethodName := ⟨RX4, "clear", "()V"⟩
abbrev cX4_add : ByteArray := prog_6_method_3_code
def yX4_add : MethodName := ⟨RX4, "add", "(IZ)I"⟩
abbrev cX4_worldsAsSeen : ByteArray := prog_6_method_4_code
def yX4_worldsAsSeen : MethodName := ⟨RX4, "worldsAsSeen", "(LLieForce$Force;)J"⟩
def RX5 : String := "LieForce"
def TX5 : u_T := fun k => match k with
  | 0 => ("LieForce", "letters", "[C", true)
  | 1 => ("LieForce", "length", "I", false)
  | 2 => ("LieForce", "reader", "LLieForce$Reader;", true)
  | 3 => ("LieForce", "now", "LLieForce$Force;", true)
  | 4 => ("LieForce", "ahead", "LLieForce$Force;", true)
  | 5 => ("LieForce", "undoable", "LLieForce$Pile;", true)
  | 6 => ("LieForce", "kept", "LLieForce$Pile;", true)
  | 7 => ("LieForce", "sight", "LLieForce$Sight;", true)
  | _ => ("LieForce", "game", "LLieForce$Game;", true)
def tyX5 : Nat → FieldType := fun k => match k with
  | 0 => .array .char
  | 1 => .int
  | 2 => .object "LieForce$Reader"
  | 3 => .object "LieForce$Force"
  | 4 => .object "LieForce$Force"
  | 5 => .object "LieForce$Pile"
  | 6 => .object "LieForce$Pile"
  | 7 => .object "LieForce$Sight"
  | _ => .object "LieForce$Game"
abbrev wsX50 : List Cond := u_ws RX5 TX5 9
theorem nmX5 : ∀ a, a < 9 → ∀ b, b < 9 → a ≠ b → (TX5 a).2.1 ≠ (TX5 b).2.1 := by decide +kernel
theorem tyX5_ok : ∀ k, k < 9 → parseFieldDescriptor (TX5 k).2.2.1 = some (tyX5 k) := by decide +kernel
abbrev cX5_init : ByteArray := prog_1_method_1_code
def yX5_init : MethodName := ⟨RX5, "<init>", "()V"⟩
abbrev cX5_firstForce : ByteArray := prog_1_method_2_code
def yX5_firstForce : MethodName := ⟨RX5, "firstForce", "()LLieForce$Force;"⟩
abbrev cX5_write : ByteArray := prog_1_method_3_code
def yX5_write : MethodName := ⟨RX5, "write", "(I)I"⟩
abbrev cX5_wipe : ByteArray := prog_1_method_4_code
def yX5_wipe : MethodName := ⟨RX5, "wipe", "()I"⟩
abbrev cX5_fault : ByteArray := prog_1_method_5_code
def yX5_fault : MethodName := ⟨RX5, "fault", "()I"⟩
abbrev cX5_lay : ByteArray := prog_1_method_6_code
def yX5_lay : MethodName := ⟨RX5, "lay", "()I"⟩
abbrev cX5_saying : ByteArray := prog_1_method_7_code
def yX5_saying : MethodName := ⟨RX5, "saying", "(II)I"⟩
abbrev cX5_fact : ByteArray := prog_1_method_8_code
def yX5_fact : MethodName := ⟨RX5, "fact", "(I)I"⟩
abbrev cX5_clash : ByteArray := prog_1_method_9_code
def yX5_clash : MethodName := ⟨RX5, "clash", "(II)I"⟩
abbrev cX5_pass : ByteArray := prog_1_method_10_code
def yX5_pass : MethodName := ⟨RX5, "pass", "(I)I"⟩
abbrev cX5_say : ByteArray := prog_1_method_11_code
def yX5_say : MethodName := ⟨RX5, "say", "(IIII)I"⟩
abbrev cX5_withdraw : ByteArray := prog_1_method_12_code
def yX5_withdraw : MethodName := ⟨RX5, "withdraw", "(I)I"⟩
abbrev cX5_turn : ByteArray := prog_1_method_13_code
def yX5_turn : MethodName := ⟨RX5, "turn", "(I)I"⟩
abbrev cX5_undo : ByteArray := prog_1_method_14_code
def yX5_undo : MethodName := ⟨RX5, "undo", "()I"⟩
abbrev cX5_behind : ByteArray := prog_1_method_15_code
def yX5_behind : MethodName := ⟨RX5, "behind", "(I)I"⟩
abbrev cX5_fall : ByteArray := prog_1_method_16_code
def yX5_fall : MethodName := ⟨RX5, "fall", "(I)I"⟩
abbrev cX5_core : ByteArray := prog_1_method_17_code
def yX5_core : MethodName := ⟨RX5, "core", "()I"⟩
abbrev cX5_cut : ByteArray := prog_1_method_18_code
def yX5_cut : MethodName := ⟨RX5, "cut", "()I"⟩
abbrev cX5_truest : ByteArray := prog_1_method_19_code
def yX5_truest : MethodName := ⟨RX5, "truest", "(I)I"⟩
abbrev cX5_married : ByteArray := prog_1_method_20_code
def yX5_married : MethodName := ⟨RX5, "married", "()I"⟩
abbrev cX5_trial : ByteArray := prog_1_method_21_code
def yX5_trial : MethodName := ⟨RX5, "trial", "(II)I"⟩
abbrev cX5_see : ByteArray := prog_1_method_22_code
def yX5_see : MethodName := ⟨RX5, "see", "(IZ)I"⟩
abbrev cX5_forget : ByteArray := prog_1_method_23_code
def yX5_forget : MethodName := ⟨RX5, "forget", "()I"⟩
abbrev cX5_worlds : ByteArray := prog_1_method_24_code
def yX5_worlds : MethodName := ⟨RX5, "worlds", "(I)I"⟩
abbrev cX5_must : ByteArray := prog_1_method_25_code
def yX5_must : MethodName := ⟨RX5, "must", "(I)I"⟩
abbrev cX5_liars : ByteArray := prog_1_method_26_code
def yX5_liars : MethodName := ⟨RX5, "liars", "(I)I"⟩
abbrev cX5_chance : ByteArray := prog_1_method_27_code
def yX5_chance : MethodName := ⟨RX5, "chance", "(III)I"⟩
abbrev cX5_year : ByteArray := prog_1_method_28_code
def yX5_year : MethodName := ⟨RX5, "year", "(III)I"⟩
abbrev cX5_keep : ByteArray := prog_1_method_29_code
def yX5_keep : MethodName := ⟨RX5, "keep", "()I"⟩
abbrev cX5_back : ByteArray := prog_1_method_30_code
def yX5_back : MethodName := ⟨RX5, "back", "()I"⟩
abbrev cX5_count : ByteArray := prog_1_method_31_code
def yX5_count : MethodName := ⟨RX5, "count", "(I)I"⟩
abbrev cX5_isWithin : ByteArray := prog_1_method_32_code
def yX5_isWithin : MethodName := ⟨RX5, "isWithin", "(III)Z"⟩
abbrev cX5_isFact : ByteArray := prog_1_method_33_code
def yX5_isFact : MethodName := ⟨RX5, "isFact", "(I)Z"⟩
abbrev cX5_isLiteral : ByteArray := prog_1_method_34_code
def yX5_isLiteral : MethodName := ⟨RX5, "isLiteral", "(I)Z"⟩
abbrev cX5_isSaying : ByteArray := prog_1_method_35_code
def yX5_isSaying : MethodName := ⟨RX5, "isSaying", "(IIII)Z"⟩
abbrev cX5_asNumber : ByteArray := prog_1_method_36_code
def yX5_asNumber : MethodName := ⟨RX5, "asNumber", "(Z)I"⟩
abbrev cX5_isBitOf : ByteArray := prog_1_method_37_code
def yX5_isBitOf : MethodName := ⟨RX5, "isBitOf", "(II)Z"⟩
abbrev cX5_power : ByteArray := prog_1_method_38_code
def yX5_power : MethodName := ⟨RX5, "power", "(II)I"⟩
abbrev cX5_waysToTurn : ByteArray := prog_1_method_39_code
def yX5_waysToTurn : MethodName := ⟨RX5, "waysToTurn", "(II)I"⟩
abbrev cX5_commonDivisor : ByteArray := prog_1_method_40_code
def yX5_commonDivisor : MethodName := ⟨RX5, "commonDivisor", "(II)I"⟩
abbrev cX5_draw : ByteArray := prog_1_method_41_code
def yX5_draw : MethodName := ⟨RX5, "draw", "(II)I"⟩
abbrev cX5_worldsOfLiteral : ByteArray := prog_1_method_42_code
def yX5_worldsOfLiteral : MethodName := ⟨RX5, "worldsOfLiteral", "(I)J"⟩
abbrev cX5_worldsOfSaying : ByteArray := prog_1_method_43_code
def yX5_worldsOfSaying : MethodName := ⟨RX5, "worldsOfSaying", "(III)J"⟩
abbrev cX5_isAmong : ByteArray := prog_1_method_44_code
def yX5_isAmong : MethodName := ⟨RX5, "isAmong", "(JI)Z"⟩
abbrev cX5_lowestWorld : ByteArray := prog_1_method_45_code
def yX5_lowestWorld : MethodName := ⟨RX5, "lowestWorld", "(J)I"⟩
def RX6 : String := "LieForceModel"
def TX6 : u_T := fun k => match k with
  | 0 => ("LieForceModel", "term", "I", false)
  | 1 => ("LieForceModel", "st", "[I", true)
  | 2 => ("LieForceModel", "acts", "I", false)
  | 3 => ("LieForceModel", "was", "[I", true)
  | 4 => ("LieForceModel", "keeps", "I", false)
  | 5 => ("LieForceModel", "kept", "[I", true)
  | 6 => ("LieForceModel", "sees", "I", false)
  | 7 => ("LieForceModel", "seen", "[I", true)
  | 8 => ("LieForceModel", "text", "[I", true)
  | 9 => ("LieForceModel", "texted", "I", false)
  | 10 => ("LieForceModel", "at", "I", false)
  | 11 => ("LieForceModel", "told", "[I", true)
  | 12 => ("LieForceModel", "read", "[I", true)
  | 13 => ("LieForceModel", "readTerm", "I", false)
  | 14 => ("LieForceModel", "now", "[I", true)
  | 15 => ("LieForceModel", "firstFallen", "I", false)
  | 16 => ("LieForceModel", "fallen", "I", false)
  | 17 => ("LieForceModel", "so", "[I", true)
  | 18 => ("LieForceModel", "pairs", "[I", true)
  | 19 => ("LieForceModel", "ends", "[I", true)
  | _ => ("LieForceModel", "next", "[I", true)
def tyX6 : Nat → FieldType := fun k => match k with
  | 0 => .int
  | 1 => .array .int
  | 2 => .int
  | 3 => .array .int
  | 4 => .int
  | 5 => .array .int
  | 6 => .int
  | 7 => .array .int
  | 8 => .array .int
  | 9 => .int
  | 10 => .int
  | 11 => .array .int
  | 12 => .array .int
  | 13 => .int
  | 14 => .array .int
  | 15 => .int
  | 16 => .int
  | 17 => .array .int
  | 18 => .array .int
  | 19 => .array .int
  | _ => .array .int
abbrev wsX60 : List Cond := u_ws RX6 TX6 21
theorem nmX6 : ∀ a, a < 21 → ∀ b, b < 21 → a ≠ b → (TX6 a).2.1 ≠ (TX6 b).2.1 := by decide +kernel
theorem tyX6_ok : ∀ k, k < 21 → parseFieldDescriptor (TX6 k).2.2.1 = some (tyX6 k) := by decide +kernel
abbrev cX6_init : ByteArray := prog_8_method_1_code
def yX6_init : MethodName := ⟨RX6, "<init>", "()V"⟩
abbrev cX6_tellsSaying : ByteArray := prog_8_method_3_code
def yX6_tellsSaying : MethodName := ⟨RX6, "tellsSaying", "(IIII)V"⟩
abbrev cX6_puts : ByteArray := prog_8_method_4_code
def yX6_puts : MethodName := ⟨RX6, "puts", "([IIIII)V"⟩
abbrev cX6_in : ByteArray := prog_8_method_5_code
def yX6_in : MethodName := ⟨RX6, "in", "(III)Z"⟩
abbrev cX6_has : ByteArray := prog_8_method_6_code
def yX6_has : MethodName := ⟨RX6, "has", "(II)Z"⟩
abbrev cX6_bits : ByteArray := prog_8_method_7_code
def yX6_bits : MethodName := ⟨RX6, "bits", "(I)I"⟩
abbrev cX6_isSaying : ByteArray := prog_8_method_8_code
def yX6_isSaying : MethodName := ⟨RX6, "isSaying", "(I)Z"⟩
abbrev cX6_isFact : ByteArray := prog_8_method_9_code
def yX6_isFact : MethodName := ⟨RX6, "isFact", "(I)Z"⟩
abbrev cX6_write : ByteArray := prog_8_method_10_code
def yX6_write : MethodName := ⟨RX6, "write", "(I)I"⟩
abbrev cX6_wipe : ByteArray := prog_8_method_11_code
def yX6_wipe : MethodName := ⟨RX6, "wipe", "()I"⟩
abbrev cX6_letterAt : ByteArray := prog_8_method_12_code
def yX6_letterAt : MethodName := ⟨RX6, "letterAt", "(I)I"⟩
abbrev cX6_isFigure : ByteArray := prog_8_method_13_code
def yX6_isFigure : MethodName := ⟨RX6, "isFigure", "(I)Z"⟩
abbrev cX6_readNumbers : ByteArray := prog_8_method_14_code
def yX6_readNumbers : MethodName := ⟨RX6, "readNumbers", "(I)Z"⟩
abbrev cX6_isTold : ByteArray := prog_8_method_15_code
def yX6_isTold : MethodName := ⟨RX6, "isTold", "(III)Z"⟩
abbrev cX6_clearTold : ByteArray := prog_8_method_16_code
def yX6_clearTold : MethodName := ⟨RX6, "clearTold", "()V"⟩
abbrev cX6_readFactOf : ByteArray := prog_8_method_17_code
def yX6_readFactOf : MethodName := ⟨RX6, "readFactOf", "()Z"⟩
abbrev cX6_readSayingOf : ByteArray := prog_8_method_18_code
def yX6_readSayingOf : MethodName := ⟨RX6, "readSayingOf", "()Z"⟩
abbrev cX6_readTermOf : ByteArray := prog_8_method_19_code
def yX6_readTermOf : MethodName := ⟨RX6, "readTermOf", "()Z"⟩
abbrev cX6_readItem : ByteArray := prog_8_method_20_code
def yX6_readItem : MethodName := ⟨RX6, "readItem", "()Z"⟩
abbrev cX6_fault : ByteArray := prog_8_method_21_code
def yX6_fault : MethodName := ⟨RX6, "fault", "()I"⟩
abbrev cX6_lay : ByteArray := prog_8_method_22_code
def yX6_lay : MethodName := ⟨RX6, "lay", "()I"⟩
abbrev cX6_copies : ByteArray := prog_8_method_23_code
def yX6_copies : MethodName := ⟨RX6, "copies", "([II[II)V"⟩
abbrev cX6_settles : ByteArray := prog_8_method_24_code
def yX6_settles : MethodName := ⟨RX6, "settles", "()V"⟩
abbrev cX6_asItIs : ByteArray := prog_8_method_25_code
def yX6_asItIs : MethodName := ⟨RX6, "asItIs", "()V"⟩
abbrev cX6_isTrue : ByteArray := prog_8_method_26_code
def yX6_isTrue : MethodName := ⟨RX6, "isTrue", "(II)Z"⟩
abbrev cX6_isSo : ByteArray := prog_8_method_27_code
def yX6_isSo : MethodName := ⟨RX6, "isSo", "(II)Z"⟩
abbrev cX6_policeIn : ByteArray := prog_8_method_28_code
def yX6_policeIn : MethodName := ⟨RX6, "policeIn", "(I)I"⟩
abbrev cX6_standing : ByteArray := prog_8_method_29_code
def yX6_standing : MethodName := ⟨RX6, "standing", "()I"⟩
abbrev cX6_appoints : ByteArray := prog_8_method_30_code
def yX6_appoints : MethodName := ⟨RX6, "appoints", "()V"⟩
abbrev cX6_doClash : ByteArray := prog_8_method_31_code
def yX6_doClash : MethodName := ⟨RX6, "doClash", "(II)Z"⟩
abbrev cX6_goes : ByteArray := prog_8_method_32_code
def yX6_goes : MethodName := ⟨RX6, "goes", "()V"⟩
abbrev cX6_police : ByteArray := prog_8_method_33_code
def yX6_police : MethodName := ⟨RX6, "police", "()I"⟩
abbrev cX6_saying : ByteArray := prog_8_method_34_code
def yX6_saying : MethodName := ⟨RX6, "saying", "(II)I"⟩
abbrev cX6_fact : ByteArray := prog_8_method_35_code
def yX6_fact : MethodName := ⟨RX6, "fact", "(I)I"⟩
abbrev cX6_clash : ByteArray := prog_8_method_36_code
def yX6_clash : MethodName := ⟨RX6, "clash", "(II)I"⟩
abbrev cX6_remembers : ByteArray := prog_8_method_37_code
def yX6_remembers : MethodName := ⟨RX6, "remembers", "()V"⟩
abbrev cX6_pass : ByteArray := prog_8_method_38_code
def yX6_pass : MethodName := ⟨RX6, "pass", "(I)I"⟩
abbrev cX6_say : ByteArray := prog_8_method_39_code
def yX6_say : MethodName := ⟨RX6, "say", "(IIII)I"⟩
abbrev cX6_canBeWithdrawn : ByteArray := prog_8_method_40_code
def yX6_canBeWithdrawn : MethodName := ⟨RX6, "canBeWithdrawn", "(I)Z"⟩
abbrev cX6_withdraws : ByteArray := prog_8_method_41_code
def yX6_withdraws : MethodName := ⟨RX6, "withdraws", "(I)V"⟩
abbrev cX6_withdraw : ByteArray := prog_8_method_42_code
def yX6_withdraw : MethodName := ⟨RX6, "withdraw", "(I)I"⟩
abbrev cX6_turn : ByteArray := prog_8_method_43_code
def yX6_turn : MethodName := ⟨RX6, "turn", "(I)I"⟩
abbrev cX6_undo : ByteArray := prog_8_method_44_code
def yX6_undo : MethodName := ⟨RX6, "undo", "()I"⟩
abbrev cX6_behind : ByteArray := prog_8_method_45_code
def yX6_behind : MethodName := ⟨RX6, "behind", "(I)I"⟩
abbrev cX6_fall : ByteArray := prog_8_method_46_code
def yX6_fall : MethodName := ⟨RX6, "fall", "(I)I"⟩
abbrev cX6_findWorlds : ByteArray := prog_8_method_47_code
def yX6_findWorlds : MethodName := ⟨RX6, "findWorlds", "()V"⟩
abbrev cX6_couldAll : ByteArray := prog_8_method_48_code
def yX6_couldAll : MethodName := ⟨RX6, "couldAll", "(I)Z"⟩
abbrev cX6_core : ByteArray := prog_8_method_49_code
def yX6_core : MethodName := ⟨RX6, "core", "()I"⟩
abbrev cX6_cut : ByteArray := prog_8_method_50_code
def yX6_cut : MethodName := ⟨RX6, "cut", "()I"⟩
abbrev cX6_truest : ByteArray := prog_8_method_51_code
def yX6_truest : MethodName := ⟨RX6, "truest", "(I)I"⟩
abbrev cX6_married : ByteArray := prog_8_method_52_code
def yX6_married : MethodName := ⟨RX6, "married", "()I"⟩
abbrev cX6_pairsFrom : ByteArray := prog_8_method_53_code
def yX6_pairsFrom : MethodName := ⟨RX6, "pairsFrom", "(III)I"⟩
abbrev cX6_trial : ByteArray := prog_8_method_54_code
def yX6_trial : MethodName := ⟨RX6, "trial", "(II)I"⟩
abbrev cX6_see : ByteArray := prog_8_method_55_code
def yX6_see : MethodName := ⟨RX6, "see", "(IZ)I"⟩
abbrev cX6_forget : ByteArray := prog_8_method_56_code
def yX6_forget : MethodName := ⟨RX6, "forget", "()I"⟩
abbrev cX6_isWorld : ByteArray := prog_8_method_57_code
def yX6_isWorld : MethodName := ⟨RX6, "isWorld", "(I)Z"⟩
abbrev cX6_worlds : ByteArray := prog_8_method_58_code
def yX6_worlds : MethodName := ⟨RX6, "worlds", "(I)I"⟩
abbrev cX6_must : ByteArray := prog_8_method_59_code
def yX6_must : MethodName := ⟨RX6, "must", "(I)I"⟩
abbrev cX6_liarsIn : ByteArray := prog_8_method_60_code
def yX6_liarsIn : MethodName := ⟨RX6, "liarsIn", "(I)I"⟩
abbrev cX6_liars : ByteArray := prog_8_method_61_code
def yX6_liars : MethodName := ⟨RX6, "liars", "(I)I"⟩
abbrev cX6_chance : ByteArray := prog_8_method_62_code
def yX6_chance : MethodName := ⟨RX6, "chance", "(III)I"⟩
abbrev cX6_year : ByteArray := prog_8_method_63_code
def yX6_year : MethodName := ⟨RX6, "year", "(III)I"⟩
abbrev cX6_keep : ByteArray := prog_8_method_64_code
def yX6_keep : MethodName := ⟨RX6, "keep", "()I"⟩
abbrev cX6_back : ByteArray := prog_8_method_65_code
def yX6_back : MethodName := ⟨RX6, "back", "()I"⟩
abbrev cX6_longServed : ByteArray := prog_8_method_66_code
def yX6_longServed : MethodName := ⟨RX6, "longServed", "()I"⟩
abbrev cX6_count : ByteArray := prog_8_method_67_code
def yX6_count : MethodName := ⟨RX6, "count", "(I)I"⟩
def RJ6 : String := "java/lang/Integer"
def TJ6 : u_T := fun k => match k with
  | _ => ("", "", "", false)
def tyJ6 : Nat → FieldType := fun k => match k with
  | _ => .int
abbrev wsJ60 : List Cond := u_ws RJ6 TJ6 0
theorem nmJ6 : ∀ a, a < 0 → ∀ b, b < 0 → a ≠ b → (TJ6 a).2.1 ≠ (TJ6 b).2.1 := by decide +kernel
theorem tyJ6_ok : ∀ k, k < 0 → parseFieldDescriptor (TJ6 k).2.2.1 = some (tyJ6 k) := by decide +kernel
abbrev cJ6_bitCount_0f7a4 : ByteArray := prog_9_method_49_code
def yJ6_bitCount_0f7a4 : MethodName := ⟨RJ6, "bitCount", "(I)I"⟩
def RJ13 : String := "java/lang/Long"
def TJ13 : u_T := fun k => match k with
  | _ => ("", "", "", false)
def tyJ13 : Nat → FieldType := fun k => match k with
  | _ => .int
abbrev wsJ130 : List Cond := u_ws RJ13 TJ13 0
theorem nmJ13 : ∀ a, a < 0 → ∀ b, b < 0 → a ≠ b → (TJ13 a).2.1 ≠ (TJ13 b).2.1 := by decide +kernel
theorem tyJ13_ok : ∀ k, k < 0 → parseFieldDescriptor (TJ13 k).2.2.1 = some (tyJ13 k) := by decide +kernel
abbrev cJ13_bitCount_95d88 : ByteArray := prog_10_method_50_code
def yJ13_bitCount_95d88 : MethodName := ⟨RJ13, "bitCount", "(J)I"⟩
def RJ9 : String := "java/lang/Math"
def TJ9 : u_T := fun k => match k with
  | _ => ("", "", "", false)
def tyJ9 : Nat → FieldType := fun k => match k with
  | _ => .int
abbrev wsJ90 : List Cond := u_ws RJ9 TJ9 0
theorem nmJ9 : ∀ a, a < 0 → ∀ b, b < 0 → a ≠ b → (TJ9 a).2.1 ≠ (TJ9 b).2.1 := by decide +kernel
theorem tyJ9_ok : ∀ k, k < 0 → parseFieldDescriptor (TJ9 k).2.2.1 = some (tyJ9 k) := by decide +kernel
abbrev cJ9_max_7cf53 : ByteArray := prog_11_method_65_code
def yJ9_max_7cf53 : MethodName := ⟨RJ9, "max", "(II)I"⟩
abbrev cJ9_min_7cf53 : ByteArray := prog_11_method_69_code
def yJ9_min_7cf53 : MethodName := ⟨RJ9, "min", "(II)I"⟩
def RJ0 : String := "java/lang/String"
def TJ0 : u_T := fun k => match k with
  | _ => ("", "", "", false)
def tyJ0 : Nat → FieldType := fun k => match k with
  | _ => .int
abbrev wsJ00 : List Cond := u_ws RJ0 TJ0 0
theorem nmJ0 : ∀ a, a < 0 → ∀ b, b < 0 → a ≠ b → (TJ0 a).2.1 ≠ (TJ0 b).2.1 := by decide +kernel
theorem tyJ0_ok : ∀ k, k < 0 → parseFieldDescriptor (TJ0 k).2.2.1 = some (tyJ0 k) := by decide +kernel
abbrev cJ0_toCharArray_70df3 : ByteArray := prog_12_method_129_code
def yJ0_toCharArray_70df3 : MethodName := ⟨RJ0, "toCharArray", "()[C"⟩
abbrev cJ0_isLatin1_aae02 : ByteArray := prog_12_method_154_code
def yJ0_isLatin1_aae02 : MethodName := ⟨RJ0, "isLatin1", "()Z"⟩
abbrev cJ0_checkBoundsOffCount_cabcc : ByteArray := prog_12_method_157_code
def yJ0_checkBoundsOffCount_cabcc : MethodName := ⟨RJ0, "checkBoundsOffCount", "(III)I"⟩
def RJ1 : String := "java/lang/StringLatin1"
def TJ1 : u_T := fun k => match k with
  | _ => ("", "", "", false)
def tyJ1 : Nat → FieldType := fun k => match k with
  | _ => .int
abbrev wsJ10 : List Cond := u_ws RJ1 TJ1 0
theorem nmJ1 : ∀ a, a < 0 → ∀ b, b < 0 → a ≠ b → (TJ1 a).2.1 ≠ (TJ1 b).2.1 := by decide +kernel
theorem tyJ1_ok : ∀ k, k < 0 → parseFieldDescriptor (TJ1 k).2.2.1 = some (tyJ1 k) := by decide +kernel
abbrev cJ1_toChars_9d188 : ByteArray := prog_13_method_9_code
def yJ1_toChars_9d188 : MethodName := ⟨RJ1, "toChars", "([B)[C"⟩
abbrev cJ1_inflate_03870 : ByteArray := prog_13_method_49_code
def yJ1_inflate_03870 : MethodName := ⟨RJ1, "inflate", "([BI[CII)V"⟩
def RJ2 : String := "java/lang/StringUTF16"
def TJ2 : u_T := fun k => match k with
  | _ => ("", "", "", false)
def tyJ2 : Nat → FieldType := fun k => match k with
  | _ => .int
abbrev wsJ20 : List Cond := u_ws RJ2 TJ2 0
theorem nmJ2 : ∀ a, a < 0 → ∀ b, b < 0 → a ≠ b → (TJ2 a).2.1 ≠ (TJ2 b).2.1 := by decide +kernel
theorem tyJ2_ok : ∀ k, k < 0 → parseFieldDescriptor (TJ2 k).2.2.1 = some (tyJ2 k) := by decide +kernel
abbrev cJ2_getChar_3b067 : ByteArray := prog_14_method_5_code
def yJ2_getChar_3b067 : MethodName := ⟨RJ2, "getChar", "([BI)C"⟩
abbrev cJ2_length_9d52b : ByteArray := prog_14_method_6_code
def yJ2_length_9d52b : MethodName := ⟨RJ2, "length", "([B)I"⟩
abbrev cJ2_toChars_9d188 : ByteArray := prog_14_method_13_code
def yJ2_toChars_9d188 : MethodName := ⟨RJ2, "toChars", "([B)[C"⟩
abbrev cJ2_getChars_a1a8b : ByteArray := prog_14_method_26_code
def yJ2_getChars_a1a8b : MethodName := ⟨RJ2, "getChars", "([BII[CI)V"⟩
abbrev cJ2_checkBoundsOffCount_d044e : ByteArray := prog_14_method_94_code
def yJ2_checkBoundsOffCount_d044e : MethodName := ⟨RJ2, "checkBoundsOffCount", "(II[B)V"⟩
def RJ3 : String := "jdk/internal/util/Preconditions"
def TJ3 : u_T := fun k => match k with
  | _ => ("", "", "", false)
def tyJ3 : Nat → FieldType := fun k => match k with
  | _ => .int
abbrev wsJ30 : List Cond := u_ws RJ3 TJ3 0
theorem nmJ3 : ∀ a, a < 0 → ∀ b, b < 0 → a ≠ b → (TJ3 a).2.1 ≠ (TJ3 b).2.1 := by decide +kernel
theorem tyJ3_ok : ∀ k, k < 0 → parseFieldDescriptor (TJ3 k).2.2.1 = some (tyJ3 k) := by decide +kernel
abbrev cJ3_checkFromIndexSize_8c36e : ByteArray := prog_15_method_13_code
def yJ3_checkFromIndexSize_8c36e : MethodName := ⟨RJ3, "checkFromIndexSize", "(IIILjava/util/function/BiFunction;)I"⟩
def RL : String := "LieForceLaw"
abbrev cL_law : ByteArray := code
def yL_law : MethodName := ⟨RL, "law", "([I)Z"⟩
def wsX0_init : List Cond := .code yX0_init cX0_init 1 none :: ([.methodLink RX0 3 objectInit, .instanceMethod objectInit, .code objectInit ⟨#[0xb1]⟩ 1 none, .fieldLink RX0 9 "LieForce$Force" "term" "I", .arrayClass .int, .fieldLink RX0 15 "LieForce$Force" "kinds" "[I", .fieldLink RX0 19 "LieForce$Force" "firsts" "[I", .fieldLink RX0 22 "LieForce$Force" "seconds" "[I", .fieldLink RX0 25 "LieForce$Force" "persons" "[I", .fieldLink RX0 28 "LieForce$Force" "served" "[I", .arrayClass .long, .fieldLink RX0 31 "LieForce$Force" "soWorlds" "[J"] ++ wsX00)
def wsX0_empty : List Cond := .code yX0_empty cX0_empty 1 none :: ([.fieldLink RX0 35 "LieForce$Force" "facts" "I", .fieldLink RX0 38 "LieForce$Force" "sayings" "I", .fieldLink RX0 41 "LieForce$Force" "withdrawn" "I", .fieldLink RX0 44 "LieForce$Force" "days" "I", .fieldLink RX0 9 "LieForce$Force" "term" "I"] ++ wsX00)
def wsX0_copy : List Cond := .code yX0_copy cX0_copy 3 none :: ([.fieldLink RX0 35 "LieForce$Force" "facts" "I", .fieldLink RX0 38 "LieForce$Force" "sayings" "I", .fieldLink RX0 41 "LieForce$Force" "withdrawn" "I", .fieldLink RX0 44 "LieForce$Force" "days" "I", .fieldLink RX0 9 "LieForce$Force" "term" "I", .fieldLink RX0 15 "LieForce$Force" "kinds" "[I", .fieldLink RX0 19 "LieForce$Force" "firsts" "[I", .fieldLink RX0 22 "LieForce$Force" "seconds" "[I", .fieldLink RX0 25 "LieForce$Force" "persons" "[I", .fieldLink RX0 28 "LieForce$Force" "served" "[I", .fieldLink RX0 31 "LieForce$Force" "soWorlds" "[J"] ++ wsX00)
def wsX5_worldsOfLiteral : List Cond := .code yX5_worldsOfLiteral cX5_worldsOfLiteral 1 (some .long) :: ([.fieldLink RX5 269 "LieForce" "WORLDS_OF_FACT" "[J", .constantLong RX5 273 (-1)])
def wsX5_worldsOfSaying : List Cond := .code yX5_worldsOfSaying cX5_worldsOfSaying 7 (some .long) :: ([.constantLong RX5 273 (-1), .methodLink RX5 224 yX5_worldsOfLiteral, .static yX5_worldsOfLiteral, .initialized RX5, .code yX5_worldsOfLiteral cX5_worldsOfLiteral 1 (some .long), .fieldLink RX5 269 "LieForce" "WORLDS_OF_FACT" "[J"])
def wsX0_addSaying : List Cond := .code yX0_addSaying cX0_addSaying 6 (some .int) :: ([.fieldLink RX0 38 "LieForce$Force" "sayings" "I", .fieldLink RX0 15 "LieForce$Force" "kinds" "[I", .fieldLink RX0 19 "LieForce$Force" "firsts" "[I", .fieldLink RX0 22 "LieForce$Force" "seconds" "[I", .fieldLink RX0 25 "LieForce$Force" "persons" "[I", .fieldLink RX0 28 "LieForce$Force" "served" "[I", .fieldLink RX0 31 "LieForce$Force" "soWorlds" "[J", .static yX5_worldsOfSaying, .initialized RX5, .code yX5_worldsOfSaying cX5_worldsOfSaying 7 (some .long), .constantLong RX5 273 (-1), .methodLink RX5 224 yX5_worldsOfLiteral, .static yX5_worldsOfLiteral, .code yX5_worldsOfLiteral cX5_worldsOfLiteral 1 (some .long), .fieldLink RX5 269 "LieForce" "WORLDS_OF_FACT" "[J"] ++ wsX00)
def wsX0_isThere : List Cond := .code yX0_isThere cX0_isThere 2 (some .boolean) :: ([.fieldLink RX0 38 "LieForce$Force" "sayings" "I"] ++ wsX00)
def wsX0_isWithdrawn : List Cond := .code yX0_isWithdrawn cX0_isWithdrawn 2 (some .boolean) :: ([.fieldLink RX0 41 "LieForce$Force" "withdrawn" "I"] ++ wsX00)
def wsX5_isAmong : List Cond := .code yX5_isAmong cX5_isAmong 3 (some .boolean) :: ([])
def wsX0_isSoIn : List Cond := .code yX0_isSoIn cX0_isSoIn 3 (some .boolean) :: ([.fieldLink RX0 31 "LieForce$Force" "soWorlds" "[J", .methodLink RX0 51 yX0_isThere, .instanceMethod yX0_isThere, .selects RX0 yX0_isThere yX0_isThere, .initialized RX0, .code yX0_isThere cX0_isThere 2 (some .boolean), .fieldLink RX0 38 "LieForce$Force" "sayings" "I", .static yX5_isAmong, .initialized RX5, .code yX5_isAmong cX5_isAmong 3 (some .boolean)] ++ wsX00)
def wsX0_hasPoliceman : List Cond := .code yX0_hasPoliceman cX0_hasPoliceman 2 (some .boolean) :: ([.fieldLink RX0 31 "LieForce$Force" "soWorlds" "[J", .fieldLink RX0 35 "LieForce$Force" "facts" "I", .methodLink RX0 51 yX0_isThere, .instanceMethod yX0_isThere, .selects RX0 yX0_isThere yX0_isThere, .initialized RX0, .code yX0_isThere cX0_isThere 2 (some .boolean), .fieldLink RX0 38 "LieForce$Force" "sayings" "I", .methodLink RX0 59 yX0_isWithdrawn, .instanceMethod yX0_isWithdrawn, .selects RX0 yX0_isWithdrawn yX0_isWithdrawn, .code yX0_isWithdrawn cX0_isWithdrawn 2 (some .boolean), .fieldLink RX0 41 "LieForce$Force" "withdrawn" "I", .static yX5_isAmong, .initialized RX5, .code yX5_isAmong cX5_isAmong 3 (some .boolean)] ++ wsX00)
def wsX0_hasServed : List Cond := .code yX0_hasServed cX0_hasServed 2 (some .boolean) :: ([.fieldLink RX0 28 "LieForce$Force" "served" "[I", .fieldLink RX0 9 "LieForce$Force" "term" "I", .methodLink RX0 51 yX0_isThere, .instanceMethod yX0_isThere, .selects RX0 yX0_isThere yX0_isThere, .initialized RX0, .code yX0_isThere cX0_isThere 2 (some .boolean), .fieldLink RX0 38 "LieForce$Force" "sayings" "I", .methodLink RX0 62 yX0_hasPoliceman, .instanceMethod yX0_hasPoliceman, .selects RX0 yX0_hasPoliceman yX0_hasPoliceman, .code yX0_hasPoliceman cX0_hasPoliceman 2 (some .boolean), .fieldLink RX0 31 "LieForce$Force" "soWorlds" "[J", .fieldLink RX0 35 "LieForce$Force" "facts" "I", .methodLink RX0 59 yX0_isWithdrawn, .instanceMethod yX0_isWithdrawn, .selects RX0 yX0_isWithdrawn yX0_isWithdrawn, .code yX0_isWithdrawn cX0_isWithdrawn 2 (some .boolean), .fieldLink RX0 41 "LieForce$Force" "withdrawn" "I", .static yX5_isAmong, .initialized RX5, .code yX5_isAmong cX5_isAmong 3 (some .boolean)] ++ wsX00)
def wsX0_canBeWithdrawn_r1 : List Cond := [Cond.methodLink RX0 51 yX0_isThere, Cond.instanceMethod yX0_isThere, Cond.selects RX0 yX0_isThere yX0_isThere, Cond.initialized RX0, Cond.code yX0_isThere cX0_isThere 2 (some .boolean), Cond.fieldLink RX0 38 "LieForce$Force" "sayings" "I", Cond.methodLink RX0 59 yX0_isWithdrawn, Cond.instanceMethod yX0_isWithdrawn, Cond.selects RX0 yX0_isWithdrawn yX0_isWithdrawn, Cond.code yX0_isWithdrawn cX0_isWithdrawn 2 (some .boolean), Cond.fieldLink RX0 41 "LieForce$Force" "withdrawn" "I", Cond.methodLink RX0 65 yX0_hasServed, Cond.instanceMethod yX0_hasServed, Cond.selects RX0 yX0_hasServed yX0_hasServed, Cond.code yX0_hasServed cX0_hasServed 2 (some .boolean), Cond.fieldLink RX0 28 "LieForce$Force" "served" "[I", Cond.fieldLink RX0 9 "LieForce$Force" "term" "I", Cond.methodLink RX0 62 yX0_hasPoliceman, Cond.instanceMethod yX0_hasPoliceman, Cond.selects RX0 yX0_hasPoliceman yX0_hasPoliceman, Cond.code yX0_hasPoliceman cX0_hasPoliceman 2 (some .boolean), Cond.fieldLink RX0 31 "LieForce$Force" "soWorlds" "[J", Cond.fieldLink RX0 35 "LieForce$Force" "facts" "I", Cond.static yX5_isAmong]
def wsX0_canBeWithdrawn_r2 : List Cond := [Cond.initialized RX5, Cond.code yX5_isAmong cX5_isAmong 3 (some .boolean)]
def wsX0_canBeWithdrawn : List Cond := .code yX0_canBeWithdrawn cX0_canBeWithdrawn 2 (some .boolean) :: ((wsX0_canBeWithdrawn_r1 ++ wsX0_canBeWithdrawn_r2) ++ wsX00)
def wsX0_areClashing : List Cond := .code yX0_areClashing cX0_areClashing 3 (some .boolean) :: ([.fieldLink RX0 31 "LieForce$Force" "soWorlds" "[J", .methodLink RX0 51 yX0_isThere, .instanceMethod yX0_isThere, .selects RX0 yX0_isThere yX0_isThere, .initialized RX0, .code yX0_isThere cX0_isThere 2 (some .boolean), .fieldLink RX0 38 "LieForce$Force" "sayings" "I"] ++ wsX00)
def wsX0_mayMarry : List Cond := .code yX0_mayMarry cX0_mayMarry 3 (some .boolean) :: ([.fieldLink RX0 25 "LieForce$Force" "persons" "[I", .methodLink RX0 51 yX0_isThere, .instanceMethod yX0_isThere, .selects RX0 yX0_isThere yX0_isThere, .initialized RX0, .code yX0_isThere cX0_isThere 2 (some .boolean), .fieldLink RX0 38 "LieForce$Force" "sayings" "I", .methodLink RX0 68 yX0_areClashing, .instanceMethod yX0_areClashing, .selects RX0 yX0_areClashing yX0_areClashing, .code yX0_areClashing cX0_areClashing 3 (some .boolean), .fieldLink RX0 31 "LieForce$Force" "soWorlds" "[J"] ++ wsX00)
def wsX0_standing : List Cond := .code yX0_standing cX0_standing 1 (some .int) :: ([.fieldLink RX0 38 "LieForce$Force" "sayings" "I", .fieldLink RX0 41 "LieForce$Force" "withdrawn" "I"] ++ wsX00)
def wsX0_liesIn : List Cond := .code yX0_liesIn cX0_liesIn 4 (some .int) :: ([.fieldLink RX0 38 "LieForce$Force" "sayings" "I", .methodLink RX0 59 yX0_isWithdrawn, .instanceMethod yX0_isWithdrawn, .selects RX0 yX0_isWithdrawn yX0_isWithdrawn, .initialized RX0, .code yX0_isWithdrawn cX0_isWithdrawn 2 (some .boolean), .fieldLink RX0 41 "LieForce$Force" "withdrawn" "I", .methodLink RX0 72 yX0_isSoIn, .instanceMethod yX0_isSoIn, .selects RX0 yX0_isSoIn yX0_isSoIn, .code yX0_isSoIn cX0_isSoIn 3 (some .boolean), .fieldLink RX0 31 "LieForce$Force" "soWorlds" "[J", .methodLink RX0 51 yX0_isThere, .instanceMethod yX0_isThere, .selects RX0 yX0_isThere yX0_isThere, .code yX0_isThere cX0_isThere 2 (some .boolean), .static yX5_isAmong, .initialized RX5, .code yX5_isAmong cX5_isAmong 3 (some .boolean)] ++ wsX00)
def wsJ6_bitCount_0f7a4 : List Cond := .code yJ6_bitCount_0f7a4 cJ6_bitCount_0f7a4 1 (some .int) :: ([.constant RJ6 265 (1431655765), .constant RJ6 266 (858993459), .constant RJ6 267 (252645135)])
def wsX0_soAtOnce_r1 : List Cond := [Cond.methodLink RX0 75 yX0_standing, Cond.instanceMethod yX0_standing, Cond.selects RX0 yX0_standing yX0_standing, Cond.initialized RX0, Cond.code yX0_standing cX0_standing 1 (some .int), Cond.fieldLink RX0 38 "LieForce$Force" "sayings" "I", Cond.fieldLink RX0 41 "LieForce$Force" "withdrawn" "I", Cond.methodLink RX0 79 yX0_liesIn, Cond.instanceMethod yX0_liesIn, Cond.selects RX0 yX0_liesIn yX0_liesIn, Cond.code yX0_liesIn cX0_liesIn 4 (some .int), Cond.methodLink RX0 59 yX0_isWithdrawn, Cond.instanceMethod yX0_isWithdrawn, Cond.selects RX0 yX0_isWithdrawn yX0_isWithdrawn, Cond.code yX0_isWithdrawn cX0_isWithdrawn 2 (some .boolean), Cond.methodLink RX0 72 yX0_isSoIn, Cond.instanceMethod yX0_isSoIn, Cond.selects RX0 yX0_isSoIn yX0_isSoIn, Cond.code yX0_isSoIn cX0_isSoIn 3 (some .boolean), Cond.fieldLink RX0 31 "LieForce$Force" "soWorlds" "[J", Cond.methodLink RX0 51 yX0_isThere, Cond.instanceMethod yX0_isThere, Cond.selects RX0 yX0_isThere yX0_isThere, Cond.code yX0_isThere cX0_isThere 2 (some .boolean)]
def wsX0_soAtOnce_r2 : List Cond := [Cond.static yX5_isAmong, Cond.initialized RX5, Cond.code yX5_isAmong cX5_isAmong 3 (some .boolean), Cond.methodLink RX0 83 yJ6_bitCount_0f7a4, Cond.static yJ6_bitCount_0f7a4, Cond.initialized RJ6, Cond.code yJ6_bitCount_0f7a4 cJ6_bitCount_0f7a4 1 (some .int), Cond.constant RJ6 265 (1431655765), Cond.constant RJ6 266 (858993459), Cond.constant RJ6 267 (252645135)]
def wsX0_soAtOnce : List Cond := .code yX0_soAtOnce cX0_soAtOnce 2 (some .int) :: ((wsX0_soAtOnce_r1 ++ wsX0_soAtOnce_r2) ++ wsX00)
def wsX5_isBitOf : List Cond := .code yX5_isBitOf cX5_isBitOf 2 (some .boolean) :: ([])
def wsX0_liarsIn_r1 : List Cond := [Cond.fieldLink RX0 38 "LieForce$Force" "sayings" "I", Cond.fieldLink RX0 25 "LieForce$Force" "persons" "[I", Cond.methodLink RX0 79 yX0_liesIn, Cond.instanceMethod yX0_liesIn, Cond.selects RX0 yX0_liesIn yX0_liesIn, Cond.initialized RX0, Cond.code yX0_liesIn cX0_liesIn 4 (some .int), Cond.methodLink RX0 59 yX0_isWithdrawn, Cond.instanceMethod yX0_isWithdrawn, Cond.selects RX0 yX0_isWithdrawn yX0_isWithdrawn, Cond.code yX0_isWithdrawn cX0_isWithdrawn 2 (some .boolean), Cond.fieldLink RX0 41 "LieForce$Force" "withdrawn" "I", Cond.methodLink RX0 72 yX0_isSoIn, Cond.instanceMethod yX0_isSoIn, Cond.selects RX0 yX0_isSoIn yX0_isSoIn, Cond.code yX0_isSoIn cX0_isSoIn 3 (some .boolean), Cond.fieldLink RX0 31 "LieForce$Force" "soWorlds" "[J", Cond.methodLink RX0 51 yX0_isThere, Cond.instanceMethod yX0_isThere, Cond.selects RX0 yX0_isThere yX0_isThere, Cond.code yX0_isThere cX0_isThere 2 (some .boolean), Cond.static yX5_isAmong, Cond.initialized RX5, Cond.code yX5_isAmong cX5_isAmong 3 (some .boolean)]
def wsX0_liarsIn_r2 : List Cond := [Cond.static yX5_isBitOf, Cond.code yX5_isBitOf cX5_isBitOf 2 (some .boolean), Cond.methodLink RX0 83 yJ6_bitCount_0f7a4, Cond.static yJ6_bitCount_0f7a4, Cond.initialized RJ6, Cond.code yJ6_bitCount_0f7a4 cJ6_bitCount_0f7a4 1 (some .int), Cond.constant RJ6 265 (1431655765), Cond.constant RJ6 266 (858993459), Cond.constant RJ6 267 (252645135)]
def wsX0_liarsIn : List Cond := .code yX0_liarsIn cX0_liarsIn 5 (some .int) :: ((wsX0_liarsIn_r1 ++ wsX0_liarsIn_r2) ++ wsX00)
def wsX0_policedWorlds : List Cond := .code yX0_policedWorlds cX0_policedWorlds 2 (some .long) :: ([.fieldLink RX0 31 "LieForce$Force" "soWorlds" "[J", .constantLong RX0 91 (-1), .methodLink RX0 51 yX0_isThere, .instanceMethod yX0_isThere, .selects RX0 yX0_isThere yX0_isThere, .initialized RX0, .code yX0_isThere cX0_isThere 2 (some .boolean), .fieldLink RX0 38 "LieForce$Force" "sayings" "I", .methodLink RX0 59 yX0_isWithdrawn, .instanceMethod yX0_isWithdrawn, .selects RX0 yX0_isWithdrawn yX0_isWithdrawn, .code yX0_isWithdrawn cX0_isWithdrawn 2 (some .boolean), .fieldLink RX0 41 "LieForce$Force" "withdrawn" "I"] ++ wsX00)
def wsX0_policemen_r1 : List Cond := [Cond.fieldLink RX0 35 "LieForce$Force" "facts" "I", Cond.methodLink RX0 79 yX0_liesIn, Cond.instanceMethod yX0_liesIn, Cond.selects RX0 yX0_liesIn yX0_liesIn, Cond.initialized RX0, Cond.code yX0_liesIn cX0_liesIn 4 (some .int), Cond.fieldLink RX0 38 "LieForce$Force" "sayings" "I", Cond.methodLink RX0 59 yX0_isWithdrawn, Cond.instanceMethod yX0_isWithdrawn, Cond.selects RX0 yX0_isWithdrawn yX0_isWithdrawn, Cond.code yX0_isWithdrawn cX0_isWithdrawn 2 (some .boolean), Cond.fieldLink RX0 41 "LieForce$Force" "withdrawn" "I", Cond.methodLink RX0 72 yX0_isSoIn, Cond.instanceMethod yX0_isSoIn, Cond.selects RX0 yX0_isSoIn yX0_isSoIn, Cond.code yX0_isSoIn cX0_isSoIn 3 (some .boolean), Cond.fieldLink RX0 31 "LieForce$Force" "soWorlds" "[J", Cond.methodLink RX0 51 yX0_isThere, Cond.instanceMethod yX0_isThere, Cond.selects RX0 yX0_isThere yX0_isThere, Cond.code yX0_isThere cX0_isThere 2 (some .boolean), Cond.static yX5_isAmong, Cond.initialized RX5, Cond.code yX5_isAmong cX5_isAmong 3 (some .boolean)]
def wsX0_policemen_r2 : List Cond := [Cond.methodLink RX0 83 yJ6_bitCount_0f7a4, Cond.static yJ6_bitCount_0f7a4, Cond.initialized RJ6, Cond.code yJ6_bitCount_0f7a4 cJ6_bitCount_0f7a4 1 (some .int), Cond.constant RJ6 265 (1431655765), Cond.constant RJ6 266 (858993459), Cond.constant RJ6 267 (252645135)]
def wsX0_policemen : List Cond := .code yX0_policemen cX0_policemen 1 (some .int) :: ((wsX0_policemen_r1 ++ wsX0_policemen_r2) ++ wsX00)
def wsX5_asNumber : List Cond := .code yX5_asNumber cX5_asNumber 1 (some .int) :: ([])
def wsX0_policemenWhoServed_r1 : List Cond := [Cond.fieldLink RX0 38 "LieForce$Force" "sayings" "I", Cond.methodLink RX0 65 yX0_hasServed, Cond.instanceMethod yX0_hasServed, Cond.selects RX0 yX0_hasServed yX0_hasServed, Cond.initialized RX0, Cond.code yX0_hasServed cX0_hasServed 2 (some .boolean), Cond.fieldLink RX0 28 "LieForce$Force" "served" "[I", Cond.fieldLink RX0 9 "LieForce$Force" "term" "I", Cond.methodLink RX0 51 yX0_isThere, Cond.instanceMethod yX0_isThere, Cond.selects RX0 yX0_isThere yX0_isThere, Cond.code yX0_isThere cX0_isThere 2 (some .boolean), Cond.methodLink RX0 62 yX0_hasPoliceman, Cond.instanceMethod yX0_hasPoliceman, Cond.selects RX0 yX0_hasPoliceman yX0_hasPoliceman, Cond.code yX0_hasPoliceman cX0_hasPoliceman 2 (some .boolean), Cond.fieldLink RX0 31 "LieForce$Force" "soWorlds" "[J", Cond.fieldLink RX0 35 "LieForce$Force" "facts" "I", Cond.methodLink RX0 59 yX0_isWithdrawn, Cond.instanceMethod yX0_isWithdrawn, Cond.selects RX0 yX0_isWithdrawn yX0_isWithdrawn, Cond.code yX0_isWithdrawn cX0_isWithdrawn 2 (some .boolean), Cond.fieldLink RX0 41 "LieForce$Force" "withdrawn" "I", Cond.static yX5_isAmong]
def wsX0_policemenWhoServed_r2 : List Cond := [Cond.initialized RX5, Cond.code yX5_isAmong cX5_isAmong 3 (some .boolean), Cond.static yX5_asNumber, Cond.code yX5_asNumber cX5_asNumber 1 (some .int)]
def wsX0_policemenWhoServed : List Cond := .code yX0_policemenWhoServed cX0_policemenWhoServed 3 (some .int) :: ((wsX0_policemenWhoServed_r1 ++ wsX0_policemenWhoServed_r2) ++ wsX00)
def wsX0_takeOut : List Cond := .code yX0_takeOut cX0_takeOut 2 none :: ([.fieldLink RX0 41 "LieForce$Force" "withdrawn" "I", .fieldLink RX0 28 "LieForce$Force" "served" "[I", .methodLink RX0 51 yX0_isThere, .instanceMethod yX0_isThere, .selects RX0 yX0_isThere yX0_isThere, .initialized RX0, .code yX0_isThere cX0_isThere 2 (some .boolean), .fieldLink RX0 38 "LieForce$Force" "sayings" "I"] ++ wsX00)
def wsX5_isWithin : List Cond := .code yX5_isWithin cX5_isWithin 3 (some .boolean) :: ([])
def wsX5_isFact : List Cond := .code yX5_isFact cX5_isFact 1 (some .boolean) :: ([.methodLink RX5 72 yX5_isWithin, .static yX5_isWithin, .initialized RX5, .code yX5_isWithin cX5_isWithin 3 (some .boolean)])
def wsX0_turnFact_r1 : List Cond := [Cond.fieldLink RX0 35 "LieForce$Force" "facts" "I", Cond.fieldLink RX0 38 "LieForce$Force" "sayings" "I", Cond.fieldLink RX0 28 "LieForce$Force" "served" "[I", Cond.static yX5_isFact, Cond.initialized RX5, Cond.code yX5_isFact cX5_isFact 1 (some .boolean), Cond.methodLink RX5 72 yX5_isWithin, Cond.static yX5_isWithin, Cond.code yX5_isWithin cX5_isWithin 3 (some .boolean), Cond.methodLink RX0 51 yX0_isThere, Cond.instanceMethod yX0_isThere, Cond.selects RX0 yX0_isThere yX0_isThere, Cond.initialized RX0, Cond.code yX0_isThere cX0_isThere 2 (some .boolean), Cond.methodLink RX0 62 yX0_hasPoliceman, Cond.instanceMethod yX0_hasPoliceman, Cond.selects RX0 yX0_hasPoliceman yX0_hasPoliceman, Cond.code yX0_hasPoliceman cX0_hasPoliceman 2 (some .boolean), Cond.fieldLink RX0 31 "LieForce$Force" "soWorlds" "[J", Cond.methodLink RX0 59 yX0_isWithdrawn, Cond.instanceMethod yX0_isWithdrawn, Cond.selects RX0 yX0_isWithdrawn yX0_isWithdrawn, Cond.code yX0_isWithdrawn cX0_isWithdrawn 2 (some .boolean), Cond.fieldLink RX0 41 "LieForce$Force" "withdrawn" "I"]
def wsX0_turnFact_r2 : List Cond := [Cond.static yX5_isAmong, Cond.code yX5_isAmong cX5_isAmong 3 (some .boolean)]
def wsX0_turnFact : List Cond := .code yX0_turnFact cX0_turnFact 3 none :: ((wsX0_turnFact_r1 ++ wsX0_turnFact_r2) ++ wsX00)
def wsX0_serveDay : List Cond := .code yX0_serveDay cX0_serveDay 2 none :: ([.fieldLink RX0 44 "LieForce$Force" "days" "I", .fieldLink RX0 38 "LieForce$Force" "sayings" "I", .fieldLink RX0 28 "LieForce$Force" "served" "[I", .methodLink RX0 51 yX0_isThere, .instanceMethod yX0_isThere, .selects RX0 yX0_isThere yX0_isThere, .initialized RX0, .code yX0_isThere cX0_isThere 2 (some .boolean), .methodLink RX0 62 yX0_hasPoliceman, .instanceMethod yX0_hasPoliceman, .selects RX0 yX0_hasPoliceman yX0_hasPoliceman, .code yX0_hasPoliceman cX0_hasPoliceman 2 (some .boolean), .fieldLink RX0 31 "LieForce$Force" "soWorlds" "[J", .fieldLink RX0 35 "LieForce$Force" "facts" "I", .methodLink RX0 59 yX0_isWithdrawn, .instanceMethod yX0_isWithdrawn, .selects RX0 yX0_isWithdrawn yX0_isWithdrawn, .code yX0_isWithdrawn cX0_isWithdrawn 2 (some .boolean), .fieldLink RX0 41 "LieForce$Force" "withdrawn" "I", .static yX5_isAmong, .initialized RX5, .code yX5_isAmong cX5_isAmong 3 (some .boolean)] ++ wsX00)
def wsX0_mateOf_r1 : List Cond := [Cond.fieldLink RX0 38 "LieForce$Force" "sayings" "I", Cond.methodLink RX0 65 yX0_hasServed, Cond.instanceMethod yX0_hasServed, Cond.selects RX0 yX0_hasServed yX0_hasServed, Cond.initialized RX0, Cond.code yX0_hasServed cX0_hasServed 2 (some .boolean), Cond.fieldLink RX0 28 "LieForce$Force" "served" "[I", Cond.fieldLink RX0 9 "LieForce$Force" "term" "I", Cond.methodLink RX0 51 yX0_isThere, Cond.instanceMethod yX0_isThere, Cond.selects RX0 yX0_isThere yX0_isThere, Cond.code yX0_isThere cX0_isThere 2 (some .boolean), Cond.methodLink RX0 62 yX0_hasPoliceman, Cond.instanceMethod yX0_hasPoliceman, Cond.selects RX0 yX0_hasPoliceman yX0_hasPoliceman, Cond.code yX0_hasPoliceman cX0_hasPoliceman 2 (some .boolean), Cond.fieldLink RX0 31 "LieForce$Force" "soWorlds" "[J", Cond.fieldLink RX0 35 "LieForce$Force" "facts" "I", Cond.methodLink RX0 59 yX0_isWithdrawn, Cond.instanceMethod yX0_isWithdrawn, Cond.selects RX0 yX0_isWithdrawn yX0_isWithdrawn, Cond.code yX0_isWithdrawn cX0_isWithdrawn 2 (some .boolean), Cond.fieldLink RX0 41 "LieForce$Force" "withdrawn" "I", Cond.static yX5_isAmong]
def wsX0_mateOf_r2 : List Cond := [Cond.initialized RX5, Cond.code yX5_isAmong cX5_isAmong 3 (some .boolean), Cond.methodLink RX0 68 yX0_areClashing, Cond.instanceMethod yX0_areClashing, Cond.selects RX0 yX0_areClashing yX0_areClashing, Cond.code yX0_areClashing cX0_areClashing 3 (some .boolean)]
def wsX0_mateOf : List Cond := .code yX0_mateOf cX0_mateOf 3 (some .int) :: ((wsX0_mateOf_r1 ++ wsX0_mateOf_r2) ++ wsX00)
def wsX0_firstToFall_r1 : List Cond := [Cond.fieldLink RX0 38 "LieForce$Force" "sayings" "I", Cond.methodLink RX0 100 yX0_mateOf, Cond.instanceMethod yX0_mateOf, Cond.selects RX0 yX0_mateOf yX0_mateOf, Cond.initialized RX0, Cond.code yX0_mateOf cX0_mateOf 3 (some .int), Cond.methodLink RX0 65 yX0_hasServed, Cond.instanceMethod yX0_hasServed, Cond.selects RX0 yX0_hasServed yX0_hasServed, Cond.code yX0_hasServed cX0_hasServed 2 (some .boolean), Cond.fieldLink RX0 28 "LieForce$Force" "served" "[I", Cond.fieldLink RX0 9 "LieForce$Force" "term" "I", Cond.methodLink RX0 51 yX0_isThere, Cond.instanceMethod yX0_isThere, Cond.selects RX0 yX0_isThere yX0_isThere, Cond.code yX0_isThere cX0_isThere 2 (some .boolean), Cond.methodLink RX0 62 yX0_hasPoliceman, Cond.instanceMethod yX0_hasPoliceman, Cond.selects RX0 yX0_hasPoliceman yX0_hasPoliceman, Cond.code yX0_hasPoliceman cX0_hasPoliceman 2 (some .boolean), Cond.fieldLink RX0 31 "LieForce$Force" "soWorlds" "[J", Cond.fieldLink RX0 35 "LieForce$Force" "facts" "I", Cond.methodLink RX0 59 yX0_isWithdrawn, Cond.instanceMethod yX0_isWithdrawn]
def wsX0_firstToFall_r2 : List Cond := [Cond.selects RX0 yX0_isWithdrawn yX0_isWithdrawn, Cond.code yX0_isWithdrawn cX0_isWithdrawn 2 (some .boolean), Cond.fieldLink RX0 41 "LieForce$Force" "withdrawn" "I", Cond.static yX5_isAmong, Cond.initialized RX5, Cond.code yX5_isAmong cX5_isAmong 3 (some .boolean), Cond.methodLink RX0 68 yX0_areClashing, Cond.instanceMethod yX0_areClashing, Cond.selects RX0 yX0_areClashing yX0_areClashing, Cond.code yX0_areClashing cX0_areClashing 3 (some .boolean)]
def wsX0_firstToFall : List Cond := .code yX0_firstToFall cX0_firstToFall 2 (some .int) :: ((wsX0_firstToFall_r1 ++ wsX0_firstToFall_r2) ++ wsX00)
def wsX0_passDay_r1 : List Cond := [Cond.fieldLink RX0 38 "LieForce$Force" "sayings" "I", Cond.methodLink RX0 103 yX0_serveDay, Cond.instanceMethod yX0_serveDay, Cond.selects RX0 yX0_serveDay yX0_serveDay, Cond.initialized RX0, Cond.code yX0_serveDay cX0_serveDay 2 none, Cond.fieldLink RX0 44 "LieForce$Force" "days" "I", Cond.fieldLink RX0 28 "LieForce$Force" "served" "[I", Cond.methodLink RX0 51 yX0_isThere, Cond.instanceMethod yX0_isThere, Cond.selects RX0 yX0_isThere yX0_isThere, Cond.code yX0_isThere cX0_isThere 2 (some .boolean), Cond.methodLink RX0 62 yX0_hasPoliceman, Cond.instanceMethod yX0_hasPoliceman, Cond.selects RX0 yX0_hasPoliceman yX0_hasPoliceman, Cond.code yX0_hasPoliceman cX0_hasPoliceman 2 (some .boolean), Cond.fieldLink RX0 31 "LieForce$Force" "soWorlds" "[J", Cond.fieldLink RX0 35 "LieForce$Force" "facts" "I", Cond.methodLink RX0 59 yX0_isWithdrawn, Cond.instanceMethod yX0_isWithdrawn, Cond.selects RX0 yX0_isWithdrawn yX0_isWithdrawn, Cond.code yX0_isWithdrawn cX0_isWithdrawn 2 (some .boolean), Cond.fieldLink RX0 41 "LieForce$Force" "withdrawn" "I", Cond.static yX5_isAmong]
def wsX0_passDay_r2 : List Cond := [Cond.initialized RX5, Cond.code yX5_isAmong cX5_isAmong 3 (some .boolean), Cond.methodLink RX0 100 yX0_mateOf, Cond.instanceMethod yX0_mateOf, Cond.selects RX0 yX0_mateOf yX0_mateOf, Cond.code yX0_mateOf cX0_mateOf 3 (some .int), Cond.methodLink RX0 65 yX0_hasServed, Cond.instanceMethod yX0_hasServed, Cond.selects RX0 yX0_hasServed yX0_hasServed, Cond.code yX0_hasServed cX0_hasServed 2 (some .boolean), Cond.fieldLink RX0 9 "LieForce$Force" "term" "I", Cond.methodLink RX0 68 yX0_areClashing, Cond.instanceMethod yX0_areClashing, Cond.selects RX0 yX0_areClashing yX0_areClashing, Cond.code yX0_areClashing cX0_areClashing 3 (some .boolean), Cond.methodLink RX0 106 yX0_takeOut, Cond.instanceMethod yX0_takeOut, Cond.selects RX0 yX0_takeOut yX0_takeOut, Cond.code yX0_takeOut cX0_takeOut 2 none]
def wsX0_passDay : List Cond := .code yX0_passDay cX0_passDay 4 (some .int) :: ((wsX0_passDay_r1 ++ wsX0_passDay_r2) ++ wsX00)
def wsX0_takeDraw_r1 : List Cond := [Cond.fieldLink RX0 38 "LieForce$Force" "sayings" "I", Cond.methodLink RX0 110 yX0_turnFact, Cond.instanceMethod yX0_turnFact, Cond.selects RX0 yX0_turnFact yX0_turnFact, Cond.initialized RX0, Cond.code yX0_turnFact cX0_turnFact 3 none, Cond.fieldLink RX0 35 "LieForce$Force" "facts" "I", Cond.fieldLink RX0 28 "LieForce$Force" "served" "[I", Cond.static yX5_isFact, Cond.initialized RX5, Cond.code yX5_isFact cX5_isFact 1 (some .boolean), Cond.methodLink RX5 72 yX5_isWithin, Cond.static yX5_isWithin, Cond.code yX5_isWithin cX5_isWithin 3 (some .boolean), Cond.methodLink RX0 51 yX0_isThere, Cond.instanceMethod yX0_isThere, Cond.selects RX0 yX0_isThere yX0_isThere, Cond.code yX0_isThere cX0_isThere 2 (some .boolean), Cond.methodLink RX0 62 yX0_hasPoliceman, Cond.instanceMethod yX0_hasPoliceman, Cond.selects RX0 yX0_hasPoliceman yX0_hasPoliceman, Cond.code yX0_hasPoliceman cX0_hasPoliceman 2 (some .boolean), Cond.fieldLink RX0 31 "LieForce$Force" "soWorlds" "[J", Cond.methodLink RX0 59 yX0_isWithdrawn]
def wsX0_takeDraw_r2 : List Cond := [Cond.instanceMethod yX0_isWithdrawn, Cond.selects RX0 yX0_isWithdrawn yX0_isWithdrawn, Cond.code yX0_isWithdrawn cX0_isWithdrawn 2 (some .boolean), Cond.fieldLink RX0 41 "LieForce$Force" "withdrawn" "I", Cond.static yX5_isAmong, Cond.code yX5_isAmong cX5_isAmong 3 (some .boolean), Cond.methodLink RX0 113 yX0_canBeWithdrawn, Cond.instanceMethod yX0_canBeWithdrawn, Cond.selects RX0 yX0_canBeWithdrawn yX0_canBeWithdrawn, Cond.code yX0_canBeWithdrawn cX0_canBeWithdrawn 2 (some .boolean), Cond.methodLink RX0 65 yX0_hasServed, Cond.instanceMethod yX0_hasServed, Cond.selects RX0 yX0_hasServed yX0_hasServed, Cond.code yX0_hasServed cX0_hasServed 2 (some .boolean), Cond.fieldLink RX0 9 "LieForce$Force" "term" "I", Cond.methodLink RX0 106 yX0_takeOut, Cond.instanceMethod yX0_takeOut, Cond.selects RX0 yX0_takeOut yX0_takeOut, Cond.code yX0_takeOut cX0_takeOut 2 none]
def wsX0_takeDraw : List Cond := .code yX0_takeDraw cX0_takeDraw 3 none :: ((wsX0_takeDraw_r1 ++ wsX0_takeDraw_r2) ++ wsX00)
def wsX0_couldAllBeSo : List Cond := .code yX0_couldAllBeSo cX0_couldAllBeSo 5 (some .boolean) :: ([.constantLong RX0 91 (-1), .fieldLink RX0 38 "LieForce$Force" "sayings" "I", .fieldLink RX0 31 "LieForce$Force" "soWorlds" "[J", .methodLink RX0 51 yX0_isThere, .instanceMethod yX0_isThere, .selects RX0 yX0_isThere yX0_isThere, .initialized RX0, .code yX0_isThere cX0_isThere 2 (some .boolean), .static yX5_isBitOf, .initialized RX5, .code yX5_isBitOf cX5_isBitOf 2 (some .boolean)] ++ wsX00)
def wsX0_lowestCore_r1 : List Cond := [Cond.methodLink RX0 75 yX0_standing, Cond.instanceMethod yX0_standing, Cond.selects RX0 yX0_standing yX0_standing, Cond.initialized RX0, Cond.code yX0_standing cX0_standing 1 (some .int), Cond.fieldLink RX0 38 "LieForce$Force" "sayings" "I", Cond.fieldLink RX0 41 "LieForce$Force" "withdrawn" "I", Cond.methodLink RX0 83 yJ6_bitCount_0f7a4, Cond.static yJ6_bitCount_0f7a4, Cond.initialized RJ6, Cond.code yJ6_bitCount_0f7a4 cJ6_bitCount_0f7a4 1 (some .int), Cond.constant RJ6 265 (1431655765), Cond.constant RJ6 266 (858993459), Cond.constant RJ6 267 (252645135), Cond.methodLink RX0 116 yX0_couldAllBeSo, Cond.instanceMethod yX0_couldAllBeSo, Cond.selects RX0 yX0_couldAllBeSo yX0_couldAllBeSo, Cond.code yX0_couldAllBeSo cX0_couldAllBeSo 5 (some .boolean), Cond.constantLong RX0 91 (-1), Cond.fieldLink RX0 31 "LieForce$Force" "soWorlds" "[J", Cond.methodLink RX0 51 yX0_isThere, Cond.instanceMethod yX0_isThere, Cond.selects RX0 yX0_isThere yX0_isThere, Cond.code yX0_isThere cX0_isThere 2 (some .boolean)]
def wsX0_lowestCore_r2 : List Cond := [Cond.static yX5_isBitOf, Cond.initialized RX5, Cond.code yX5_isBitOf cX5_isBitOf 2 (some .boolean)]
def wsX0_lowestCore : List Cond := .code yX0_lowestCore cX0_lowestCore 6 (some .int) :: ((wsX0_lowestCore_r1 ++ wsX0_lowestCore_r2) ++ wsX00)
def wsX0_lowestCut_r1 : List Cond := [Cond.methodLink RX0 75 yX0_standing, Cond.instanceMethod yX0_standing, Cond.selects RX0 yX0_standing yX0_standing, Cond.initialized RX0, Cond.code yX0_standing cX0_standing 1 (some .int), Cond.fieldLink RX0 38 "LieForce$Force" "sayings" "I", Cond.fieldLink RX0 41 "LieForce$Force" "withdrawn" "I", Cond.methodLink RX0 83 yJ6_bitCount_0f7a4, Cond.static yJ6_bitCount_0f7a4, Cond.initialized RJ6, Cond.code yJ6_bitCount_0f7a4 cJ6_bitCount_0f7a4 1 (some .int), Cond.constant RJ6 265 (1431655765), Cond.constant RJ6 266 (858993459), Cond.constant RJ6 267 (252645135), Cond.methodLink RX0 116 yX0_couldAllBeSo, Cond.instanceMethod yX0_couldAllBeSo, Cond.selects RX0 yX0_couldAllBeSo yX0_couldAllBeSo, Cond.code yX0_couldAllBeSo cX0_couldAllBeSo 5 (some .boolean), Cond.constantLong RX0 91 (-1), Cond.fieldLink RX0 31 "LieForce$Force" "soWorlds" "[J", Cond.methodLink RX0 51 yX0_isThere, Cond.instanceMethod yX0_isThere, Cond.selects RX0 yX0_isThere yX0_isThere, Cond.code yX0_isThere cX0_isThere 2 (some .boolean)]
def wsX0_lowestCut_r2 : List Cond := [Cond.static yX5_isBitOf, Cond.initialized RX5, Cond.code yX5_isBitOf cX5_isBitOf 2 (some .boolean)]
def wsX0_lowestCut : List Cond := .code yX0_lowestCut cX0_lowestCut 6 (some .int) :: ((wsX0_lowestCut_r1 ++ wsX0_lowestCut_r2) ++ wsX00)
def wsX0_mostPairs_r1 : List Cond := [Cond.fieldLink RX0 38 "LieForce$Force" "sayings" "I", Cond.methodLink RX0 126 Lib.Math.max.name, Cond.static Lib.Math.max.name, Cond.initialized "java/lang/Math", Cond.code Lib.Math.max.name Lib.Math.max.code 2 (some .int), Cond.methodLink RX0 119 yX0_mostPairs, Cond.instanceMethod yX0_mostPairs, Cond.selects RX0 yX0_mostPairs yX0_mostPairs, Cond.initialized RX0, Cond.static yX5_isBitOf, Cond.initialized RX5, Cond.code yX5_isBitOf cX5_isBitOf 2 (some .boolean), Cond.methodLink RX0 123 yX0_mayMarry, Cond.instanceMethod yX0_mayMarry, Cond.selects RX0 yX0_mayMarry yX0_mayMarry, Cond.code yX0_mayMarry cX0_mayMarry 3 (some .boolean), Cond.fieldLink RX0 25 "LieForce$Force" "persons" "[I", Cond.methodLink RX0 51 yX0_isThere, Cond.instanceMethod yX0_isThere, Cond.selects RX0 yX0_isThere yX0_isThere, Cond.code yX0_isThere cX0_isThere 2 (some .boolean), Cond.methodLink RX0 68 yX0_areClashing, Cond.instanceMethod yX0_areClashing, Cond.selects RX0 yX0_areClashing yX0_areClashing]
def wsX0_mostPairs_r2 : List Cond := [Cond.code yX0_areClashing cX0_areClashing 3 (some .boolean), Cond.fieldLink RX0 31 "LieForce$Force" "soWorlds" "[J"]
def wsX0_mostPairs : List Cond := .code yX0_mostPairs cX0_mostPairs 5 (some .int) :: ((wsX0_mostPairs_r1 ++ wsX0_mostPairs_r2) ++ wsX00)
def wsX1_init : List Cond := .code yX1_init cX1_init 1 none :: ([.methodLink RX1 3 objectInit, .instanceMethod objectInit, .code objectInit ⟨#[0xb1]⟩ 1 none, .arrayClass .int, .fieldLink RX1 9 "LieForce$Game" "behindTurn" "[I", .fieldLink RX1 15 "LieForce$Game" "best" "[I"] ++ wsX10)
def wsX1_worth : List Cond := .code yX1_worth cX1_worth 2 (some .int) :: ([.fieldLink RX1 9 "LieForce$Game" "behindTurn" "[I", .static yX5_isWithin, .initialized RX5, .code yX5_isWithin cX5_isWithin 3 (some .boolean)] ++ wsX10)
def wsX1_bestOf : List Cond := .code yX1_bestOf cX1_bestOf 6 (some .int) :: ([.methodLink RX1 36 Lib.Math.max.name, .static Lib.Math.max.name, .initialized "java/lang/Math", .code Lib.Math.max.name Lib.Math.max.code 2 (some .int), .methodLink RX1 42 Lib.Math.min.name, .static Lib.Math.min.name, .code Lib.Math.min.name Lib.Math.min.code 2 (some .int), .methodLink RX1 33 yX1_worth, .instanceMethod yX1_worth, .selects RX1 yX1_worth yX1_worth, .initialized RX1, .code yX1_worth cX1_worth 2 (some .int), .fieldLink RX1 9 "LieForce$Game" "behindTurn" "[I", .static yX5_isWithin, .initialized RX5, .code yX5_isWithin cX5_isWithin 3 (some .boolean)] ++ wsX10)
def wsX1_lookAhead_r1 : List Cond := [Cond.fieldLink RX1 15 "LieForce$Game" "best" "[I", Cond.fieldLink RX1 9 "LieForce$Game" "behindTurn" "[I", Cond.methodLink RX1 18 yX0_liesIn, Cond.instanceMethod yX0_liesIn, Cond.selects RX0 yX0_liesIn yX0_liesIn, Cond.initialized RX0, Cond.code yX0_liesIn cX0_liesIn 4 (some .int), Cond.fieldLink RX0 38 "LieForce$Force" "sayings" "I", Cond.methodLink RX0 59 yX0_isWithdrawn, Cond.instanceMethod yX0_isWithdrawn, Cond.selects RX0 yX0_isWithdrawn yX0_isWithdrawn, Cond.code yX0_isWithdrawn cX0_isWithdrawn 2 (some .boolean), Cond.fieldLink RX0 41 "LieForce$Force" "withdrawn" "I", Cond.methodLink RX0 72 yX0_isSoIn, Cond.instanceMethod yX0_isSoIn, Cond.selects RX0 yX0_isSoIn yX0_isSoIn, Cond.code yX0_isSoIn cX0_isSoIn 3 (some .boolean), Cond.fieldLink RX0 31 "LieForce$Force" "soWorlds" "[J", Cond.methodLink RX0 51 yX0_isThere, Cond.instanceMethod yX0_isThere, Cond.selects RX0 yX0_isThere yX0_isThere, Cond.code yX0_isThere cX0_isThere 2 (some .boolean), Cond.static yX5_isAmong, Cond.initialized RX5]
def wsX1_lookAhead_r2 : List Cond := [Cond.code yX5_isAmong cX5_isAmong 3 (some .boolean), Cond.methodLink RX1 24 yJ6_bitCount_0f7a4, Cond.static yJ6_bitCount_0f7a4, Cond.initialized RJ6, Cond.code yJ6_bitCount_0f7a4 cJ6_bitCount_0f7a4 1 (some .int), Cond.constant RJ6 265 (1431655765), Cond.constant RJ6 266 (858993459), Cond.constant RJ6 267 (252645135), Cond.methodLink RX1 29 yX1_bestOf, Cond.instanceMethod yX1_bestOf, Cond.selects RX1 yX1_bestOf yX1_bestOf, Cond.initialized RX1, Cond.code yX1_bestOf cX1_bestOf 6 (some .int), Cond.methodLink RX1 36 Lib.Math.max.name, Cond.static Lib.Math.max.name, Cond.initialized "java/lang/Math", Cond.code Lib.Math.max.name Lib.Math.max.code 2 (some .int), Cond.methodLink RX1 42 Lib.Math.min.name, Cond.static Lib.Math.min.name, Cond.code Lib.Math.min.name Lib.Math.min.code 2 (some .int), Cond.methodLink RX1 33 yX1_worth, Cond.instanceMethod yX1_worth, Cond.selects RX1 yX1_worth yX1_worth, Cond.code yX1_worth cX1_worth 2 (some .int)]
def wsX1_lookAhead_r3 : List Cond := [Cond.static yX5_isWithin, Cond.code yX5_isWithin cX5_isWithin 3 (some .boolean)]
def wsX1_lookAhead : List Cond := .code yX1_lookAhead cX1_lookAhead 6 none :: ((wsX1_lookAhead_r1 ++ (wsX1_lookAhead_r2 ++ wsX1_lookAhead_r3)) ++ wsX10 ++ wsX00)
def wsX1_outcome : List Cond := .code yX1_outcome cX1_outcome 2 (some .int) :: ([.fieldLink RX1 15 "LieForce$Game" "best" "[I", .static yX5_isWithin, .initialized RX5, .code yX5_isWithin cX5_isWithin 3 (some .boolean)] ++ wsX10)
def wsX1_firstMove : List Cond := .code yX1_firstMove cX1_firstMove 4 (some .int) :: ([.methodLink RX1 49 yX1_outcome, .instanceMethod yX1_outcome, .selects RX1 yX1_outcome yX1_outcome, .initialized RX1, .code yX1_outcome cX1_outcome 2 (some .int), .fieldLink RX1 15 "LieForce$Game" "best" "[I", .static yX5_isWithin, .initialized RX5, .code yX5_isWithin cX5_isWithin 3 (some .boolean), .methodLink RX1 33 yX1_worth, .instanceMethod yX1_worth, .selects RX1 yX1_worth yX1_worth, .code yX1_worth cX1_worth 2 (some .int), .fieldLink RX1 9 "LieForce$Game" "behindTurn" "[I"] ++ wsX10)
def wsX2_init : List Cond := .code yX2_init cX2_init 3 none :: ([.methodLink RX2 1 objectInit, .instanceMethod objectInit, .code objectInit ⟨#[0xb1]⟩ 1 none, .classLink RX2 7 RX0, .fieldLink RX2 9 "LieForce$Pile" "stood" "[LLieForce$Force;", .instantiable RX0 11, .initialized RX0, .instanceMethod yX0_init, .code yX0_init cX0_init 1 none, .methodLink RX0 3 objectInit, .fieldLink RX0 9 "LieForce$Force" "term" "I", .arrayClass .int, .fieldLink RX0 15 "LieForce$Force" "kinds" "[I", .fieldLink RX0 19 "LieForce$Force" "firsts" "[I", .fieldLink RX0 22 "LieForce$Force" "seconds" "[I", .fieldLink RX0 25 "LieForce$Force" "persons" "[I", .fieldLink RX0 28 "LieForce$Force" "served" "[I", .arrayClass .long, .fieldLink RX0 31 "LieForce$Force" "soWorlds" "[J"] ++ wsX20 ++ wsX00)
def wsX2_clear : List Cond := .code yX2_clear cX2_clear 1 none :: ([.fieldLink RX2 16 "LieForce$Pile" "size" "I"] ++ wsX20)
def wsX2_dropOldest : List Cond := .code yX2_dropOldest cX2_dropOldest 3 none :: ([.fieldLink RX2 9 "LieForce$Pile" "stood" "[LLieForce$Force;", .fieldLink RX2 16 "LieForce$Pile" "size" "I"] ++ wsX20)
def wsX2_add : List Cond := .code yX2_add cX2_add 2 none :: ([.fieldLink RX2 9 "LieForce$Pile" "stood" "[LLieForce$Force;", .fieldLink RX2 16 "LieForce$Pile" "size" "I", .methodLink RX2 20 yX2_dropOldest, .instanceMethod yX2_dropOldest, .selects RX2 yX2_dropOldest yX2_dropOldest, .initialized RX2, .code yX2_dropOldest cX2_dropOldest 3 none, .methodLink RX2 23 yX0_copy, .instanceMethod yX0_copy, .selects RX0 yX0_copy yX0_copy, .initialized RX0, .code yX0_copy cX0_copy 3 none, .fieldLink RX0 35 "LieForce$Force" "facts" "I", .fieldLink RX0 38 "LieForce$Force" "sayings" "I", .fieldLink RX0 41 "LieForce$Force" "withdrawn" "I", .fieldLink RX0 44 "LieForce$Force" "days" "I", .fieldLink RX0 9 "LieForce$Force" "term" "I", .fieldLink RX0 15 "LieForce$Force" "kinds" "[I", .fieldLink RX0 19 "LieForce$Force" "firsts" "[I", .fieldLink RX0 22 "LieForce$Force" "seconds" "[I", .fieldLink RX0 25 "LieForce$Force" "persons" "[I", .fieldLink RX0 28 "LieForce$Force" "served" "[I", .fieldLink RX0 31 "LieForce$Force" "soWorlds" "[J"] ++ wsX20 ++ wsX00)
def wsX2_takeLast : List Cond := .code yX2_takeLast cX2_takeLast 2 (some .boolean) :: ([.fieldLink RX2 16 "LieForce$Pile" "size" "I", .fieldLink RX2 9 "LieForce$Pile" "stood" "[LLieForce$Force;", .methodLink RX2 23 yX0_copy, .instanceMethod yX0_copy, .selects RX0 yX0_copy yX0_copy, .initialized RX0, .code yX0_copy cX0_copy 3 none, .fieldLink RX0 35 "LieForce$Force" "facts" "I", .fieldLink RX0 38 "LieForce$Force" "sayings" "I", .fieldLink RX0 41 "LieForce$Force" "withdrawn" "I", .fieldLink RX0 44 "LieForce$Force" "days" "I", .fieldLink RX0 9 "LieForce$Force" "term" "I", .fieldLink RX0 15 "LieForce$Force" "kinds" "[I", .fieldLink RX0 19 "LieForce$Force" "firsts" "[I", .fieldLink RX0 22 "LieForce$Force" "seconds" "[I", .fieldLink RX0 25 "LieForce$Force" "persons" "[I", .fieldLink RX0 28 "LieForce$Force" "served" "[I", .fieldLink RX0 31 "LieForce$Force" "soWorlds" "[J"] ++ wsX20 ++ wsX00)
def wsX3_init : List Cond := .code yX3_init cX3_init 1 none :: ([.methodLink RX3 3 objectInit, .instanceMethod objectInit, .code objectInit ⟨#[0xb1]⟩ 1 none, .arrayClass .int, .fieldLink RX3 11 "LieForce$Reader" "numbers" "[I"] ++ wsX30)
def wsX3_letterAt : List Cond := .code yX3_letterAt cX3_letterAt 3 (some .int) :: ([])
def wsX3_numbersOf : List Cond := .code yX3_numbersOf cX3_numbersOf 1 (some .int) :: ([])
def wsX3_isFigure : List Cond := .code yX3_isFigure cX3_isFigure 1 (some .boolean) :: ([])
def wsX3_figuresAt : List Cond := .code yX3_figuresAt cX3_figuresAt 3 (some .int) :: ([.methodLink RX3 20 yX3_letterAt, .static yX3_letterAt, .initialized RX3, .code yX3_letterAt cX3_letterAt 3 (some .int), .methodLink RX3 42 yX3_isFigure, .static yX3_isFigure, .code yX3_isFigure cX3_isFigure 1 (some .boolean)])
def wsX3_numberOf : List Cond := .code yX3_numberOf cX3_numberOf 5 (some .int) :: ([.methodLink RX3 20 yX3_letterAt, .static yX3_letterAt, .initialized RX3, .code yX3_letterAt cX3_letterAt 3 (some .int)])
def wsX3_readNumbers : List Cond := .code yX3_readNumbers cX3_readNumbers 8 (some .int) :: ([.fieldLink RX3 11 "LieForce$Reader" "numbers" "[I", .methodLink RX3 36 yX3_figuresAt, .static yX3_figuresAt, .initialized RX3, .code yX3_figuresAt cX3_figuresAt 3 (some .int), .methodLink RX3 20 yX3_letterAt, .static yX3_letterAt, .code yX3_letterAt cX3_letterAt 3 (some .int), .methodLink RX3 42 yX3_isFigure, .static yX3_isFigure, .code yX3_isFigure cX3_isFigure 1 (some .boolean), .methodLink RX3 39 yX3_numberOf, .static yX3_numberOf, .code yX3_numberOf cX3_numberOf 5 (some .int)] ++ wsX30)
def wsX5_isLiteral : List Cond := .code yX5_isLiteral cX5_isLiteral 1 (some .boolean) :: ([.methodLink RX5 72 yX5_isWithin, .static yX5_isWithin, .initialized RX5, .code yX5_isWithin cX5_isWithin 3 (some .boolean)])
def wsX5_isSaying : List Cond := .code yX5_isSaying cX5_isSaying 4 (some .boolean) :: ([.methodLink RX5 72 yX5_isWithin, .static yX5_isWithin, .initialized RX5, .code yX5_isWithin cX5_isWithin 3 (some .boolean), .methodLink RX5 260 yX5_isLiteral, .static yX5_isLiteral, .code yX5_isLiteral cX5_isLiteral 1 (some .boolean)])
def wsX3_putItem_r1 : List Cond := [Cond.fieldLink RX3 11 "LieForce$Reader" "numbers" "[I", Cond.fieldLink RX3 53 "LieForce$Force" "term" "I", Cond.methodLink RX3 46 yX0_turnFact, Cond.instanceMethod yX0_turnFact, Cond.selects RX0 yX0_turnFact yX0_turnFact, Cond.initialized RX0, Cond.code yX0_turnFact cX0_turnFact 3 none, Cond.fieldLink RX0 35 "LieForce$Force" "facts" "I", Cond.fieldLink RX0 38 "LieForce$Force" "sayings" "I", Cond.fieldLink RX0 28 "LieForce$Force" "served" "[I", Cond.static yX5_isFact, Cond.initialized RX5, Cond.code yX5_isFact cX5_isFact 1 (some .boolean), Cond.methodLink RX5 72 yX5_isWithin, Cond.static yX5_isWithin, Cond.code yX5_isWithin cX5_isWithin 3 (some .boolean), Cond.methodLink RX0 51 yX0_isThere, Cond.instanceMethod yX0_isThere, Cond.selects RX0 yX0_isThere yX0_isThere, Cond.code yX0_isThere cX0_isThere 2 (some .boolean), Cond.methodLink RX0 62 yX0_hasPoliceman, Cond.instanceMethod yX0_hasPoliceman, Cond.selects RX0 yX0_hasPoliceman yX0_hasPoliceman, Cond.code yX0_hasPoliceman cX0_hasPoliceman 2 (some .boolean)]
def wsX3_putItem_r2 : List Cond := [Cond.fieldLink RX0 31 "LieForce$Force" "soWorlds" "[J", Cond.methodLink RX0 59 yX0_isWithdrawn, Cond.instanceMethod yX0_isWithdrawn, Cond.selects RX0 yX0_isWithdrawn yX0_isWithdrawn, Cond.code yX0_isWithdrawn cX0_isWithdrawn 2 (some .boolean), Cond.fieldLink RX0 41 "LieForce$Force" "withdrawn" "I", Cond.static yX5_isAmong, Cond.code yX5_isAmong cX5_isAmong 3 (some .boolean), Cond.static yX5_isSaying, Cond.code yX5_isSaying cX5_isSaying 4 (some .boolean), Cond.methodLink RX5 260 yX5_isLiteral, Cond.static yX5_isLiteral, Cond.code yX5_isLiteral cX5_isLiteral 1 (some .boolean), Cond.methodLink RX3 65 yX0_addSaying, Cond.instanceMethod yX0_addSaying, Cond.selects RX0 yX0_addSaying yX0_addSaying, Cond.code yX0_addSaying cX0_addSaying 6 (some .int), Cond.fieldLink RX0 15 "LieForce$Force" "kinds" "[I", Cond.fieldLink RX0 19 "LieForce$Force" "firsts" "[I", Cond.fieldLink RX0 22 "LieForce$Force" "seconds" "[I", Cond.fieldLink RX0 25 "LieForce$Force" "persons" "[I", Cond.static yX5_worldsOfSaying, Cond.code yX5_worldsOfSaying cX5_worldsOfSaying 7 (some .long), Cond.constantLong RX5 273 (-1)]
def wsX3_putItem_r3 : List Cond := [Cond.methodLink RX5 224 yX5_worldsOfLiteral, Cond.static yX5_worldsOfLiteral, Cond.code yX5_worldsOfLiteral cX5_worldsOfLiteral 1 (some .long), Cond.fieldLink RX5 269 "LieForce" "WORLDS_OF_FACT" "[J"]
def wsX3_putItem : List Cond := .code yX3_putItem cX3_putItem 3 (some .boolean) :: ((wsX3_putItem_r1 ++ (wsX3_putItem_r2 ++ wsX3_putItem_r3)) ++ wsX30 ++ wsX00)
def wsX3_read_r1 : List Cond := [Cond.methodLink RX3 15 yX0_empty, Cond.instanceMethod yX0_empty, Cond.selects RX0 yX0_empty yX0_empty, Cond.initialized RX0, Cond.code yX0_empty cX0_empty 1 none, Cond.fieldLink RX0 35 "LieForce$Force" "facts" "I", Cond.fieldLink RX0 38 "LieForce$Force" "sayings" "I", Cond.fieldLink RX0 41 "LieForce$Force" "withdrawn" "I", Cond.fieldLink RX0 44 "LieForce$Force" "days" "I", Cond.fieldLink RX0 9 "LieForce$Force" "term" "I", Cond.methodLink RX3 20 yX3_letterAt, Cond.static yX3_letterAt, Cond.initialized RX3, Cond.code yX3_letterAt cX3_letterAt 3 (some .int), Cond.methodLink RX3 24 yX3_numbersOf, Cond.static yX3_numbersOf, Cond.code yX3_numbersOf cX3_numbersOf 1 (some .int), Cond.methodLink RX3 28 yX3_readNumbers, Cond.instanceMethod yX3_readNumbers, Cond.selects RX3 yX3_readNumbers yX3_readNumbers, Cond.code yX3_readNumbers cX3_readNumbers 8 (some .int), Cond.fieldLink RX3 11 "LieForce$Reader" "numbers" "[I", Cond.methodLink RX3 36 yX3_figuresAt, Cond.static yX3_figuresAt]
def wsX3_read_r2 : List Cond := [Cond.code yX3_figuresAt cX3_figuresAt 3 (some .int), Cond.methodLink RX3 42 yX3_isFigure, Cond.static yX3_isFigure, Cond.code yX3_isFigure cX3_isFigure 1 (some .boolean), Cond.methodLink RX3 39 yX3_numberOf, Cond.static yX3_numberOf, Cond.code yX3_numberOf cX3_numberOf 5 (some .int), Cond.methodLink RX3 32 yX3_putItem, Cond.instanceMethod yX3_putItem, Cond.selects RX3 yX3_putItem yX3_putItem, Cond.code yX3_putItem cX3_putItem 3 (some .boolean), Cond.fieldLink RX3 53 "LieForce$Force" "term" "I", Cond.methodLink RX3 46 yX0_turnFact, Cond.instanceMethod yX0_turnFact, Cond.selects RX0 yX0_turnFact yX0_turnFact, Cond.code yX0_turnFact cX0_turnFact 3 none, Cond.fieldLink RX0 28 "LieForce$Force" "served" "[I", Cond.static yX5_isFact, Cond.initialized RX5, Cond.code yX5_isFact cX5_isFact 1 (some .boolean), Cond.methodLink RX5 72 yX5_isWithin, Cond.static yX5_isWithin, Cond.code yX5_isWithin cX5_isWithin 3 (some .boolean), Cond.methodLink RX0 51 yX0_isThere]
def wsX3_read_r3 : List Cond := [Cond.instanceMethod yX0_isThere, Cond.selects RX0 yX0_isThere yX0_isThere, Cond.code yX0_isThere cX0_isThere 2 (some .boolean), Cond.methodLink RX0 62 yX0_hasPoliceman, Cond.instanceMethod yX0_hasPoliceman, Cond.selects RX0 yX0_hasPoliceman yX0_hasPoliceman, Cond.code yX0_hasPoliceman cX0_hasPoliceman 2 (some .boolean), Cond.fieldLink RX0 31 "LieForce$Force" "soWorlds" "[J", Cond.methodLink RX0 59 yX0_isWithdrawn, Cond.instanceMethod yX0_isWithdrawn, Cond.selects RX0 yX0_isWithdrawn yX0_isWithdrawn, Cond.code yX0_isWithdrawn cX0_isWithdrawn 2 (some .boolean), Cond.static yX5_isAmong, Cond.code yX5_isAmong cX5_isAmong 3 (some .boolean), Cond.static yX5_isSaying, Cond.code yX5_isSaying cX5_isSaying 4 (some .boolean), Cond.methodLink RX5 260 yX5_isLiteral, Cond.static yX5_isLiteral, Cond.code yX5_isLiteral cX5_isLiteral 1 (some .boolean), Cond.methodLink RX3 65 yX0_addSaying, Cond.instanceMethod yX0_addSaying, Cond.selects RX0 yX0_addSaying yX0_addSaying, Cond.code yX0_addSaying cX0_addSaying 6 (some .int), Cond.fieldLink RX0 15 "LieForce$Force" "kinds" "[I"]
def wsX3_read_r4 : List Cond := [Cond.fieldLink RX0 19 "LieForce$Force" "firsts" "[I", Cond.fieldLink RX0 22 "LieForce$Force" "seconds" "[I", Cond.fieldLink RX0 25 "LieForce$Force" "persons" "[I", Cond.static yX5_worldsOfSaying, Cond.code yX5_worldsOfSaying cX5_worldsOfSaying 7 (some .long), Cond.constantLong RX5 273 (-1), Cond.methodLink RX5 224 yX5_worldsOfLiteral, Cond.static yX5_worldsOfLiteral, Cond.code yX5_worldsOfLiteral cX5_worldsOfLiteral 1 (some .long), Cond.fieldLink RX5 269 "LieForce" "WORLDS_OF_FACT" "[J"]
def wsX3_read : List Cond := .code yX3_read cX3_read 8 (some .int) :: ((wsX3_read_r1 ++ (wsX3_read_r2 ++ (wsX3_read_r3 ++ wsX3_read_r4))) ++ wsX00 ++ wsX30)
def wsX4_init : List Cond := .code yX4_init cX4_init 1 none :: ([.methodLink RX4 3 objectInit, .instanceMethod objectInit, .code objectInit ⟨#[0xb1]⟩ 1 none, .arrayClass .int, .fieldLink RX4 9 "LieForce$Sight" "seen" "[I", .arrayClass .boolean, .fieldLink RX4 15 "LieForce$Sight" "has" "[Z"] ++ wsX40)
def wsX4_clear : List Cond := .code yX4_clear cX4_clear 1 none :: ([.fieldLink RX4 19 "LieForce$Sight" "size" "I"] ++ wsX40)
def wsX4_add : List Cond := .code yX4_add cX4_add 3 (some .int) :: ([.fieldLink RX4 19 "LieForce$Sight" "size" "I", .fieldLink RX4 9 "LieForce$Sight" "seen" "[I", .fieldLink RX4 15 "LieForce$Sight" "has" "[Z"] ++ wsX40)
def wsX4_worldsAsSeen : List Cond := .code yX4_worldsAsSeen cX4_worldsAsSeen 7 (some .long) :: ([.constantLong RX4 23 (-1), .fieldLink RX4 19 "LieForce$Sight" "size" "I", .fieldLink RX4 9 "LieForce$Sight" "seen" "[I", .fieldLink RX4 15 "LieForce$Sight" "has" "[Z", .methodLink RX4 25 yX0_policedWorlds, .instanceMethod yX0_policedWorlds, .selects RX0 yX0_policedWorlds yX0_policedWorlds, .initialized RX0, .code yX0_policedWorlds cX0_policedWorlds 2 (some .long), .fieldLink RX0 31 "LieForce$Force" "soWorlds" "[J", .constantLong RX0 91 (-1), .methodLink RX0 51 yX0_isThere, .instanceMethod yX0_isThere, .selects RX0 yX0_isThere yX0_isThere, .code yX0_isThere cX0_isThere 2 (some .boolean), .fieldLink RX0 38 "LieForce$Force" "sayings" "I", .methodLink RX0 59 yX0_isWithdrawn, .instanceMethod yX0_isWithdrawn, .selects RX0 yX0_isWithdrawn yX0_isWithdrawn, .code yX0_isWithdrawn cX0_isWithdrawn 2 (some .boolean), .fieldLink RX0 41 "LieForce$Force" "withdrawn" "I"] ++ wsX40 ++ wsX00)
def wsJ0_isLatin1_aae02 : List Cond := .code yJ0_isLatin1_aae02 cJ0_isLatin1_aae02 1 (some .boolean) :: ([.fieldLink RJ0 38 "java/lang/String" "COMPACT_STRINGS" "Z", .fieldLink RJ0 15 "java/lang/String" "coder" "B"])
def wsJ1_inflate_03870 : List Cond := .code yJ1_inflate_03870 cJ1_inflate_03870 6 none :: ([])
def wsJ1_toChars_9d188 : List Cond := .code yJ1_toChars_9d188 cJ1_toChars_9d188 2 (some (.array .char)) :: ([.arrayClass .char, .methodLink RJ1 13 yJ1_inflate_03870, .static yJ1_inflate_03870, .initialized RJ1, .code yJ1_inflate_03870 cJ1_inflate_03870 6 none])
def wsJ2_length_9d52b : List Cond := .code yJ2_length_9d52b cJ2_length_9d52b 1 (some .int) :: ([])
def wsJ3_checkFromIndexSize_8c36e : List Cond := .code yJ3_checkFromIndexSize_8c36e cJ3_checkFromIndexSize_8c36e 4 (some .int) :: ([])
def wsJ0_checkBoundsOffCount_cabcc : List Cond := .code yJ0_checkBoundsOffCount_cabcc cJ0_checkBoundsOffCount_cabcc 3 (some .int) :: ([.fieldLink RJ0 1053 "jdk/internal/util/Preconditions" "SIOOBE_FORMATTER" "Ljava/util/function/BiFunction;", .methodLink RJ0 1065 yJ3_checkFromIndexSize_8c36e, .static yJ3_checkFromIndexSize_8c36e, .initialized RJ3, .code yJ3_checkFromIndexSize_8c36e cJ3_checkFromIndexSize_8c36e 4 (some .int)])
def wsJ2_checkBoundsOffCount_d044e : List Cond := .code yJ2_checkBoundsOffCount_d044e cJ2_checkBoundsOffCount_d044e 3 none :: ([.methodLink RJ2 48 yJ2_length_9d52b, .static yJ2_length_9d52b, .initialized RJ2, .code yJ2_length_9d52b cJ2_length_9d52b 1 (some .int), .methodLink RJ2 419 yJ0_checkBoundsOffCount_cabcc, .static yJ0_checkBoundsOffCount_cabcc, .initialized RJ0, .code yJ0_checkBoundsOffCount_cabcc cJ0_checkBoundsOffCount_cabcc 3 (some .int), .fieldLink RJ0 1053 "jdk/internal/util/Preconditions" "SIOOBE_FORMATTER" "Ljava/util/function/BiFunction;", .methodLink RJ0 1065 yJ3_checkFromIndexSize_8c36e, .static yJ3_checkFromIndexSize_8c36e, .initialized RJ3, .code yJ3_checkFromIndexSize_8c36e cJ3_checkFromIndexSize_8c36e 4 (some .int)])
def wsJ2_getChar_3b067 : List Cond := .code yJ2_getChar_3b067 cJ2_getChar_3b067 2 (some .char) :: ([.fieldLink RJ2 44 "java/lang/StringUTF16" "$assertionsDisabled" "Z", .fieldLink RJ2 59 "java/lang/StringUTF16" "HI_BYTE_SHIFT" "I", .fieldLink RJ2 63 "java/lang/StringUTF16" "LO_BYTE_SHIFT" "I", .methodLink RJ2 48 yJ2_length_9d52b, .static yJ2_length_9d52b, .initialized RJ2, .code yJ2_length_9d52b cJ2_length_9d52b 1 (some .int)])
def wsJ2_getChars_a1a8b : List Cond := .code yJ2_getChars_a1a8b cJ2_getChars_a1a8b 6 none :: ([.methodLink RJ2 173 yJ2_checkBoundsOffCount_d044e, .static yJ2_checkBoundsOffCount_d044e, .initialized RJ2, .code yJ2_checkBoundsOffCount_d044e cJ2_checkBoundsOffCount_d044e 3 none, .methodLink RJ2 48 yJ2_length_9d52b, .static yJ2_length_9d52b, .code yJ2_length_9d52b cJ2_length_9d52b 1 (some .int), .methodLink RJ2 419 yJ0_checkBoundsOffCount_cabcc, .static yJ0_checkBoundsOffCount_cabcc, .initialized RJ0, .code yJ0_checkBoundsOffCount_cabcc cJ0_checkBoundsOffCount_cabcc 3 (some .int), .fieldLink RJ0 1053 "jdk/internal/util/Preconditions" "SIOOBE_FORMATTER" "Ljava/util/function/BiFunction;", .methodLink RJ0 1065 yJ3_checkFromIndexSize_8c36e, .static yJ3_checkFromIndexSize_8c36e, .initialized RJ3, .code yJ3_checkFromIndexSize_8c36e cJ3_checkFromIndexSize_8c36e 4 (some .int), .methodLink RJ2 71 yJ2_getChar_3b067, .static yJ2_getChar_3b067, .code yJ2_getChar_3b067 cJ2_getChar_3b067 2 (some .char), .fieldLink RJ2 44 "java/lang/StringUTF16" "$assertionsDisabled" "Z", .fieldLink RJ2 59 "java/lang/StringUTF16" "HI_BYTE_SHIFT" "I", .fieldLink RJ2 63 "java/lang/StringUTF16" "LO_BYTE_SHIFT" "I"])
def wsJ2_toChars_9d188_r1 : List Cond := [Cond.arrayClass .char, Cond.methodLink RJ2 103 yJ2_getChars_a1a8b, Cond.static yJ2_getChars_a1a8b, Cond.initialized RJ2, Cond.code yJ2_getChars_a1a8b cJ2_getChars_a1a8b 6 none, Cond.methodLink RJ2 173 yJ2_checkBoundsOffCount_d044e, Cond.static yJ2_checkBoundsOffCount_d044e, Cond.code yJ2_checkBoundsOffCount_d044e cJ2_checkBoundsOffCount_d044e 3 none, Cond.methodLink RJ2 48 yJ2_length_9d52b, Cond.static yJ2_length_9d52b, Cond.code yJ2_length_9d52b cJ2_length_9d52b 1 (some .int), Cond.methodLink RJ2 419 yJ0_checkBoundsOffCount_cabcc, Cond.static yJ0_checkBoundsOffCount_cabcc, Cond.initialized RJ0, Cond.code yJ0_checkBoundsOffCount_cabcc cJ0_checkBoundsOffCount_cabcc 3 (some .int), Cond.fieldLink RJ0 1053 "jdk/internal/util/Preconditions" "SIOOBE_FORMATTER" "Ljava/util/function/BiFunction;", Cond.methodLink RJ0 1065 yJ3_checkFromIndexSize_8c36e, Cond.static yJ3_checkFromIndexSize_8c36e, Cond.initialized RJ3, Cond.code yJ3_checkFromIndexSize_8c36e cJ3_checkFromIndexSize_8c36e 4 (some .int), Cond.methodLink RJ2 71 yJ2_getChar_3b067, Cond.static yJ2_getChar_3b067, Cond.code yJ2_getChar_3b067 cJ2_getChar_3b067 2 (some .char), Cond.fieldLink RJ2 44 "java/lang/StringUTF16" "$assertionsDisabled" "Z"]
def wsJ2_toChars_9d188_r2 : List Cond := [Cond.fieldLink RJ2 59 "java/lang/StringUTF16" "HI_BYTE_SHIFT" "I", Cond.fieldLink RJ2 63 "java/lang/StringUTF16" "LO_BYTE_SHIFT" "I"]
def wsJ2_toChars_9d188 : List Cond := .code yJ2_toChars_9d188 cJ2_toChars_9d188 2 (some (.array .char)) :: ((wsJ2_toChars_9d188_r1 ++ wsJ2_toChars_9d188_r2))
def wsJ0_toCharArray_70df3_r1 : List Cond := [Cond.fieldLink RJ0 9 "java/lang/String" "value" "[B", Cond.methodLink RJ0 492 yJ0_isLatin1_aae02, Cond.instanceMethod yJ0_isLatin1_aae02, Cond.selects RJ0 yJ0_isLatin1_aae02 yJ0_isLatin1_aae02, Cond.initialized RJ0, Cond.code yJ0_isLatin1_aae02 cJ0_isLatin1_aae02 1 (some .boolean), Cond.fieldLink RJ0 38 "java/lang/String" "COMPACT_STRINGS" "Z", Cond.fieldLink RJ0 15 "java/lang/String" "coder" "B", Cond.methodLink RJ0 299 yJ1_toChars_9d188, Cond.static yJ1_toChars_9d188, Cond.initialized RJ1, Cond.code yJ1_toChars_9d188 cJ1_toChars_9d188 2 (some (.array .char)), Cond.arrayClass .char, Cond.methodLink RJ1 13 yJ1_inflate_03870, Cond.static yJ1_inflate_03870, Cond.code yJ1_inflate_03870 cJ1_inflate_03870 6 none, Cond.methodLink RJ0 303 yJ2_toChars_9d188, Cond.static yJ2_toChars_9d188, Cond.initialized RJ2, Cond.code yJ2_toChars_9d188 cJ2_toChars_9d188 2 (some (.array .char)), Cond.methodLink RJ2 103 yJ2_getChars_a1a8b, Cond.static yJ2_getChars_a1a8b, Cond.code yJ2_getChars_a1a8b cJ2_getChars_a1a8b 6 none, Cond.methodLink RJ2 173 yJ2_checkBoundsOffCount_d044e]
def wsJ0_toCharArray_70df3_r2 : List Cond := [Cond.static yJ2_checkBoundsOffCount_d044e, Cond.code yJ2_checkBoundsOffCount_d044e cJ2_checkBoundsOffCount_d044e 3 none, Cond.methodLink RJ2 48 yJ2_length_9d52b, Cond.static yJ2_length_9d52b, Cond.code yJ2_length_9d52b cJ2_length_9d52b 1 (some .int), Cond.methodLink RJ2 419 yJ0_checkBoundsOffCount_cabcc, Cond.static yJ0_checkBoundsOffCount_cabcc, Cond.code yJ0_checkBoundsOffCount_cabcc cJ0_checkBoundsOffCount_cabcc 3 (some .int), Cond.fieldLink RJ0 1053 "jdk/internal/util/Preconditions" "SIOOBE_FORMATTER" "Ljava/util/function/BiFunction;", Cond.methodLink RJ0 1065 yJ3_checkFromIndexSize_8c36e, Cond.static yJ3_checkFromIndexSize_8c36e, Cond.initialized RJ3, Cond.code yJ3_checkFromIndexSize_8c36e cJ3_checkFromIndexSize_8c36e 4 (some .int), Cond.methodLink RJ2 71 yJ2_getChar_3b067, Cond.static yJ2_getChar_3b067, Cond.code yJ2_getChar_3b067 cJ2_getChar_3b067 2 (some .char), Cond.fieldLink RJ2 44 "java/lang/StringUTF16" "$assertionsDisabled" "Z", Cond.fieldLink RJ2 59 "java/lang/StringUTF16" "HI_BYTE_SHIFT" "I", Cond.fieldLink RJ2 63 "java/lang/StringUTF16" "LO_BYTE_SHIFT" "I"]
def wsJ0_toCharArray_70df3 : List Cond := .code yJ0_toCharArray_70df3 cJ0_toCharArray_70df3 1 (some (.array .char)) :: ((wsJ0_toCharArray_70df3_r1 ++ wsJ0_toCharArray_70df3_r2))
def wsX5_firstForce_r1 : List Cond := [Cond.classLink RX5 28 RX0, Cond.instantiable RX0 11, Cond.initialized RX0, Cond.classLink RX5 13 RX3, Cond.instantiable RX3 1, Cond.initialized RX3, Cond.instanceMethod yX0_init, Cond.code yX0_init cX0_init 1 none, Cond.methodLink RX0 3 objectInit, Cond.instanceMethod objectInit, Cond.code objectInit ⟨#[0xb1]⟩ 1 none, Cond.fieldLink RX0 9 "LieForce$Force" "term" "I", Cond.arrayClass .int, Cond.fieldLink RX0 15 "LieForce$Force" "kinds" "[I", Cond.fieldLink RX0 19 "LieForce$Force" "firsts" "[I", Cond.fieldLink RX0 22 "LieForce$Force" "seconds" "[I", Cond.fieldLink RX0 25 "LieForce$Force" "persons" "[I", Cond.fieldLink RX0 28 "LieForce$Force" "served" "[I", Cond.arrayClass .long, Cond.fieldLink RX0 31 "LieForce$Force" "soWorlds" "[J", Cond.methodLink RX5 62 yJ0_toCharArray_70df3, Cond.instanceMethod yJ0_toCharArray_70df3, Cond.selects RJ0 yJ0_toCharArray_70df3 yJ0_toCharArray_70df3, Cond.initialized RJ0]
def wsX5_firstForce_r2 : List Cond := [Cond.code yJ0_toCharArray_70df3 cJ0_toCharArray_70df3 1 (some (.array .char)), Cond.fieldLink RJ0 9 "java/lang/String" "value" "[B", Cond.methodLink RJ0 492 yJ0_isLatin1_aae02, Cond.instanceMethod yJ0_isLatin1_aae02, Cond.selects RJ0 yJ0_isLatin1_aae02 yJ0_isLatin1_aae02, Cond.code yJ0_isLatin1_aae02 cJ0_isLatin1_aae02 1 (some .boolean), Cond.fieldLink RJ0 38 "java/lang/String" "COMPACT_STRINGS" "Z", Cond.fieldLink RJ0 15 "java/lang/String" "coder" "B", Cond.methodLink RJ0 299 yJ1_toChars_9d188, Cond.static yJ1_toChars_9d188, Cond.initialized RJ1, Cond.code yJ1_toChars_9d188 cJ1_toChars_9d188 2 (some (.array .char)), Cond.arrayClass .char, Cond.methodLink RJ1 13 yJ1_inflate_03870, Cond.static yJ1_inflate_03870, Cond.code yJ1_inflate_03870 cJ1_inflate_03870 6 none, Cond.methodLink RJ0 303 yJ2_toChars_9d188, Cond.static yJ2_toChars_9d188, Cond.initialized RJ2, Cond.code yJ2_toChars_9d188 cJ2_toChars_9d188 2 (some (.array .char)), Cond.methodLink RJ2 103 yJ2_getChars_a1a8b, Cond.static yJ2_getChars_a1a8b, Cond.code yJ2_getChars_a1a8b cJ2_getChars_a1a8b 6 none, Cond.methodLink RJ2 173 yJ2_checkBoundsOffCount_d044e]
def wsX5_firstForce_r3 : List Cond := [Cond.static yJ2_checkBoundsOffCount_d044e, Cond.code yJ2_checkBoundsOffCount_d044e cJ2_checkBoundsOffCount_d044e 3 none, Cond.methodLink RJ2 48 yJ2_length_9d52b, Cond.static yJ2_length_9d52b, Cond.code yJ2_length_9d52b cJ2_length_9d52b 1 (some .int), Cond.methodLink RJ2 419 yJ0_checkBoundsOffCount_cabcc, Cond.static yJ0_checkBoundsOffCount_cabcc, Cond.code yJ0_checkBoundsOffCount_cabcc cJ0_checkBoundsOffCount_cabcc 3 (some .int), Cond.fieldLink RJ0 1053 "jdk/internal/util/Preconditions" "SIOOBE_FORMATTER" "Ljava/util/function/BiFunction;", Cond.methodLink RJ0 1065 yJ3_checkFromIndexSize_8c36e, Cond.static yJ3_checkFromIndexSize_8c36e, Cond.initialized RJ3, Cond.code yJ3_checkFromIndexSize_8c36e cJ3_checkFromIndexSize_8c36e 4 (some .int), Cond.methodLink RJ2 71 yJ2_getChar_3b067, Cond.static yJ2_getChar_3b067, Cond.code yJ2_getChar_3b067 cJ2_getChar_3b067 2 (some .char), Cond.fieldLink RJ2 44 "java/lang/StringUTF16" "$assertionsDisabled" "Z", Cond.fieldLink RJ2 59 "java/lang/StringUTF16" "HI_BYTE_SHIFT" "I", Cond.fieldLink RJ2 63 "java/lang/StringUTF16" "LO_BYTE_SHIFT" "I", Cond.instanceMethod yX3_init, Cond.code yX3_init cX3_init 1 none, Cond.methodLink RX3 3 objectInit, Cond.fieldLink RX3 11 "LieForce$Reader" "numbers" "[I", Cond.methodLink RX5 68 yX3_read]
def wsX5_firstForce_r4 : List Cond := [Cond.instanceMethod yX3_read, Cond.selects RX3 yX3_read yX3_read, Cond.code yX3_read cX3_read 8 (some .int), Cond.methodLink RX3 15 yX0_empty, Cond.instanceMethod yX0_empty, Cond.selects RX0 yX0_empty yX0_empty, Cond.code yX0_empty cX0_empty 1 none, Cond.fieldLink RX0 35 "LieForce$Force" "facts" "I", Cond.fieldLink RX0 38 "LieForce$Force" "sayings" "I", Cond.fieldLink RX0 41 "LieForce$Force" "withdrawn" "I", Cond.fieldLink RX0 44 "LieForce$Force" "days" "I", Cond.methodLink RX3 20 yX3_letterAt, Cond.static yX3_letterAt, Cond.code yX3_letterAt cX3_letterAt 3 (some .int), Cond.methodLink RX3 24 yX3_numbersOf, Cond.static yX3_numbersOf, Cond.code yX3_numbersOf cX3_numbersOf 1 (some .int), Cond.methodLink RX3 28 yX3_readNumbers, Cond.instanceMethod yX3_readNumbers, Cond.selects RX3 yX3_readNumbers yX3_readNumbers, Cond.code yX3_readNumbers cX3_readNumbers 8 (some .int), Cond.methodLink RX3 36 yX3_figuresAt, Cond.static yX3_figuresAt, Cond.code yX3_figuresAt cX3_figuresAt 3 (some .int)]
def wsX5_firstForce_r5 : List Cond := [Cond.methodLink RX3 42 yX3_isFigure, Cond.static yX3_isFigure, Cond.code yX3_isFigure cX3_isFigure 1 (some .boolean), Cond.methodLink RX3 39 yX3_numberOf, Cond.static yX3_numberOf, Cond.code yX3_numberOf cX3_numberOf 5 (some .int), Cond.methodLink RX3 32 yX3_putItem, Cond.instanceMethod yX3_putItem, Cond.selects RX3 yX3_putItem yX3_putItem, Cond.code yX3_putItem cX3_putItem 3 (some .boolean), Cond.fieldLink RX3 53 "LieForce$Force" "term" "I", Cond.methodLink RX3 46 yX0_turnFact, Cond.instanceMethod yX0_turnFact, Cond.selects RX0 yX0_turnFact yX0_turnFact, Cond.code yX0_turnFact cX0_turnFact 3 none, Cond.static yX5_isFact, Cond.initialized RX5, Cond.code yX5_isFact cX5_isFact 1 (some .boolean), Cond.methodLink RX5 72 yX5_isWithin, Cond.static yX5_isWithin, Cond.code yX5_isWithin cX5_isWithin 3 (some .boolean), Cond.methodLink RX0 51 yX0_isThere, Cond.instanceMethod yX0_isThere, Cond.selects RX0 yX0_isThere yX0_isThere]
def wsX5_firstForce_r6 : List Cond := [Cond.code yX0_isThere cX0_isThere 2 (some .boolean), Cond.methodLink RX0 62 yX0_hasPoliceman, Cond.instanceMethod yX0_hasPoliceman, Cond.selects RX0 yX0_hasPoliceman yX0_hasPoliceman, Cond.code yX0_hasPoliceman cX0_hasPoliceman 2 (some .boolean), Cond.methodLink RX0 59 yX0_isWithdrawn, Cond.instanceMethod yX0_isWithdrawn, Cond.selects RX0 yX0_isWithdrawn yX0_isWithdrawn, Cond.code yX0_isWithdrawn cX0_isWithdrawn 2 (some .boolean), Cond.static yX5_isAmong, Cond.code yX5_isAmong cX5_isAmong 3 (some .boolean), Cond.static yX5_isSaying, Cond.code yX5_isSaying cX5_isSaying 4 (some .boolean), Cond.methodLink RX5 260 yX5_isLiteral, Cond.static yX5_isLiteral, Cond.code yX5_isLiteral cX5_isLiteral 1 (some .boolean), Cond.methodLink RX3 65 yX0_addSaying, Cond.instanceMethod yX0_addSaying, Cond.selects RX0 yX0_addSaying yX0_addSaying, Cond.code yX0_addSaying cX0_addSaying 6 (some .int), Cond.static yX5_worldsOfSaying, Cond.code yX5_worldsOfSaying cX5_worldsOfSaying 7 (some .long), Cond.constantLong RX5 273 (-1), Cond.methodLink RX5 224 yX5_worldsOfLiteral]
def wsX5_firstForce_r7 : List Cond := [Cond.static yX5_worldsOfLiteral, Cond.code yX5_worldsOfLiteral cX5_worldsOfLiteral 1 (some .long), Cond.fieldLink RX5 269 "LieForce" "WORLDS_OF_FACT" "[J"]
def wsX5_firstForce : List Cond := .code yX5_firstForce cX5_firstForce 2 (some (.object "LieForce$Force")) :: ((wsX5_firstForce_r1 ++ (wsX5_firstForce_r2 ++ (wsX5_firstForce_r3 ++ (wsX5_firstForce_r4 ++ (wsX5_firstForce_r5 ++ (wsX5_firstForce_r6 ++ wsX5_firstForce_r7)))))) ++ wsX00 ++ wsX30)
def wsX5_init_r1 : List Cond := [Cond.methodLink RX5 1 objectInit, Cond.instanceMethod objectInit, Cond.code objectInit ⟨#[0xb1]⟩ 1 none, Cond.arrayClass .char, Cond.fieldLink RX5 9 "LieForce" "letters" "[C", Cond.classLink RX5 13 RX3, Cond.instantiable RX3 1, Cond.initialized RX3, Cond.fieldLink RX5 16 "LieForce" "reader" "LLieForce$Reader;", Cond.fieldLink RX5 24 "LieForce" "now" "LLieForce$Force;", Cond.classLink RX5 28 RX0, Cond.instantiable RX0 11, Cond.initialized RX0, Cond.fieldLink RX5 31 "LieForce" "ahead" "LLieForce$Force;", Cond.classLink RX5 34 RX2, Cond.instantiable RX2 2, Cond.initialized RX2, Cond.fieldLink RX5 39 "LieForce" "undoable" "LLieForce$Pile;", Cond.fieldLink RX5 43 "LieForce" "kept" "LLieForce$Pile;", Cond.classLink RX5 46 RX4, Cond.instantiable RX4 3, Cond.initialized RX4, Cond.fieldLink RX5 49 "LieForce" "sight" "LLieForce$Sight;", Cond.classLink RX5 53 RX1]
def wsX5_init_r2 : List Cond := [Cond.instantiable RX1 2, Cond.initialized RX1, Cond.fieldLink RX5 56 "LieForce" "game" "LLieForce$Game;", Cond.instanceMethod yX3_init, Cond.code yX3_init cX3_init 1 none, Cond.methodLink RX3 3 objectInit, Cond.arrayClass .int, Cond.fieldLink RX3 11 "LieForce$Reader" "numbers" "[I", Cond.methodLink RX5 20 yX5_firstForce, Cond.static yX5_firstForce, Cond.initialized RX5, Cond.code yX5_firstForce cX5_firstForce 2 (some (.object "LieForce$Force")), Cond.instanceMethod yX0_init, Cond.code yX0_init cX0_init 1 none, Cond.methodLink RX0 3 objectInit, Cond.fieldLink RX0 9 "LieForce$Force" "term" "I", Cond.fieldLink RX0 15 "LieForce$Force" "kinds" "[I", Cond.fieldLink RX0 19 "LieForce$Force" "firsts" "[I", Cond.fieldLink RX0 22 "LieForce$Force" "seconds" "[I", Cond.fieldLink RX0 25 "LieForce$Force" "persons" "[I", Cond.fieldLink RX0 28 "LieForce$Force" "served" "[I", Cond.arrayClass .long, Cond.fieldLink RX0 31 "LieForce$Force" "soWorlds" "[J", Cond.methodLink RX5 62 yJ0_toCharArray_70df3]
def wsX5_init_r3 : List Cond := [Cond.instanceMethod yJ0_toCharArray_70df3, Cond.selects RJ0 yJ0_toCharArray_70df3 yJ0_toCharArray_70df3, Cond.initialized RJ0, Cond.code yJ0_toCharArray_70df3 cJ0_toCharArray_70df3 1 (some (.array .char)), Cond.fieldLink RJ0 9 "java/lang/String" "value" "[B", Cond.methodLink RJ0 492 yJ0_isLatin1_aae02, Cond.instanceMethod yJ0_isLatin1_aae02, Cond.selects RJ0 yJ0_isLatin1_aae02 yJ0_isLatin1_aae02, Cond.code yJ0_isLatin1_aae02 cJ0_isLatin1_aae02 1 (some .boolean), Cond.fieldLink RJ0 38 "java/lang/String" "COMPACT_STRINGS" "Z", Cond.fieldLink RJ0 15 "java/lang/String" "coder" "B", Cond.methodLink RJ0 299 yJ1_toChars_9d188, Cond.static yJ1_toChars_9d188, Cond.initialized RJ1, Cond.code yJ1_toChars_9d188 cJ1_toChars_9d188 2 (some (.array .char)), Cond.methodLink RJ1 13 yJ1_inflate_03870, Cond.static yJ1_inflate_03870, Cond.code yJ1_inflate_03870 cJ1_inflate_03870 6 none, Cond.methodLink RJ0 303 yJ2_toChars_9d188, Cond.static yJ2_toChars_9d188, Cond.initialized RJ2, Cond.code yJ2_toChars_9d188 cJ2_toChars_9d188 2 (some (.array .char)), Cond.methodLink RJ2 103 yJ2_getChars_a1a8b, Cond.static yJ2_getChars_a1a8b]
def wsX5_init_r4 : List Cond := [Cond.code yJ2_getChars_a1a8b cJ2_getChars_a1a8b 6 none, Cond.methodLink RJ2 173 yJ2_checkBoundsOffCount_d044e, Cond.static yJ2_checkBoundsOffCount_d044e, Cond.code yJ2_checkBoundsOffCount_d044e cJ2_checkBoundsOffCount_d044e 3 none, Cond.methodLink RJ2 48 yJ2_length_9d52b, Cond.static yJ2_length_9d52b, Cond.code yJ2_length_9d52b cJ2_length_9d52b 1 (some .int), Cond.methodLink RJ2 419 yJ0_checkBoundsOffCount_cabcc, Cond.static yJ0_checkBoundsOffCount_cabcc, Cond.code yJ0_checkBoundsOffCount_cabcc cJ0_checkBoundsOffCount_cabcc 3 (some .int), Cond.fieldLink RJ0 1053 "jdk/internal/util/Preconditions" "SIOOBE_FORMATTER" "Ljava/util/function/BiFunction;", Cond.methodLink RJ0 1065 yJ3_checkFromIndexSize_8c36e, Cond.static yJ3_checkFromIndexSize_8c36e, Cond.initialized RJ3, Cond.code yJ3_checkFromIndexSize_8c36e cJ3_checkFromIndexSize_8c36e 4 (some .int), Cond.methodLink RJ2 71 yJ2_getChar_3b067, Cond.static yJ2_getChar_3b067, Cond.code yJ2_getChar_3b067 cJ2_getChar_3b067 2 (some .char), Cond.fieldLink RJ2 44 "java/lang/StringUTF16" "$assertionsDisabled" "Z", Cond.fieldLink RJ2 59 "java/lang/StringUTF16" "HI_BYTE_SHIFT" "I", Cond.fieldLink RJ2 63 "java/lang/StringUTF16" "LO_BYTE_SHIFT" "I", Cond.methodLink RX5 68 yX3_read, Cond.instanceMethod yX3_read, Cond.selects RX3 yX3_read yX3_read]
def wsX5_init_r5 : List Cond := [Cond.code yX3_read cX3_read 8 (some .int), Cond.methodLink RX3 15 yX0_empty, Cond.instanceMethod yX0_empty, Cond.selects RX0 yX0_empty yX0_empty, Cond.code yX0_empty cX0_empty 1 none, Cond.fieldLink RX0 35 "LieForce$Force" "facts" "I", Cond.fieldLink RX0 38 "LieForce$Force" "sayings" "I", Cond.fieldLink RX0 41 "LieForce$Force" "withdrawn" "I", Cond.fieldLink RX0 44 "LieForce$Force" "days" "I", Cond.methodLink RX3 20 yX3_letterAt, Cond.static yX3_letterAt, Cond.code yX3_letterAt cX3_letterAt 3 (some .int), Cond.methodLink RX3 24 yX3_numbersOf, Cond.static yX3_numbersOf, Cond.code yX3_numbersOf cX3_numbersOf 1 (some .int), Cond.methodLink RX3 28 yX3_readNumbers, Cond.instanceMethod yX3_readNumbers, Cond.selects RX3 yX3_readNumbers yX3_readNumbers, Cond.code yX3_readNumbers cX3_readNumbers 8 (some .int), Cond.methodLink RX3 36 yX3_figuresAt, Cond.static yX3_figuresAt, Cond.code yX3_figuresAt cX3_figuresAt 3 (some .int), Cond.methodLink RX3 42 yX3_isFigure, Cond.static yX3_isFigure]
def wsX5_init_r6 : List Cond := [Cond.code yX3_isFigure cX3_isFigure 1 (some .boolean), Cond.methodLink RX3 39 yX3_numberOf, Cond.static yX3_numberOf, Cond.code yX3_numberOf cX3_numberOf 5 (some .int), Cond.methodLink RX3 32 yX3_putItem, Cond.instanceMethod yX3_putItem, Cond.selects RX3 yX3_putItem yX3_putItem, Cond.code yX3_putItem cX3_putItem 3 (some .boolean), Cond.fieldLink RX3 53 "LieForce$Force" "term" "I", Cond.methodLink RX3 46 yX0_turnFact, Cond.instanceMethod yX0_turnFact, Cond.selects RX0 yX0_turnFact yX0_turnFact, Cond.code yX0_turnFact cX0_turnFact 3 none, Cond.static yX5_isFact, Cond.code yX5_isFact cX5_isFact 1 (some .boolean), Cond.methodLink RX5 72 yX5_isWithin, Cond.static yX5_isWithin, Cond.code yX5_isWithin cX5_isWithin 3 (some .boolean), Cond.methodLink RX0 51 yX0_isThere, Cond.instanceMethod yX0_isThere, Cond.selects RX0 yX0_isThere yX0_isThere, Cond.code yX0_isThere cX0_isThere 2 (some .boolean), Cond.methodLink RX0 62 yX0_hasPoliceman, Cond.instanceMethod yX0_hasPoliceman]
def wsX5_init_r7 : List Cond := [Cond.selects RX0 yX0_hasPoliceman yX0_hasPoliceman, Cond.code yX0_hasPoliceman cX0_hasPoliceman 2 (some .boolean), Cond.methodLink RX0 59 yX0_isWithdrawn, Cond.instanceMethod yX0_isWithdrawn, Cond.selects RX0 yX0_isWithdrawn yX0_isWithdrawn, Cond.code yX0_isWithdrawn cX0_isWithdrawn 2 (some .boolean), Cond.static yX5_isAmong, Cond.code yX5_isAmong cX5_isAmong 3 (some .boolean), Cond.static yX5_isSaying, Cond.code yX5_isSaying cX5_isSaying 4 (some .boolean), Cond.methodLink RX5 260 yX5_isLiteral, Cond.static yX5_isLiteral, Cond.code yX5_isLiteral cX5_isLiteral 1 (some .boolean), Cond.methodLink RX3 65 yX0_addSaying, Cond.instanceMethod yX0_addSaying, Cond.selects RX0 yX0_addSaying yX0_addSaying, Cond.code yX0_addSaying cX0_addSaying 6 (some .int), Cond.static yX5_worldsOfSaying, Cond.code yX5_worldsOfSaying cX5_worldsOfSaying 7 (some .long), Cond.constantLong RX5 273 (-1), Cond.methodLink RX5 224 yX5_worldsOfLiteral, Cond.static yX5_worldsOfLiteral, Cond.code yX5_worldsOfLiteral cX5_worldsOfLiteral 1 (some .long), Cond.fieldLink RX5 269 "LieForce" "WORLDS_OF_FACT" "[J"]
def wsX5_init_r8 : List Cond := [Cond.methodLink RX5 36 yX2_init, Cond.instanceMethod yX2_init, Cond.code yX2_init cX2_init 3 none, Cond.methodLink RX2 1 objectInit, Cond.classLink RX2 7 RX0, Cond.fieldLink RX2 9 "LieForce$Pile" "stood" "[LLieForce$Force;", Cond.instanceMethod yX4_init, Cond.code yX4_init cX4_init 1 none, Cond.methodLink RX4 3 objectInit, Cond.fieldLink RX4 9 "LieForce$Sight" "seen" "[I", Cond.arrayClass .boolean, Cond.fieldLink RX4 15 "LieForce$Sight" "has" "[Z", Cond.instanceMethod yX1_init, Cond.code yX1_init cX1_init 1 none, Cond.methodLink RX1 3 objectInit, Cond.fieldLink RX1 9 "LieForce$Game" "behindTurn" "[I", Cond.fieldLink RX1 15 "LieForce$Game" "best" "[I"]
def wsX5_init : List Cond := .code yX5_init cX5_init 1 none :: ((wsX5_init_r1 ++ (wsX5_init_r2 ++ (wsX5_init_r3 ++ (wsX5_init_r4 ++ (wsX5_init_r5 ++ (wsX5_init_r6 ++ (wsX5_init_r7 ++ wsX5_init_r8))))))) ++ wsX50 ++ wsX30 ++ wsX00 ++ wsX20 ++ wsX40 ++ wsX10)
def wsX5_write : List Cond := .code yX5_write cX5_write 2 (some .int) :: ([.fieldLink RX5 76 "LieForce" "length" "I", .fieldLink RX5 9 "LieForce" "letters" "[C", .methodLink RX5 72 yX5_isWithin, .static yX5_isWithin, .initialized RX5, .code yX5_isWithin cX5_isWithin 3 (some .boolean)] ++ wsX50)
def wsX5_wipe : List Cond := .code yX5_wipe cX5_wipe 2 (some .int) :: ([.fieldLink RX5 76 "LieForce" "length" "I"] ++ wsX50)
def wsX5_fault_r1 : List Cond := [Cond.fieldLink RX5 16 "LieForce" "reader" "LLieForce$Reader;", Cond.fieldLink RX5 9 "LieForce" "letters" "[C", Cond.fieldLink RX5 76 "LieForce" "length" "I", Cond.fieldLink RX5 31 "LieForce" "ahead" "LLieForce$Force;", Cond.methodLink RX5 68 yX3_read, Cond.instanceMethod yX3_read, Cond.selects RX3 yX3_read yX3_read, Cond.initialized RX3, Cond.code yX3_read cX3_read 8 (some .int), Cond.methodLink RX3 15 yX0_empty, Cond.instanceMethod yX0_empty, Cond.selects RX0 yX0_empty yX0_empty, Cond.initialized RX0, Cond.code yX0_empty cX0_empty 1 none, Cond.fieldLink RX0 35 "LieForce$Force" "facts" "I", Cond.fieldLink RX0 38 "LieForce$Force" "sayings" "I", Cond.fieldLink RX0 41 "LieForce$Force" "withdrawn" "I", Cond.fieldLink RX0 44 "LieForce$Force" "days" "I", Cond.fieldLink RX0 9 "LieForce$Force" "term" "I", Cond.methodLink RX3 20 yX3_letterAt, Cond.static yX3_letterAt, Cond.code yX3_letterAt cX3_letterAt 3 (some .int), Cond.methodLink RX3 24 yX3_numbersOf, Cond.static yX3_numbersOf]
def wsX5_fault_r2 : List Cond := [Cond.code yX3_numbersOf cX3_numbersOf 1 (some .int), Cond.methodLink RX3 28 yX3_readNumbers, Cond.instanceMethod yX3_readNumbers, Cond.selects RX3 yX3_readNumbers yX3_readNumbers, Cond.code yX3_readNumbers cX3_readNumbers 8 (some .int), Cond.fieldLink RX3 11 "LieForce$Reader" "numbers" "[I", Cond.methodLink RX3 36 yX3_figuresAt, Cond.static yX3_figuresAt, Cond.code yX3_figuresAt cX3_figuresAt 3 (some .int), Cond.methodLink RX3 42 yX3_isFigure, Cond.static yX3_isFigure, Cond.code yX3_isFigure cX3_isFigure 1 (some .boolean), Cond.methodLink RX3 39 yX3_numberOf, Cond.static yX3_numberOf, Cond.code yX3_numberOf cX3_numberOf 5 (some .int), Cond.methodLink RX3 32 yX3_putItem, Cond.instanceMethod yX3_putItem, Cond.selects RX3 yX3_putItem yX3_putItem, Cond.code yX3_putItem cX3_putItem 3 (some .boolean), Cond.fieldLink RX3 53 "LieForce$Force" "term" "I", Cond.methodLink RX3 46 yX0_turnFact, Cond.instanceMethod yX0_turnFact, Cond.selects RX0 yX0_turnFact yX0_turnFact, Cond.code yX0_turnFact cX0_turnFact 3 none]
def wsX5_fault_r3 : List Cond := [Cond.fieldLink RX0 28 "LieForce$Force" "served" "[I", Cond.static yX5_isFact, Cond.initialized RX5, Cond.code yX5_isFact cX5_isFact 1 (some .boolean), Cond.methodLink RX5 72 yX5_isWithin, Cond.static yX5_isWithin, Cond.code yX5_isWithin cX5_isWithin 3 (some .boolean), Cond.methodLink RX0 51 yX0_isThere, Cond.instanceMethod yX0_isThere, Cond.selects RX0 yX0_isThere yX0_isThere, Cond.code yX0_isThere cX0_isThere 2 (some .boolean), Cond.methodLink RX0 62 yX0_hasPoliceman, Cond.instanceMethod yX0_hasPoliceman, Cond.selects RX0 yX0_hasPoliceman yX0_hasPoliceman, Cond.code yX0_hasPoliceman cX0_hasPoliceman 2 (some .boolean), Cond.fieldLink RX0 31 "LieForce$Force" "soWorlds" "[J", Cond.methodLink RX0 59 yX0_isWithdrawn, Cond.instanceMethod yX0_isWithdrawn, Cond.selects RX0 yX0_isWithdrawn yX0_isWithdrawn, Cond.code yX0_isWithdrawn cX0_isWithdrawn 2 (some .boolean), Cond.static yX5_isAmong, Cond.code yX5_isAmong cX5_isAmong 3 (some .boolean), Cond.static yX5_isSaying, Cond.code yX5_isSaying cX5_isSaying 4 (some .boolean)]
def wsX5_fault_r4 : List Cond := [Cond.methodLink RX5 260 yX5_isLiteral, Cond.static yX5_isLiteral, Cond.code yX5_isLiteral cX5_isLiteral 1 (some .boolean), Cond.methodLink RX3 65 yX0_addSaying, Cond.instanceMethod yX0_addSaying, Cond.selects RX0 yX0_addSaying yX0_addSaying, Cond.code yX0_addSaying cX0_addSaying 6 (some .int), Cond.fieldLink RX0 15 "LieForce$Force" "kinds" "[I", Cond.fieldLink RX0 19 "LieForce$Force" "firsts" "[I", Cond.fieldLink RX0 22 "LieForce$Force" "seconds" "[I", Cond.fieldLink RX0 25 "LieForce$Force" "persons" "[I", Cond.static yX5_worldsOfSaying, Cond.code yX5_worldsOfSaying cX5_worldsOfSaying 7 (some .long), Cond.constantLong RX5 273 (-1), Cond.methodLink RX5 224 yX5_worldsOfLiteral, Cond.static yX5_worldsOfLiteral, Cond.code yX5_worldsOfLiteral cX5_worldsOfLiteral 1 (some .long), Cond.fieldLink RX5 269 "LieForce" "WORLDS_OF_FACT" "[J"]
def wsX5_fault : List Cond := .code yX5_fault cX5_fault 1 (some .int) :: ((wsX5_fault_r1 ++ (wsX5_fault_r2 ++ (wsX5_fault_r3 ++ wsX5_fault_r4))) ++ wsX50 ++ wsX00 ++ wsX30)
def wsX5_lay_r1 : List Cond := [Cond.fieldLink RX5 16 "LieForce" "reader" "LLieForce$Reader;", Cond.fieldLink RX5 9 "LieForce" "letters" "[C", Cond.fieldLink RX5 76 "LieForce" "length" "I", Cond.fieldLink RX5 31 "LieForce" "ahead" "LLieForce$Force;", Cond.fieldLink RX5 80 "LieForce$Force" "sayings" "I", Cond.fieldLink RX5 24 "LieForce" "now" "LLieForce$Force;", Cond.fieldLink RX5 39 "LieForce" "undoable" "LLieForce$Pile;", Cond.fieldLink RX5 43 "LieForce" "kept" "LLieForce$Pile;", Cond.fieldLink RX5 49 "LieForce" "sight" "LLieForce$Sight;", Cond.methodLink RX5 68 yX3_read, Cond.instanceMethod yX3_read, Cond.selects RX3 yX3_read yX3_read, Cond.initialized RX3, Cond.code yX3_read cX3_read 8 (some .int), Cond.methodLink RX3 15 yX0_empty, Cond.instanceMethod yX0_empty, Cond.selects RX0 yX0_empty yX0_empty, Cond.initialized RX0, Cond.code yX0_empty cX0_empty 1 none, Cond.fieldLink RX0 35 "LieForce$Force" "facts" "I", Cond.fieldLink RX0 38 "LieForce$Force" "sayings" "I", Cond.fieldLink RX0 41 "LieForce$Force" "withdrawn" "I", Cond.fieldLink RX0 44 "LieForce$Force" "days" "I", Cond.fieldLink RX0 9 "LieForce$Force" "term" "I"]
def wsX5_lay_r2 : List Cond := [Cond.methodLink RX3 20 yX3_letterAt, Cond.static yX3_letterAt, Cond.code yX3_letterAt cX3_letterAt 3 (some .int), Cond.methodLink RX3 24 yX3_numbersOf, Cond.static yX3_numbersOf, Cond.code yX3_numbersOf cX3_numbersOf 1 (some .int), Cond.methodLink RX3 28 yX3_readNumbers, Cond.instanceMethod yX3_readNumbers, Cond.selects RX3 yX3_readNumbers yX3_readNumbers, Cond.code yX3_readNumbers cX3_readNumbers 8 (some .int), Cond.fieldLink RX3 11 "LieForce$Reader" "numbers" "[I", Cond.methodLink RX3 36 yX3_figuresAt, Cond.static yX3_figuresAt, Cond.code yX3_figuresAt cX3_figuresAt 3 (some .int), Cond.methodLink RX3 42 yX3_isFigure, Cond.static yX3_isFigure, Cond.code yX3_isFigure cX3_isFigure 1 (some .boolean), Cond.methodLink RX3 39 yX3_numberOf, Cond.static yX3_numberOf, Cond.code yX3_numberOf cX3_numberOf 5 (some .int), Cond.methodLink RX3 32 yX3_putItem, Cond.instanceMethod yX3_putItem, Cond.selects RX3 yX3_putItem yX3_putItem, Cond.code yX3_putItem cX3_putItem 3 (some .boolean)]
def wsX5_lay_r3 : List Cond := [Cond.fieldLink RX3 53 "LieForce$Force" "term" "I", Cond.methodLink RX3 46 yX0_turnFact, Cond.instanceMethod yX0_turnFact, Cond.selects RX0 yX0_turnFact yX0_turnFact, Cond.code yX0_turnFact cX0_turnFact 3 none, Cond.fieldLink RX0 28 "LieForce$Force" "served" "[I", Cond.static yX5_isFact, Cond.initialized RX5, Cond.code yX5_isFact cX5_isFact 1 (some .boolean), Cond.methodLink RX5 72 yX5_isWithin, Cond.static yX5_isWithin, Cond.code yX5_isWithin cX5_isWithin 3 (some .boolean), Cond.methodLink RX0 51 yX0_isThere, Cond.instanceMethod yX0_isThere, Cond.selects RX0 yX0_isThere yX0_isThere, Cond.code yX0_isThere cX0_isThere 2 (some .boolean), Cond.methodLink RX0 62 yX0_hasPoliceman, Cond.instanceMethod yX0_hasPoliceman, Cond.selects RX0 yX0_hasPoliceman yX0_hasPoliceman, Cond.code yX0_hasPoliceman cX0_hasPoliceman 2 (some .boolean), Cond.fieldLink RX0 31 "LieForce$Force" "soWorlds" "[J", Cond.methodLink RX0 59 yX0_isWithdrawn, Cond.instanceMethod yX0_isWithdrawn, Cond.selects RX0 yX0_isWithdrawn yX0_isWithdrawn]
def wsX5_lay_r4 : List Cond := [Cond.code yX0_isWithdrawn cX0_isWithdrawn 2 (some .boolean), Cond.static yX5_isAmong, Cond.code yX5_isAmong cX5_isAmong 3 (some .boolean), Cond.static yX5_isSaying, Cond.code yX5_isSaying cX5_isSaying 4 (some .boolean), Cond.methodLink RX5 260 yX5_isLiteral, Cond.static yX5_isLiteral, Cond.code yX5_isLiteral cX5_isLiteral 1 (some .boolean), Cond.methodLink RX3 65 yX0_addSaying, Cond.instanceMethod yX0_addSaying, Cond.selects RX0 yX0_addSaying yX0_addSaying, Cond.code yX0_addSaying cX0_addSaying 6 (some .int), Cond.fieldLink RX0 15 "LieForce$Force" "kinds" "[I", Cond.fieldLink RX0 19 "LieForce$Force" "firsts" "[I", Cond.fieldLink RX0 22 "LieForce$Force" "seconds" "[I", Cond.fieldLink RX0 25 "LieForce$Force" "persons" "[I", Cond.static yX5_worldsOfSaying, Cond.code yX5_worldsOfSaying cX5_worldsOfSaying 7 (some .long), Cond.constantLong RX5 273 (-1), Cond.methodLink RX5 224 yX5_worldsOfLiteral, Cond.static yX5_worldsOfLiteral, Cond.code yX5_worldsOfLiteral cX5_worldsOfLiteral 1 (some .long), Cond.fieldLink RX5 269 "LieForce" "WORLDS_OF_FACT" "[J", Cond.methodLink RX5 83 yX0_copy]
def wsX5_lay_r5 : List Cond := [Cond.instanceMethod yX0_copy, Cond.selects RX0 yX0_copy yX0_copy, Cond.code yX0_copy cX0_copy 3 none, Cond.methodLink RX5 87 yX2_clear, Cond.instanceMethod yX2_clear, Cond.selects RX2 yX2_clear yX2_clear, Cond.initialized RX2, Cond.code yX2_clear cX2_clear 1 none, Cond.fieldLink RX2 16 "LieForce$Pile" "size" "I", Cond.methodLink RX5 90 yX4_clear, Cond.instanceMethod yX4_clear, Cond.selects RX4 yX4_clear yX4_clear, Cond.initialized RX4, Cond.code yX4_clear cX4_clear 1 none, Cond.fieldLink RX4 19 "LieForce$Sight" "size" "I"]
def wsX5_lay : List Cond := .code yX5_lay cX5_lay 1 (some .int) :: ((wsX5_lay_r1 ++ (wsX5_lay_r2 ++ (wsX5_lay_r3 ++ (wsX5_lay_r4 ++ wsX5_lay_r5)))) ++ wsX50 ++ wsX00 ++ wsX30 ++ wsX20 ++ wsX40)
def wsX5_saying_r1 : List Cond := [Cond.fieldLink RX5 24 "LieForce" "now" "LLieForce$Force;", Cond.fieldLink RX5 95 "LieForce$Force" "kinds" "[I", Cond.fieldLink RX5 99 "LieForce$Force" "firsts" "[I", Cond.fieldLink RX5 102 "LieForce$Force" "seconds" "[I", Cond.fieldLink RX5 105 "LieForce$Force" "persons" "[I", Cond.fieldLink RX5 108 "LieForce$Force" "facts" "I", Cond.fieldLink RX5 125 "LieForce$Force" "served" "[I", Cond.methodLink RX5 91 yX0_isThere, Cond.instanceMethod yX0_isThere, Cond.selects RX0 yX0_isThere yX0_isThere, Cond.initialized RX0, Cond.code yX0_isThere cX0_isThere 2 (some .boolean), Cond.fieldLink RX0 38 "LieForce$Force" "sayings" "I", Cond.methodLink RX5 111 yX0_isSoIn, Cond.instanceMethod yX0_isSoIn, Cond.selects RX0 yX0_isSoIn yX0_isSoIn, Cond.code yX0_isSoIn cX0_isSoIn 3 (some .boolean), Cond.fieldLink RX0 31 "LieForce$Force" "soWorlds" "[J", Cond.methodLink RX0 51 yX0_isThere, Cond.static yX5_isAmong, Cond.initialized RX5, Cond.code yX5_isAmong cX5_isAmong 3 (some .boolean), Cond.methodLink RX5 115 yX5_asNumber, Cond.static yX5_asNumber]
def wsX5_saying_r2 : List Cond := [Cond.code yX5_asNumber cX5_asNumber 1 (some .int), Cond.methodLink RX5 119 yX0_isWithdrawn, Cond.instanceMethod yX0_isWithdrawn, Cond.selects RX0 yX0_isWithdrawn yX0_isWithdrawn, Cond.code yX0_isWithdrawn cX0_isWithdrawn 2 (some .boolean), Cond.fieldLink RX0 41 "LieForce$Force" "withdrawn" "I", Cond.methodLink RX5 122 yX0_hasPoliceman, Cond.instanceMethod yX0_hasPoliceman, Cond.selects RX0 yX0_hasPoliceman yX0_hasPoliceman, Cond.code yX0_hasPoliceman cX0_hasPoliceman 2 (some .boolean), Cond.fieldLink RX0 35 "LieForce$Force" "facts" "I", Cond.methodLink RX0 59 yX0_isWithdrawn]
def wsX5_saying : List Cond := .code yX5_saying cX5_saying 3 (some .int) :: ((wsX5_saying_r1 ++ wsX5_saying_r2) ++ wsX50 ++ wsX00)
def wsX5_fact : List Cond := .code yX5_fact cX5_fact 2 (some .int) :: ([.fieldLink RX5 24 "LieForce" "now" "LLieForce$Force;", .fieldLink RX5 108 "LieForce$Force" "facts" "I", .methodLink RX5 128 yX5_isFact, .static yX5_isFact, .initialized RX5, .code yX5_isFact cX5_isFact 1 (some .boolean), .methodLink RX5 72 yX5_isWithin, .static yX5_isWithin, .code yX5_isWithin cX5_isWithin 3 (some .boolean)] ++ wsX50 ++ wsX00)
def wsX5_clash : List Cond := .code yX5_clash cX5_clash 3 (some .int) :: ([.fieldLink RX5 24 "LieForce" "now" "LLieForce$Force;", .methodLink RX5 91 yX0_isThere, .instanceMethod yX0_isThere, .selects RX0 yX0_isThere yX0_isThere, .initialized RX0, .code yX0_isThere cX0_isThere 2 (some .boolean), .fieldLink RX0 38 "LieForce$Force" "sayings" "I", .methodLink RX5 131 yX0_areClashing, .instanceMethod yX0_areClashing, .selects RX0 yX0_areClashing yX0_areClashing, .code yX0_areClashing cX0_areClashing 3 (some .boolean), .fieldLink RX0 31 "LieForce$Force" "soWorlds" "[J", .methodLink RX0 51 yX0_isThere, .methodLink RX5 115 yX5_asNumber, .static yX5_asNumber, .initialized RX5, .code yX5_asNumber cX5_asNumber 1 (some .int)] ++ wsX50 ++ wsX00)
def wsX5_pass_r1 : List Cond := [Cond.fieldLink RX5 39 "LieForce" "undoable" "LLieForce$Pile;", Cond.fieldLink RX5 24 "LieForce" "now" "LLieForce$Force;", Cond.fieldLink RX5 141 "LieForce$Force" "days" "I", Cond.methodLink RX5 72 yX5_isWithin, Cond.static yX5_isWithin, Cond.initialized RX5, Cond.code yX5_isWithin cX5_isWithin 3 (some .boolean), Cond.methodLink RX5 134 yX2_add, Cond.instanceMethod yX2_add, Cond.selects RX2 yX2_add yX2_add, Cond.initialized RX2, Cond.code yX2_add cX2_add 2 none, Cond.fieldLink RX2 9 "LieForce$Pile" "stood" "[LLieForce$Force;", Cond.fieldLink RX2 16 "LieForce$Pile" "size" "I", Cond.methodLink RX2 20 yX2_dropOldest, Cond.instanceMethod yX2_dropOldest, Cond.selects RX2 yX2_dropOldest yX2_dropOldest, Cond.code yX2_dropOldest cX2_dropOldest 3 none, Cond.methodLink RX2 23 yX0_copy, Cond.instanceMethod yX0_copy, Cond.selects RX0 yX0_copy yX0_copy, Cond.initialized RX0, Cond.code yX0_copy cX0_copy 3 none, Cond.fieldLink RX0 35 "LieForce$Force" "facts" "I"]
def wsX5_pass_r2 : List Cond := [Cond.fieldLink RX0 38 "LieForce$Force" "sayings" "I", Cond.fieldLink RX0 41 "LieForce$Force" "withdrawn" "I", Cond.fieldLink RX0 44 "LieForce$Force" "days" "I", Cond.fieldLink RX0 9 "LieForce$Force" "term" "I", Cond.fieldLink RX0 15 "LieForce$Force" "kinds" "[I", Cond.fieldLink RX0 19 "LieForce$Force" "firsts" "[I", Cond.fieldLink RX0 22 "LieForce$Force" "seconds" "[I", Cond.fieldLink RX0 25 "LieForce$Force" "persons" "[I", Cond.fieldLink RX0 28 "LieForce$Force" "served" "[I", Cond.fieldLink RX0 31 "LieForce$Force" "soWorlds" "[J", Cond.methodLink RX5 137 yX0_passDay, Cond.instanceMethod yX0_passDay, Cond.selects RX0 yX0_passDay yX0_passDay, Cond.code yX0_passDay cX0_passDay 4 (some .int), Cond.methodLink RX0 103 yX0_serveDay, Cond.instanceMethod yX0_serveDay, Cond.selects RX0 yX0_serveDay yX0_serveDay, Cond.code yX0_serveDay cX0_serveDay 2 none, Cond.methodLink RX0 51 yX0_isThere, Cond.instanceMethod yX0_isThere, Cond.selects RX0 yX0_isThere yX0_isThere, Cond.code yX0_isThere cX0_isThere 2 (some .boolean), Cond.methodLink RX0 62 yX0_hasPoliceman, Cond.instanceMethod yX0_hasPoliceman]
def wsX5_pass_r3 : List Cond := [Cond.selects RX0 yX0_hasPoliceman yX0_hasPoliceman, Cond.code yX0_hasPoliceman cX0_hasPoliceman 2 (some .boolean), Cond.methodLink RX0 59 yX0_isWithdrawn, Cond.instanceMethod yX0_isWithdrawn, Cond.selects RX0 yX0_isWithdrawn yX0_isWithdrawn, Cond.code yX0_isWithdrawn cX0_isWithdrawn 2 (some .boolean), Cond.static yX5_isAmong, Cond.code yX5_isAmong cX5_isAmong 3 (some .boolean), Cond.methodLink RX0 100 yX0_mateOf, Cond.instanceMethod yX0_mateOf, Cond.selects RX0 yX0_mateOf yX0_mateOf, Cond.code yX0_mateOf cX0_mateOf 3 (some .int), Cond.methodLink RX0 65 yX0_hasServed, Cond.instanceMethod yX0_hasServed, Cond.selects RX0 yX0_hasServed yX0_hasServed, Cond.code yX0_hasServed cX0_hasServed 2 (some .boolean), Cond.methodLink RX0 68 yX0_areClashing, Cond.instanceMethod yX0_areClashing, Cond.selects RX0 yX0_areClashing yX0_areClashing, Cond.code yX0_areClashing cX0_areClashing 3 (some .boolean), Cond.methodLink RX0 106 yX0_takeOut, Cond.instanceMethod yX0_takeOut, Cond.selects RX0 yX0_takeOut yX0_takeOut, Cond.code yX0_takeOut cX0_takeOut 2 none]
def wsX5_pass : List Cond := .code yX5_pass cX5_pass 3 (some .int) :: ((wsX5_pass_r1 ++ (wsX5_pass_r2 ++ wsX5_pass_r3)) ++ wsX50 ++ wsX00 ++ wsX20)
def wsX5_say_r1 : List Cond := [Cond.fieldLink RX5 24 "LieForce" "now" "LLieForce$Force;", Cond.fieldLink RX5 80 "LieForce$Force" "sayings" "I", Cond.fieldLink RX5 39 "LieForce" "undoable" "LLieForce$Pile;", Cond.methodLink RX5 144 yX5_isSaying, Cond.static yX5_isSaying, Cond.initialized RX5, Cond.code yX5_isSaying cX5_isSaying 4 (some .boolean), Cond.methodLink RX5 72 yX5_isWithin, Cond.static yX5_isWithin, Cond.code yX5_isWithin cX5_isWithin 3 (some .boolean), Cond.methodLink RX5 260 yX5_isLiteral, Cond.static yX5_isLiteral, Cond.code yX5_isLiteral cX5_isLiteral 1 (some .boolean), Cond.methodLink RX5 134 yX2_add, Cond.instanceMethod yX2_add, Cond.selects RX2 yX2_add yX2_add, Cond.initialized RX2, Cond.code yX2_add cX2_add 2 none, Cond.fieldLink RX2 9 "LieForce$Pile" "stood" "[LLieForce$Force;", Cond.fieldLink RX2 16 "LieForce$Pile" "size" "I", Cond.methodLink RX2 20 yX2_dropOldest, Cond.instanceMethod yX2_dropOldest, Cond.selects RX2 yX2_dropOldest yX2_dropOldest, Cond.code yX2_dropOldest cX2_dropOldest 3 none]
def wsX5_say_r2 : List Cond := [Cond.methodLink RX2 23 yX0_copy, Cond.instanceMethod yX0_copy, Cond.selects RX0 yX0_copy yX0_copy, Cond.initialized RX0, Cond.code yX0_copy cX0_copy 3 none, Cond.fieldLink RX0 35 "LieForce$Force" "facts" "I", Cond.fieldLink RX0 38 "LieForce$Force" "sayings" "I", Cond.fieldLink RX0 41 "LieForce$Force" "withdrawn" "I", Cond.fieldLink RX0 44 "LieForce$Force" "days" "I", Cond.fieldLink RX0 9 "LieForce$Force" "term" "I", Cond.fieldLink RX0 15 "LieForce$Force" "kinds" "[I", Cond.fieldLink RX0 19 "LieForce$Force" "firsts" "[I", Cond.fieldLink RX0 22 "LieForce$Force" "seconds" "[I", Cond.fieldLink RX0 25 "LieForce$Force" "persons" "[I", Cond.fieldLink RX0 28 "LieForce$Force" "served" "[I", Cond.fieldLink RX0 31 "LieForce$Force" "soWorlds" "[J", Cond.methodLink RX5 148 yX0_addSaying, Cond.instanceMethod yX0_addSaying, Cond.selects RX0 yX0_addSaying yX0_addSaying, Cond.code yX0_addSaying cX0_addSaying 6 (some .int), Cond.static yX5_worldsOfSaying, Cond.code yX5_worldsOfSaying cX5_worldsOfSaying 7 (some .long), Cond.constantLong RX5 273 (-1), Cond.methodLink RX5 224 yX5_worldsOfLiteral]
def wsX5_say_r3 : List Cond := [Cond.static yX5_worldsOfLiteral, Cond.code yX5_worldsOfLiteral cX5_worldsOfLiteral 1 (some .long), Cond.fieldLink RX5 269 "LieForce" "WORLDS_OF_FACT" "[J"]
def wsX5_say : List Cond := .code yX5_say cX5_say 6 (some .int) :: ((wsX5_say_r1 ++ (wsX5_say_r2 ++ wsX5_say_r3)) ++ wsX50 ++ wsX00 ++ wsX20)
def wsX5_withdraw_r1 : List Cond := [Cond.fieldLink RX5 24 "LieForce" "now" "LLieForce$Force;", Cond.fieldLink RX5 39 "LieForce" "undoable" "LLieForce$Pile;", Cond.methodLink RX5 91 yX0_isThere, Cond.instanceMethod yX0_isThere, Cond.selects RX0 yX0_isThere yX0_isThere, Cond.initialized RX0, Cond.code yX0_isThere cX0_isThere 2 (some .boolean), Cond.fieldLink RX0 38 "LieForce$Force" "sayings" "I", Cond.methodLink RX5 152 yX0_canBeWithdrawn, Cond.instanceMethod yX0_canBeWithdrawn, Cond.selects RX0 yX0_canBeWithdrawn yX0_canBeWithdrawn, Cond.code yX0_canBeWithdrawn cX0_canBeWithdrawn 2 (some .boolean), Cond.methodLink RX0 51 yX0_isThere, Cond.methodLink RX0 59 yX0_isWithdrawn, Cond.instanceMethod yX0_isWithdrawn, Cond.selects RX0 yX0_isWithdrawn yX0_isWithdrawn, Cond.code yX0_isWithdrawn cX0_isWithdrawn 2 (some .boolean), Cond.fieldLink RX0 41 "LieForce$Force" "withdrawn" "I", Cond.methodLink RX0 65 yX0_hasServed, Cond.instanceMethod yX0_hasServed, Cond.selects RX0 yX0_hasServed yX0_hasServed, Cond.code yX0_hasServed cX0_hasServed 2 (some .boolean), Cond.fieldLink RX0 28 "LieForce$Force" "served" "[I", Cond.fieldLink RX0 9 "LieForce$Force" "term" "I"]
def wsX5_withdraw_r2 : List Cond := [Cond.methodLink RX0 62 yX0_hasPoliceman, Cond.instanceMethod yX0_hasPoliceman, Cond.selects RX0 yX0_hasPoliceman yX0_hasPoliceman, Cond.code yX0_hasPoliceman cX0_hasPoliceman 2 (some .boolean), Cond.fieldLink RX0 31 "LieForce$Force" "soWorlds" "[J", Cond.fieldLink RX0 35 "LieForce$Force" "facts" "I", Cond.static yX5_isAmong, Cond.initialized RX5, Cond.code yX5_isAmong cX5_isAmong 3 (some .boolean), Cond.methodLink RX5 134 yX2_add, Cond.instanceMethod yX2_add, Cond.selects RX2 yX2_add yX2_add, Cond.initialized RX2, Cond.code yX2_add cX2_add 2 none, Cond.fieldLink RX2 9 "LieForce$Pile" "stood" "[LLieForce$Force;", Cond.fieldLink RX2 16 "LieForce$Pile" "size" "I", Cond.methodLink RX2 20 yX2_dropOldest, Cond.instanceMethod yX2_dropOldest, Cond.selects RX2 yX2_dropOldest yX2_dropOldest, Cond.code yX2_dropOldest cX2_dropOldest 3 none, Cond.methodLink RX2 23 yX0_copy, Cond.instanceMethod yX0_copy, Cond.selects RX0 yX0_copy yX0_copy, Cond.code yX0_copy cX0_copy 3 none]
def wsX5_withdraw_r3 : List Cond := [Cond.fieldLink RX0 44 "LieForce$Force" "days" "I", Cond.fieldLink RX0 15 "LieForce$Force" "kinds" "[I", Cond.fieldLink RX0 19 "LieForce$Force" "firsts" "[I", Cond.fieldLink RX0 22 "LieForce$Force" "seconds" "[I", Cond.fieldLink RX0 25 "LieForce$Force" "persons" "[I", Cond.methodLink RX5 155 yX0_takeOut, Cond.instanceMethod yX0_takeOut, Cond.selects RX0 yX0_takeOut yX0_takeOut, Cond.code yX0_takeOut cX0_takeOut 2 none, Cond.methodLink RX5 158 yX0_policemen, Cond.instanceMethod yX0_policemen, Cond.selects RX0 yX0_policemen yX0_policemen, Cond.code yX0_policemen cX0_policemen 1 (some .int), Cond.methodLink RX0 79 yX0_liesIn, Cond.instanceMethod yX0_liesIn, Cond.selects RX0 yX0_liesIn yX0_liesIn, Cond.code yX0_liesIn cX0_liesIn 4 (some .int), Cond.methodLink RX0 72 yX0_isSoIn, Cond.instanceMethod yX0_isSoIn, Cond.selects RX0 yX0_isSoIn yX0_isSoIn, Cond.code yX0_isSoIn cX0_isSoIn 3 (some .boolean), Cond.methodLink RX0 83 yJ6_bitCount_0f7a4, Cond.static yJ6_bitCount_0f7a4, Cond.initialized RJ6]
def wsX5_withdraw_r4 : List Cond := [Cond.code yJ6_bitCount_0f7a4 cJ6_bitCount_0f7a4 1 (some .int), Cond.constant RJ6 265 (1431655765), Cond.constant RJ6 266 (858993459), Cond.constant RJ6 267 (252645135)]
def wsX5_withdraw : List Cond := .code yX5_withdraw cX5_withdraw 2 (some .int) :: ((wsX5_withdraw_r1 ++ (wsX5_withdraw_r2 ++ (wsX5_withdraw_r3 ++ wsX5_withdraw_r4))) ++ wsX50 ++ wsX00 ++ wsX20)
def wsX5_turn_r1 : List Cond := [Cond.fieldLink RX5 39 "LieForce" "undoable" "LLieForce$Pile;", Cond.fieldLink RX5 24 "LieForce" "now" "LLieForce$Force;", Cond.methodLink RX5 128 yX5_isFact, Cond.static yX5_isFact, Cond.initialized RX5, Cond.code yX5_isFact cX5_isFact 1 (some .boolean), Cond.methodLink RX5 72 yX5_isWithin, Cond.static yX5_isWithin, Cond.code yX5_isWithin cX5_isWithin 3 (some .boolean), Cond.methodLink RX5 134 yX2_add, Cond.instanceMethod yX2_add, Cond.selects RX2 yX2_add yX2_add, Cond.initialized RX2, Cond.code yX2_add cX2_add 2 none, Cond.fieldLink RX2 9 "LieForce$Pile" "stood" "[LLieForce$Force;", Cond.fieldLink RX2 16 "LieForce$Pile" "size" "I", Cond.methodLink RX2 20 yX2_dropOldest, Cond.instanceMethod yX2_dropOldest, Cond.selects RX2 yX2_dropOldest yX2_dropOldest, Cond.code yX2_dropOldest cX2_dropOldest 3 none, Cond.methodLink RX2 23 yX0_copy, Cond.instanceMethod yX0_copy, Cond.selects RX0 yX0_copy yX0_copy, Cond.initialized RX0]
def wsX5_turn_r2 : List Cond := [Cond.code yX0_copy cX0_copy 3 none, Cond.fieldLink RX0 35 "LieForce$Force" "facts" "I", Cond.fieldLink RX0 38 "LieForce$Force" "sayings" "I", Cond.fieldLink RX0 41 "LieForce$Force" "withdrawn" "I", Cond.fieldLink RX0 44 "LieForce$Force" "days" "I", Cond.fieldLink RX0 9 "LieForce$Force" "term" "I", Cond.fieldLink RX0 15 "LieForce$Force" "kinds" "[I", Cond.fieldLink RX0 19 "LieForce$Force" "firsts" "[I", Cond.fieldLink RX0 22 "LieForce$Force" "seconds" "[I", Cond.fieldLink RX0 25 "LieForce$Force" "persons" "[I", Cond.fieldLink RX0 28 "LieForce$Force" "served" "[I", Cond.fieldLink RX0 31 "LieForce$Force" "soWorlds" "[J", Cond.methodLink RX5 161 yX0_turnFact, Cond.instanceMethod yX0_turnFact, Cond.selects RX0 yX0_turnFact yX0_turnFact, Cond.code yX0_turnFact cX0_turnFact 3 none, Cond.methodLink RX0 51 yX0_isThere, Cond.instanceMethod yX0_isThere, Cond.selects RX0 yX0_isThere yX0_isThere, Cond.code yX0_isThere cX0_isThere 2 (some .boolean), Cond.methodLink RX0 62 yX0_hasPoliceman, Cond.instanceMethod yX0_hasPoliceman, Cond.selects RX0 yX0_hasPoliceman yX0_hasPoliceman, Cond.code yX0_hasPoliceman cX0_hasPoliceman 2 (some .boolean)]
def wsX5_turn_r3 : List Cond := [Cond.methodLink RX0 59 yX0_isWithdrawn, Cond.instanceMethod yX0_isWithdrawn, Cond.selects RX0 yX0_isWithdrawn yX0_isWithdrawn, Cond.code yX0_isWithdrawn cX0_isWithdrawn 2 (some .boolean), Cond.static yX5_isAmong, Cond.code yX5_isAmong cX5_isAmong 3 (some .boolean), Cond.methodLink RX5 158 yX0_policemen, Cond.instanceMethod yX0_policemen, Cond.selects RX0 yX0_policemen yX0_policemen, Cond.code yX0_policemen cX0_policemen 1 (some .int), Cond.methodLink RX0 79 yX0_liesIn, Cond.instanceMethod yX0_liesIn, Cond.selects RX0 yX0_liesIn yX0_liesIn, Cond.code yX0_liesIn cX0_liesIn 4 (some .int), Cond.methodLink RX0 72 yX0_isSoIn, Cond.instanceMethod yX0_isSoIn, Cond.selects RX0 yX0_isSoIn yX0_isSoIn, Cond.code yX0_isSoIn cX0_isSoIn 3 (some .boolean), Cond.methodLink RX0 83 yJ6_bitCount_0f7a4, Cond.static yJ6_bitCount_0f7a4, Cond.initialized RJ6, Cond.code yJ6_bitCount_0f7a4 cJ6_bitCount_0f7a4 1 (some .int), Cond.constant RJ6 265 (1431655765), Cond.constant RJ6 266 (858993459)]
def wsX5_turn_r4 : List Cond := [Cond.constant RJ6 267 (252645135)]
def wsX5_turn : List Cond := .code yX5_turn cX5_turn 2 (some .int) :: ((wsX5_turn_r1 ++ (wsX5_turn_r2 ++ (wsX5_turn_r3 ++ wsX5_turn_r4))) ++ wsX50 ++ wsX20 ++ wsX00)
def wsX5_undo_r1 : List Cond := [Cond.fieldLink RX5 39 "LieForce" "undoable" "LLieForce$Pile;", Cond.fieldLink RX5 24 "LieForce" "now" "LLieForce$Force;", Cond.fieldLink RX5 168 "LieForce$Pile" "size" "I", Cond.methodLink RX5 164 yX2_takeLast, Cond.instanceMethod yX2_takeLast, Cond.selects RX2 yX2_takeLast yX2_takeLast, Cond.initialized RX2, Cond.code yX2_takeLast cX2_takeLast 2 (some .boolean), Cond.fieldLink RX2 16 "LieForce$Pile" "size" "I", Cond.fieldLink RX2 9 "LieForce$Pile" "stood" "[LLieForce$Force;", Cond.methodLink RX2 23 yX0_copy, Cond.instanceMethod yX0_copy, Cond.selects RX0 yX0_copy yX0_copy, Cond.initialized RX0, Cond.code yX0_copy cX0_copy 3 none, Cond.fieldLink RX0 35 "LieForce$Force" "facts" "I", Cond.fieldLink RX0 38 "LieForce$Force" "sayings" "I", Cond.fieldLink RX0 41 "LieForce$Force" "withdrawn" "I", Cond.fieldLink RX0 44 "LieForce$Force" "days" "I", Cond.fieldLink RX0 9 "LieForce$Force" "term" "I", Cond.fieldLink RX0 15 "LieForce$Force" "kinds" "[I", Cond.fieldLink RX0 19 "LieForce$Force" "firsts" "[I", Cond.fieldLink RX0 22 "LieForce$Force" "seconds" "[I", Cond.fieldLink RX0 25 "LieForce$Force" "persons" "[I"]
def wsX5_undo_r2 : List Cond := [Cond.fieldLink RX0 28 "LieForce$Force" "served" "[I", Cond.fieldLink RX0 31 "LieForce$Force" "soWorlds" "[J"]
def wsX5_undo : List Cond := .code yX5_undo cX5_undo 1 (some .int) :: ((wsX5_undo_r1 ++ wsX5_undo_r2) ++ wsX50 ++ wsX20 ++ wsX00)
def wsX5_behind_r1 : List Cond := [Cond.fieldLink RX5 31 "LieForce" "ahead" "LLieForce$Force;", Cond.fieldLink RX5 24 "LieForce" "now" "LLieForce$Force;", Cond.fieldLink RX5 108 "LieForce$Force" "facts" "I", Cond.methodLink RX5 72 yX5_isWithin, Cond.static yX5_isWithin, Cond.initialized RX5, Cond.code yX5_isWithin cX5_isWithin 3 (some .boolean), Cond.methodLink RX5 83 yX0_copy, Cond.instanceMethod yX0_copy, Cond.selects RX0 yX0_copy yX0_copy, Cond.initialized RX0, Cond.code yX0_copy cX0_copy 3 none, Cond.fieldLink RX0 35 "LieForce$Force" "facts" "I", Cond.fieldLink RX0 38 "LieForce$Force" "sayings" "I", Cond.fieldLink RX0 41 "LieForce$Force" "withdrawn" "I", Cond.fieldLink RX0 44 "LieForce$Force" "days" "I", Cond.fieldLink RX0 9 "LieForce$Force" "term" "I", Cond.fieldLink RX0 15 "LieForce$Force" "kinds" "[I", Cond.fieldLink RX0 19 "LieForce$Force" "firsts" "[I", Cond.fieldLink RX0 22 "LieForce$Force" "seconds" "[I", Cond.fieldLink RX0 25 "LieForce$Force" "persons" "[I", Cond.fieldLink RX0 28 "LieForce$Force" "served" "[I", Cond.fieldLink RX0 31 "LieForce$Force" "soWorlds" "[J", Cond.methodLink RX5 137 yX0_passDay]
def wsX5_behind_r2 : List Cond := [Cond.instanceMethod yX0_passDay, Cond.selects RX0 yX0_passDay yX0_passDay, Cond.code yX0_passDay cX0_passDay 4 (some .int), Cond.methodLink RX0 103 yX0_serveDay, Cond.instanceMethod yX0_serveDay, Cond.selects RX0 yX0_serveDay yX0_serveDay, Cond.code yX0_serveDay cX0_serveDay 2 none, Cond.methodLink RX0 51 yX0_isThere, Cond.instanceMethod yX0_isThere, Cond.selects RX0 yX0_isThere yX0_isThere, Cond.code yX0_isThere cX0_isThere 2 (some .boolean), Cond.methodLink RX0 62 yX0_hasPoliceman, Cond.instanceMethod yX0_hasPoliceman, Cond.selects RX0 yX0_hasPoliceman yX0_hasPoliceman, Cond.code yX0_hasPoliceman cX0_hasPoliceman 2 (some .boolean), Cond.methodLink RX0 59 yX0_isWithdrawn, Cond.instanceMethod yX0_isWithdrawn, Cond.selects RX0 yX0_isWithdrawn yX0_isWithdrawn, Cond.code yX0_isWithdrawn cX0_isWithdrawn 2 (some .boolean), Cond.static yX5_isAmong, Cond.code yX5_isAmong cX5_isAmong 3 (some .boolean), Cond.methodLink RX0 100 yX0_mateOf, Cond.instanceMethod yX0_mateOf, Cond.selects RX0 yX0_mateOf yX0_mateOf]
def wsX5_behind_r3 : List Cond := [Cond.code yX0_mateOf cX0_mateOf 3 (some .int), Cond.methodLink RX0 65 yX0_hasServed, Cond.instanceMethod yX0_hasServed, Cond.selects RX0 yX0_hasServed yX0_hasServed, Cond.code yX0_hasServed cX0_hasServed 2 (some .boolean), Cond.methodLink RX0 68 yX0_areClashing, Cond.instanceMethod yX0_areClashing, Cond.selects RX0 yX0_areClashing yX0_areClashing, Cond.code yX0_areClashing cX0_areClashing 3 (some .boolean), Cond.methodLink RX0 106 yX0_takeOut, Cond.instanceMethod yX0_takeOut, Cond.selects RX0 yX0_takeOut yX0_takeOut, Cond.code yX0_takeOut cX0_takeOut 2 none, Cond.methodLink RX5 171 yX0_liesIn, Cond.instanceMethod yX0_liesIn, Cond.selects RX0 yX0_liesIn yX0_liesIn, Cond.code yX0_liesIn cX0_liesIn 4 (some .int), Cond.methodLink RX0 72 yX0_isSoIn, Cond.instanceMethod yX0_isSoIn, Cond.selects RX0 yX0_isSoIn yX0_isSoIn, Cond.code yX0_isSoIn cX0_isSoIn 3 (some .boolean)]
def wsX5_behind : List Cond := .code yX5_behind cX5_behind 3 (some .int) :: ((wsX5_behind_r1 ++ (wsX5_behind_r2 ++ wsX5_behind_r3)) ++ wsX50 ++ wsX00)
def wsX5_fall_r1 : List Cond := [Cond.fieldLink RX5 31 "LieForce" "ahead" "LLieForce$Force;", Cond.fieldLink RX5 24 "LieForce" "now" "LLieForce$Force;", Cond.methodLink RX5 72 yX5_isWithin, Cond.static yX5_isWithin, Cond.initialized RX5, Cond.code yX5_isWithin cX5_isWithin 3 (some .boolean), Cond.methodLink RX5 83 yX0_copy, Cond.instanceMethod yX0_copy, Cond.selects RX0 yX0_copy yX0_copy, Cond.initialized RX0, Cond.code yX0_copy cX0_copy 3 none, Cond.fieldLink RX0 35 "LieForce$Force" "facts" "I", Cond.fieldLink RX0 38 "LieForce$Force" "sayings" "I", Cond.fieldLink RX0 41 "LieForce$Force" "withdrawn" "I", Cond.fieldLink RX0 44 "LieForce$Force" "days" "I", Cond.fieldLink RX0 9 "LieForce$Force" "term" "I", Cond.fieldLink RX0 15 "LieForce$Force" "kinds" "[I", Cond.fieldLink RX0 19 "LieForce$Force" "firsts" "[I", Cond.fieldLink RX0 22 "LieForce$Force" "seconds" "[I", Cond.fieldLink RX0 25 "LieForce$Force" "persons" "[I", Cond.fieldLink RX0 28 "LieForce$Force" "served" "[I", Cond.fieldLink RX0 31 "LieForce$Force" "soWorlds" "[J", Cond.methodLink RX5 175 yX0_serveDay, Cond.instanceMethod yX0_serveDay]
def wsX5_fall_r2 : List Cond := [Cond.selects RX0 yX0_serveDay yX0_serveDay, Cond.code yX0_serveDay cX0_serveDay 2 none, Cond.methodLink RX0 51 yX0_isThere, Cond.instanceMethod yX0_isThere, Cond.selects RX0 yX0_isThere yX0_isThere, Cond.code yX0_isThere cX0_isThere 2 (some .boolean), Cond.methodLink RX0 62 yX0_hasPoliceman, Cond.instanceMethod yX0_hasPoliceman, Cond.selects RX0 yX0_hasPoliceman yX0_hasPoliceman, Cond.code yX0_hasPoliceman cX0_hasPoliceman 2 (some .boolean), Cond.methodLink RX0 59 yX0_isWithdrawn, Cond.instanceMethod yX0_isWithdrawn, Cond.selects RX0 yX0_isWithdrawn yX0_isWithdrawn, Cond.code yX0_isWithdrawn cX0_isWithdrawn 2 (some .boolean), Cond.static yX5_isAmong, Cond.code yX5_isAmong cX5_isAmong 3 (some .boolean), Cond.methodLink RX5 178 yX0_firstToFall, Cond.instanceMethod yX0_firstToFall, Cond.selects RX0 yX0_firstToFall yX0_firstToFall, Cond.code yX0_firstToFall cX0_firstToFall 2 (some .int), Cond.methodLink RX0 100 yX0_mateOf, Cond.instanceMethod yX0_mateOf, Cond.selects RX0 yX0_mateOf yX0_mateOf, Cond.code yX0_mateOf cX0_mateOf 3 (some .int)]
def wsX5_fall_r3 : List Cond := [Cond.methodLink RX0 65 yX0_hasServed, Cond.instanceMethod yX0_hasServed, Cond.selects RX0 yX0_hasServed yX0_hasServed, Cond.code yX0_hasServed cX0_hasServed 2 (some .boolean), Cond.methodLink RX0 68 yX0_areClashing, Cond.instanceMethod yX0_areClashing, Cond.selects RX0 yX0_areClashing yX0_areClashing, Cond.code yX0_areClashing cX0_areClashing 3 (some .boolean), Cond.methodLink RX5 181 yX0_mateOf]
def wsX5_fall : List Cond := .code yX5_fall cX5_fall 4 (some .int) :: ((wsX5_fall_r1 ++ (wsX5_fall_r2 ++ wsX5_fall_r3)) ++ wsX50 ++ wsX00)
def wsX5_core_r1 : List Cond := [Cond.fieldLink RX5 24 "LieForce" "now" "LLieForce$Force;", Cond.methodLink RX5 184 yX0_lowestCore, Cond.instanceMethod yX0_lowestCore, Cond.selects RX0 yX0_lowestCore yX0_lowestCore, Cond.initialized RX0, Cond.code yX0_lowestCore cX0_lowestCore 6 (some .int), Cond.methodLink RX0 75 yX0_standing, Cond.instanceMethod yX0_standing, Cond.selects RX0 yX0_standing yX0_standing, Cond.code yX0_standing cX0_standing 1 (some .int), Cond.fieldLink RX0 38 "LieForce$Force" "sayings" "I", Cond.fieldLink RX0 41 "LieForce$Force" "withdrawn" "I", Cond.methodLink RX0 83 yJ6_bitCount_0f7a4, Cond.static yJ6_bitCount_0f7a4, Cond.initialized RJ6, Cond.code yJ6_bitCount_0f7a4 cJ6_bitCount_0f7a4 1 (some .int), Cond.constant RJ6 265 (1431655765), Cond.constant RJ6 266 (858993459), Cond.constant RJ6 267 (252645135), Cond.methodLink RX0 116 yX0_couldAllBeSo, Cond.instanceMethod yX0_couldAllBeSo, Cond.selects RX0 yX0_couldAllBeSo yX0_couldAllBeSo, Cond.code yX0_couldAllBeSo cX0_couldAllBeSo 5 (some .boolean), Cond.constantLong RX0 91 (-1)]
def wsX5_core_r2 : List Cond := [Cond.fieldLink RX0 31 "LieForce$Force" "soWorlds" "[J", Cond.methodLink RX0 51 yX0_isThere, Cond.instanceMethod yX0_isThere, Cond.selects RX0 yX0_isThere yX0_isThere, Cond.code yX0_isThere cX0_isThere 2 (some .boolean), Cond.static yX5_isBitOf, Cond.initialized RX5, Cond.code yX5_isBitOf cX5_isBitOf 2 (some .boolean)]
def wsX5_core : List Cond := .code yX5_core cX5_core 1 (some .int) :: ((wsX5_core_r1 ++ wsX5_core_r2) ++ wsX50 ++ wsX00)
def wsX5_cut_r1 : List Cond := [Cond.fieldLink RX5 24 "LieForce" "now" "LLieForce$Force;", Cond.methodLink RX5 187 yX0_lowestCut, Cond.instanceMethod yX0_lowestCut, Cond.selects RX0 yX0_lowestCut yX0_lowestCut, Cond.initialized RX0, Cond.code yX0_lowestCut cX0_lowestCut 6 (some .int), Cond.methodLink RX0 75 yX0_standing, Cond.instanceMethod yX0_standing, Cond.selects RX0 yX0_standing yX0_standing, Cond.code yX0_standing cX0_standing 1 (some .int), Cond.fieldLink RX0 38 "LieForce$Force" "sayings" "I", Cond.fieldLink RX0 41 "LieForce$Force" "withdrawn" "I", Cond.methodLink RX0 83 yJ6_bitCount_0f7a4, Cond.static yJ6_bitCount_0f7a4, Cond.initialized RJ6, Cond.code yJ6_bitCount_0f7a4 cJ6_bitCount_0f7a4 1 (some .int), Cond.constant RJ6 265 (1431655765), Cond.constant RJ6 266 (858993459), Cond.constant RJ6 267 (252645135), Cond.methodLink RX0 116 yX0_couldAllBeSo, Cond.instanceMethod yX0_couldAllBeSo, Cond.selects RX0 yX0_couldAllBeSo yX0_couldAllBeSo, Cond.code yX0_couldAllBeSo cX0_couldAllBeSo 5 (some .boolean), Cond.constantLong RX0 91 (-1)]
def wsX5_cut_r2 : List Cond := [Cond.fieldLink RX0 31 "LieForce$Force" "soWorlds" "[J", Cond.methodLink RX0 51 yX0_isThere, Cond.instanceMethod yX0_isThere, Cond.selects RX0 yX0_isThere yX0_isThere, Cond.code yX0_isThere cX0_isThere 2 (some .boolean), Cond.static yX5_isBitOf, Cond.initialized RX5, Cond.code yX5_isBitOf cX5_isBitOf 2 (some .boolean)]
def wsX5_cut : List Cond := .code yX5_cut cX5_cut 1 (some .int) :: ((wsX5_cut_r1 ++ wsX5_cut_r2) ++ wsX50 ++ wsX00)
def wsX5_truest_r1 : List Cond := [Cond.fieldLink RX5 24 "LieForce" "now" "LLieForce$Force;", Cond.methodLink RX5 72 yX5_isWithin, Cond.static yX5_isWithin, Cond.initialized RX5, Cond.code yX5_isWithin cX5_isWithin 3 (some .boolean), Cond.methodLink RX5 190 yX0_soAtOnce, Cond.instanceMethod yX0_soAtOnce, Cond.selects RX0 yX0_soAtOnce yX0_soAtOnce, Cond.initialized RX0, Cond.code yX0_soAtOnce cX0_soAtOnce 2 (some .int), Cond.methodLink RX0 75 yX0_standing, Cond.instanceMethod yX0_standing, Cond.selects RX0 yX0_standing yX0_standing, Cond.code yX0_standing cX0_standing 1 (some .int), Cond.fieldLink RX0 38 "LieForce$Force" "sayings" "I", Cond.fieldLink RX0 41 "LieForce$Force" "withdrawn" "I", Cond.methodLink RX0 79 yX0_liesIn, Cond.instanceMethod yX0_liesIn, Cond.selects RX0 yX0_liesIn yX0_liesIn, Cond.code yX0_liesIn cX0_liesIn 4 (some .int), Cond.methodLink RX0 59 yX0_isWithdrawn, Cond.instanceMethod yX0_isWithdrawn, Cond.selects RX0 yX0_isWithdrawn yX0_isWithdrawn, Cond.code yX0_isWithdrawn cX0_isWithdrawn 2 (some .boolean)]
def wsX5_truest_r2 : List Cond := [Cond.methodLink RX0 72 yX0_isSoIn, Cond.instanceMethod yX0_isSoIn, Cond.selects RX0 yX0_isSoIn yX0_isSoIn, Cond.code yX0_isSoIn cX0_isSoIn 3 (some .boolean), Cond.fieldLink RX0 31 "LieForce$Force" "soWorlds" "[J", Cond.methodLink RX0 51 yX0_isThere, Cond.instanceMethod yX0_isThere, Cond.selects RX0 yX0_isThere yX0_isThere, Cond.code yX0_isThere cX0_isThere 2 (some .boolean), Cond.static yX5_isAmong, Cond.code yX5_isAmong cX5_isAmong 3 (some .boolean), Cond.methodLink RX0 83 yJ6_bitCount_0f7a4, Cond.static yJ6_bitCount_0f7a4, Cond.initialized RJ6, Cond.code yJ6_bitCount_0f7a4 cJ6_bitCount_0f7a4 1 (some .int), Cond.constant RJ6 265 (1431655765), Cond.constant RJ6 266 (858993459), Cond.constant RJ6 267 (252645135)]
def wsX5_truest : List Cond := .code yX5_truest cX5_truest 6 (some .int) :: ((wsX5_truest_r1 ++ wsX5_truest_r2) ++ wsX50 ++ wsX00)
def wsX5_married_r1 : List Cond := [Cond.fieldLink RX5 24 "LieForce" "now" "LLieForce$Force;", Cond.fieldLink RX5 108 "LieForce$Force" "facts" "I", Cond.methodLink RX5 171 yX0_liesIn, Cond.instanceMethod yX0_liesIn, Cond.selects RX0 yX0_liesIn yX0_liesIn, Cond.initialized RX0, Cond.code yX0_liesIn cX0_liesIn 4 (some .int), Cond.fieldLink RX0 38 "LieForce$Force" "sayings" "I", Cond.methodLink RX0 59 yX0_isWithdrawn, Cond.instanceMethod yX0_isWithdrawn, Cond.selects RX0 yX0_isWithdrawn yX0_isWithdrawn, Cond.code yX0_isWithdrawn cX0_isWithdrawn 2 (some .boolean), Cond.fieldLink RX0 41 "LieForce$Force" "withdrawn" "I", Cond.methodLink RX0 72 yX0_isSoIn, Cond.instanceMethod yX0_isSoIn, Cond.selects RX0 yX0_isSoIn yX0_isSoIn, Cond.code yX0_isSoIn cX0_isSoIn 3 (some .boolean), Cond.fieldLink RX0 31 "LieForce$Force" "soWorlds" "[J", Cond.methodLink RX0 51 yX0_isThere, Cond.instanceMethod yX0_isThere, Cond.selects RX0 yX0_isThere yX0_isThere, Cond.code yX0_isThere cX0_isThere 2 (some .boolean), Cond.static yX5_isAmong, Cond.initialized RX5]
def wsX5_married_r2 : List Cond := [Cond.code yX5_isAmong cX5_isAmong 3 (some .boolean), Cond.methodLink RX5 193 yX0_mostPairs, Cond.instanceMethod yX0_mostPairs, Cond.selects RX0 yX0_mostPairs yX0_mostPairs, Cond.code yX0_mostPairs cX0_mostPairs 5 (some .int), Cond.methodLink RX0 126 Lib.Math.max.name, Cond.static Lib.Math.max.name, Cond.initialized "java/lang/Math", Cond.code Lib.Math.max.name Lib.Math.max.code 2 (some .int), Cond.methodLink RX0 119 yX0_mostPairs, Cond.static yX5_isBitOf, Cond.code yX5_isBitOf cX5_isBitOf 2 (some .boolean), Cond.methodLink RX0 123 yX0_mayMarry, Cond.instanceMethod yX0_mayMarry, Cond.selects RX0 yX0_mayMarry yX0_mayMarry, Cond.code yX0_mayMarry cX0_mayMarry 3 (some .boolean), Cond.fieldLink RX0 25 "LieForce$Force" "persons" "[I", Cond.methodLink RX0 68 yX0_areClashing, Cond.instanceMethod yX0_areClashing, Cond.selects RX0 yX0_areClashing yX0_areClashing, Cond.code yX0_areClashing cX0_areClashing 3 (some .boolean)]
def wsX5_married : List Cond := .code yX5_married cX5_married 1 (some .int) :: ((wsX5_married_r1 ++ wsX5_married_r2) ++ wsX50 ++ wsX00)
def wsX5_trial_r1 : List Cond := [Cond.fieldLink RX5 56 "LieForce" "game" "LLieForce$Game;", Cond.fieldLink RX5 24 "LieForce" "now" "LLieForce$Force;", Cond.fieldLink RX5 108 "LieForce$Force" "facts" "I", Cond.methodLink RX5 72 yX5_isWithin, Cond.static yX5_isWithin, Cond.initialized RX5, Cond.code yX5_isWithin cX5_isWithin 3 (some .boolean), Cond.methodLink RX5 197 yX1_lookAhead, Cond.instanceMethod yX1_lookAhead, Cond.selects RX1 yX1_lookAhead yX1_lookAhead, Cond.initialized RX1, Cond.code yX1_lookAhead cX1_lookAhead 6 none, Cond.fieldLink RX1 15 "LieForce$Game" "best" "[I", Cond.fieldLink RX1 9 "LieForce$Game" "behindTurn" "[I", Cond.methodLink RX1 18 yX0_liesIn, Cond.instanceMethod yX0_liesIn, Cond.selects RX0 yX0_liesIn yX0_liesIn, Cond.initialized RX0, Cond.code yX0_liesIn cX0_liesIn 4 (some .int), Cond.fieldLink RX0 38 "LieForce$Force" "sayings" "I", Cond.methodLink RX0 59 yX0_isWithdrawn, Cond.instanceMethod yX0_isWithdrawn, Cond.selects RX0 yX0_isWithdrawn yX0_isWithdrawn, Cond.code yX0_isWithdrawn cX0_isWithdrawn 2 (some .boolean)]
def wsX5_trial_r2 : List Cond := [Cond.fieldLink RX0 41 "LieForce$Force" "withdrawn" "I", Cond.methodLink RX0 72 yX0_isSoIn, Cond.instanceMethod yX0_isSoIn, Cond.selects RX0 yX0_isSoIn yX0_isSoIn, Cond.code yX0_isSoIn cX0_isSoIn 3 (some .boolean), Cond.fieldLink RX0 31 "LieForce$Force" "soWorlds" "[J", Cond.methodLink RX0 51 yX0_isThere, Cond.instanceMethod yX0_isThere, Cond.selects RX0 yX0_isThere yX0_isThere, Cond.code yX0_isThere cX0_isThere 2 (some .boolean), Cond.static yX5_isAmong, Cond.code yX5_isAmong cX5_isAmong 3 (some .boolean), Cond.methodLink RX1 24 yJ6_bitCount_0f7a4, Cond.static yJ6_bitCount_0f7a4, Cond.initialized RJ6, Cond.code yJ6_bitCount_0f7a4 cJ6_bitCount_0f7a4 1 (some .int), Cond.constant RJ6 265 (1431655765), Cond.constant RJ6 266 (858993459), Cond.constant RJ6 267 (252645135), Cond.methodLink RX1 29 yX1_bestOf, Cond.instanceMethod yX1_bestOf, Cond.selects RX1 yX1_bestOf yX1_bestOf, Cond.code yX1_bestOf cX1_bestOf 6 (some .int), Cond.methodLink RX1 36 Lib.Math.max.name]
def wsX5_trial_r3 : List Cond := [Cond.static Lib.Math.max.name, Cond.initialized "java/lang/Math", Cond.code Lib.Math.max.name Lib.Math.max.code 2 (some .int), Cond.methodLink RX1 42 Lib.Math.min.name, Cond.static Lib.Math.min.name, Cond.code Lib.Math.min.name Lib.Math.min.code 2 (some .int), Cond.methodLink RX1 33 yX1_worth, Cond.instanceMethod yX1_worth, Cond.selects RX1 yX1_worth yX1_worth, Cond.code yX1_worth cX1_worth 2 (some .int), Cond.methodLink RX5 201 yX1_outcome, Cond.instanceMethod yX1_outcome, Cond.selects RX1 yX1_outcome yX1_outcome, Cond.code yX1_outcome cX1_outcome 2 (some .int), Cond.methodLink RX5 204 yX1_firstMove, Cond.instanceMethod yX1_firstMove, Cond.selects RX1 yX1_firstMove yX1_firstMove, Cond.code yX1_firstMove cX1_firstMove 4 (some .int), Cond.methodLink RX1 49 yX1_outcome]
def wsX5_trial : List Cond := .code yX5_trial cX5_trial 3 (some .int) :: ((wsX5_trial_r1 ++ (wsX5_trial_r2 ++ wsX5_trial_r3)) ++ wsX50 ++ wsX00 ++ wsX10)
def wsX5_see : List Cond := .code yX5_see cX5_see 3 (some .int) :: ([.fieldLink RX5 24 "LieForce" "now" "LLieForce$Force;", .fieldLink RX5 49 "LieForce" "sight" "LLieForce$Sight;", .methodLink RX5 91 yX0_isThere, .instanceMethod yX0_isThere, .selects RX0 yX0_isThere yX0_isThere, .initialized RX0, .code yX0_isThere cX0_isThere 2 (some .boolean), .fieldLink RX0 38 "LieForce$Force" "sayings" "I", .methodLink RX5 207 yX4_add, .instanceMethod yX4_add, .selects RX4 yX4_add yX4_add, .initialized RX4, .code yX4_add cX4_add 3 (some .int), .fieldLink RX4 19 "LieForce$Sight" "size" "I", .fieldLink RX4 9 "LieForce$Sight" "seen" "[I", .fieldLink RX4 15 "LieForce$Sight" "has" "[Z"] ++ wsX50 ++ wsX00 ++ wsX40)
def wsX5_forget : List Cond := .code yX5_forget cX5_forget 2 (some .int) :: ([.fieldLink RX5 49 "LieForce" "sight" "LLieForce$Sight;", .fieldLink RX5 210 "LieForce$Sight" "size" "I", .methodLink RX5 90 yX4_clear, .instanceMethod yX4_clear, .selects RX4 yX4_clear yX4_clear, .initialized RX4, .code yX4_clear cX4_clear 1 none, .fieldLink RX4 19 "LieForce$Sight" "size" "I"] ++ wsX50 ++ wsX40)
def wsJ13_bitCount_95d88 : List Cond := .code yJ13_bitCount_95d88 cJ13_bitCount_95d88 2 (some .int) :: ([.constantLong RJ13 314 (6148914691236517205), .constantLong RJ13 316 (3689348814741910323), .constantLong RJ13 318 (1085102592571150095)])
def wsX5_lowestWorld : List Cond := .code yX5_lowestWorld cX5_lowestWorld 3 (some .int) :: ([.methodLink RX5 231 yX5_isAmong, .static yX5_isAmong, .initialized RX5, .code yX5_isAmong cX5_isAmong 3 (some .boolean)])
def wsX5_worlds_r1 : List Cond := [Cond.fieldLink RX5 49 "LieForce" "sight" "LLieForce$Sight;", Cond.fieldLink RX5 24 "LieForce" "now" "LLieForce$Force;", Cond.methodLink RX5 72 yX5_isWithin, Cond.static yX5_isWithin, Cond.initialized RX5, Cond.code yX5_isWithin cX5_isWithin 3 (some .boolean), Cond.methodLink RX5 211 yX4_worldsAsSeen, Cond.instanceMethod yX4_worldsAsSeen, Cond.selects RX4 yX4_worldsAsSeen yX4_worldsAsSeen, Cond.initialized RX4, Cond.code yX4_worldsAsSeen cX4_worldsAsSeen 7 (some .long), Cond.constantLong RX4 23 (-1), Cond.fieldLink RX4 19 "LieForce$Sight" "size" "I", Cond.fieldLink RX4 9 "LieForce$Sight" "seen" "[I", Cond.fieldLink RX4 15 "LieForce$Sight" "has" "[Z", Cond.methodLink RX4 25 yX0_policedWorlds, Cond.instanceMethod yX0_policedWorlds, Cond.selects RX0 yX0_policedWorlds yX0_policedWorlds, Cond.initialized RX0, Cond.code yX0_policedWorlds cX0_policedWorlds 2 (some .long), Cond.fieldLink RX0 31 "LieForce$Force" "soWorlds" "[J", Cond.constantLong RX0 91 (-1), Cond.methodLink RX0 51 yX0_isThere, Cond.instanceMethod yX0_isThere]
def wsX5_worlds_r2 : List Cond := [Cond.selects RX0 yX0_isThere yX0_isThere, Cond.code yX0_isThere cX0_isThere 2 (some .boolean), Cond.fieldLink RX0 38 "LieForce$Force" "sayings" "I", Cond.methodLink RX0 59 yX0_isWithdrawn, Cond.instanceMethod yX0_isWithdrawn, Cond.selects RX0 yX0_isWithdrawn yX0_isWithdrawn, Cond.code yX0_isWithdrawn cX0_isWithdrawn 2 (some .boolean), Cond.fieldLink RX0 41 "LieForce$Force" "withdrawn" "I", Cond.methodLink RX5 215 yJ13_bitCount_95d88, Cond.static yJ13_bitCount_95d88, Cond.initialized RJ13, Cond.code yJ13_bitCount_95d88 cJ13_bitCount_95d88 2 (some .int), Cond.constantLong RJ13 314 (6148914691236517205), Cond.constantLong RJ13 316 (3689348814741910323), Cond.constantLong RJ13 318 (1085102592571150095), Cond.methodLink RX5 221 yX5_lowestWorld, Cond.static yX5_lowestWorld, Cond.code yX5_lowestWorld cX5_lowestWorld 3 (some .int), Cond.methodLink RX5 231 yX5_isAmong, Cond.static yX5_isAmong, Cond.code yX5_isAmong cX5_isAmong 3 (some .boolean)]
def wsX5_worlds : List Cond := .code yX5_worlds cX5_worlds 4 (some .int) :: ((wsX5_worlds_r1 ++ wsX5_worlds_r2) ++ wsX50 ++ wsX40 ++ wsX00)
def wsX5_must_r1 : List Cond := [Cond.fieldLink RX5 49 "LieForce" "sight" "LLieForce$Sight;", Cond.fieldLink RX5 24 "LieForce" "now" "LLieForce$Force;", Cond.methodLink RX5 128 yX5_isFact, Cond.static yX5_isFact, Cond.initialized RX5, Cond.code yX5_isFact cX5_isFact 1 (some .boolean), Cond.methodLink RX5 72 yX5_isWithin, Cond.static yX5_isWithin, Cond.code yX5_isWithin cX5_isWithin 3 (some .boolean), Cond.methodLink RX5 211 yX4_worldsAsSeen, Cond.instanceMethod yX4_worldsAsSeen, Cond.selects RX4 yX4_worldsAsSeen yX4_worldsAsSeen, Cond.initialized RX4, Cond.code yX4_worldsAsSeen cX4_worldsAsSeen 7 (some .long), Cond.constantLong RX4 23 (-1), Cond.fieldLink RX4 19 "LieForce$Sight" "size" "I", Cond.fieldLink RX4 9 "LieForce$Sight" "seen" "[I", Cond.fieldLink RX4 15 "LieForce$Sight" "has" "[Z", Cond.methodLink RX4 25 yX0_policedWorlds, Cond.instanceMethod yX0_policedWorlds, Cond.selects RX0 yX0_policedWorlds yX0_policedWorlds, Cond.initialized RX0, Cond.code yX0_policedWorlds cX0_policedWorlds 2 (some .long), Cond.fieldLink RX0 31 "LieForce$Force" "soWorlds" "[J"]
def wsX5_must_r2 : List Cond := [Cond.constantLong RX0 91 (-1), Cond.methodLink RX0 51 yX0_isThere, Cond.instanceMethod yX0_isThere, Cond.selects RX0 yX0_isThere yX0_isThere, Cond.code yX0_isThere cX0_isThere 2 (some .boolean), Cond.fieldLink RX0 38 "LieForce$Force" "sayings" "I", Cond.methodLink RX0 59 yX0_isWithdrawn, Cond.instanceMethod yX0_isWithdrawn, Cond.selects RX0 yX0_isWithdrawn yX0_isWithdrawn, Cond.code yX0_isWithdrawn cX0_isWithdrawn 2 (some .boolean), Cond.fieldLink RX0 41 "LieForce$Force" "withdrawn" "I", Cond.methodLink RX5 224 yX5_worldsOfLiteral, Cond.static yX5_worldsOfLiteral, Cond.code yX5_worldsOfLiteral cX5_worldsOfLiteral 1 (some .long), Cond.fieldLink RX5 269 "LieForce" "WORLDS_OF_FACT" "[J", Cond.constantLong RX5 273 (-1)]
def wsX5_must : List Cond := .code yX5_must cX5_must 6 (some .int) :: ((wsX5_must_r1 ++ wsX5_must_r2) ++ wsX50 ++ wsX40 ++ wsX00)
def wsX5_liars_r1 : List Cond := [Cond.fieldLink RX5 49 "LieForce" "sight" "LLieForce$Sight;", Cond.fieldLink RX5 24 "LieForce" "now" "LLieForce$Force;", Cond.methodLink RX5 72 yX5_isWithin, Cond.static yX5_isWithin, Cond.initialized RX5, Cond.code yX5_isWithin cX5_isWithin 3 (some .boolean), Cond.methodLink RX5 211 yX4_worldsAsSeen, Cond.instanceMethod yX4_worldsAsSeen, Cond.selects RX4 yX4_worldsAsSeen yX4_worldsAsSeen, Cond.initialized RX4, Cond.code yX4_worldsAsSeen cX4_worldsAsSeen 7 (some .long), Cond.constantLong RX4 23 (-1), Cond.fieldLink RX4 19 "LieForce$Sight" "size" "I", Cond.fieldLink RX4 9 "LieForce$Sight" "seen" "[I", Cond.fieldLink RX4 15 "LieForce$Sight" "has" "[Z", Cond.methodLink RX4 25 yX0_policedWorlds, Cond.instanceMethod yX0_policedWorlds, Cond.selects RX0 yX0_policedWorlds yX0_policedWorlds, Cond.initialized RX0, Cond.code yX0_policedWorlds cX0_policedWorlds 2 (some .long), Cond.fieldLink RX0 31 "LieForce$Force" "soWorlds" "[J", Cond.constantLong RX0 91 (-1), Cond.methodLink RX0 51 yX0_isThere, Cond.instanceMethod yX0_isThere]
def wsX5_liars_r2 : List Cond := [Cond.selects RX0 yX0_isThere yX0_isThere, Cond.code yX0_isThere cX0_isThere 2 (some .boolean), Cond.fieldLink RX0 38 "LieForce$Force" "sayings" "I", Cond.methodLink RX0 59 yX0_isWithdrawn, Cond.instanceMethod yX0_isWithdrawn, Cond.selects RX0 yX0_isWithdrawn yX0_isWithdrawn, Cond.code yX0_isWithdrawn cX0_isWithdrawn 2 (some .boolean), Cond.fieldLink RX0 41 "LieForce$Force" "withdrawn" "I", Cond.methodLink RX5 228 yX0_liarsIn, Cond.instanceMethod yX0_liarsIn, Cond.selects RX0 yX0_liarsIn yX0_liarsIn, Cond.code yX0_liarsIn cX0_liarsIn 5 (some .int), Cond.fieldLink RX0 25 "LieForce$Force" "persons" "[I", Cond.methodLink RX0 79 yX0_liesIn, Cond.instanceMethod yX0_liesIn, Cond.selects RX0 yX0_liesIn yX0_liesIn, Cond.code yX0_liesIn cX0_liesIn 4 (some .int), Cond.methodLink RX0 72 yX0_isSoIn, Cond.instanceMethod yX0_isSoIn, Cond.selects RX0 yX0_isSoIn yX0_isSoIn, Cond.code yX0_isSoIn cX0_isSoIn 3 (some .boolean), Cond.static yX5_isAmong, Cond.code yX5_isAmong cX5_isAmong 3 (some .boolean), Cond.static yX5_isBitOf]
def wsX5_liars_r3 : List Cond := [Cond.code yX5_isBitOf cX5_isBitOf 2 (some .boolean), Cond.methodLink RX0 83 yJ6_bitCount_0f7a4, Cond.static yJ6_bitCount_0f7a4, Cond.initialized RJ6, Cond.code yJ6_bitCount_0f7a4 cJ6_bitCount_0f7a4 1 (some .int), Cond.constant RJ6 265 (1431655765), Cond.constant RJ6 266 (858993459), Cond.constant RJ6 267 (252645135), Cond.methodLink RX5 231 yX5_isAmong]
def wsX5_liars : List Cond := .code yX5_liars cX5_liars 8 (some .int) :: ((wsX5_liars_r1 ++ (wsX5_liars_r2 ++ wsX5_liars_r3)) ++ wsX50 ++ wsX40 ++ wsX00)
def wsX5_power : List Cond := .code yX5_power cX5_power 4 (some .int) :: ([])
def wsX5_waysToTurn : List Cond := .code yX5_waysToTurn cX5_waysToTurn 3 (some .int) :: ([.methodLink RX5 235 yJ6_bitCount_0f7a4, .static yJ6_bitCount_0f7a4, .initialized RJ6, .code yJ6_bitCount_0f7a4 cJ6_bitCount_0f7a4 1 (some .int), .constant RJ6 265 (1431655765), .constant RJ6 266 (858993459), .constant RJ6 267 (252645135), .methodLink RX5 242 yX5_power, .static yX5_power, .initialized RX5, .code yX5_power cX5_power 4 (some .int)])
def wsX5_commonDivisor : List Cond := .code yX5_commonDivisor cX5_commonDivisor 6 (some .int) :: ([])
def wsX5_chance_r1 : List Cond := [Cond.fieldLink RX5 24 "LieForce" "now" "LLieForce$Force;", Cond.fieldLink RX5 108 "LieForce$Force" "facts" "I", Cond.methodLink RX5 72 yX5_isWithin, Cond.static yX5_isWithin, Cond.initialized RX5, Cond.code yX5_isWithin cX5_isWithin 3 (some .boolean), Cond.methodLink RX5 171 yX0_liesIn, Cond.instanceMethod yX0_liesIn, Cond.selects RX0 yX0_liesIn yX0_liesIn, Cond.initialized RX0, Cond.code yX0_liesIn cX0_liesIn 4 (some .int), Cond.fieldLink RX0 38 "LieForce$Force" "sayings" "I", Cond.methodLink RX0 59 yX0_isWithdrawn, Cond.instanceMethod yX0_isWithdrawn, Cond.selects RX0 yX0_isWithdrawn yX0_isWithdrawn, Cond.code yX0_isWithdrawn cX0_isWithdrawn 2 (some .boolean), Cond.fieldLink RX0 41 "LieForce$Force" "withdrawn" "I", Cond.methodLink RX0 72 yX0_isSoIn, Cond.instanceMethod yX0_isSoIn, Cond.selects RX0 yX0_isSoIn yX0_isSoIn, Cond.code yX0_isSoIn cX0_isSoIn 3 (some .boolean), Cond.fieldLink RX0 31 "LieForce$Force" "soWorlds" "[J", Cond.methodLink RX0 51 yX0_isThere, Cond.instanceMethod yX0_isThere]
def wsX5_chance_r2 : List Cond := [Cond.selects RX0 yX0_isThere yX0_isThere, Cond.code yX0_isThere cX0_isThere 2 (some .boolean), Cond.static yX5_isAmong, Cond.code yX5_isAmong cX5_isAmong 3 (some .boolean), Cond.methodLink RX5 235 yJ6_bitCount_0f7a4, Cond.static yJ6_bitCount_0f7a4, Cond.initialized RJ6, Cond.code yJ6_bitCount_0f7a4 cJ6_bitCount_0f7a4 1 (some .int), Cond.constant RJ6 265 (1431655765), Cond.constant RJ6 266 (858993459), Cond.constant RJ6 267 (252645135), Cond.methodLink RX5 239 yX5_waysToTurn, Cond.static yX5_waysToTurn, Cond.code yX5_waysToTurn cX5_waysToTurn 3 (some .int), Cond.methodLink RX5 242 yX5_power, Cond.static yX5_power, Cond.code yX5_power cX5_power 4 (some .int), Cond.methodLink RX5 245 yX5_commonDivisor, Cond.static yX5_commonDivisor, Cond.code yX5_commonDivisor cX5_commonDivisor 6 (some .int)]
def wsX5_chance : List Cond := .code yX5_chance cX5_chance 7 (some .int) :: ((wsX5_chance_r1 ++ wsX5_chance_r2) ++ wsX50 ++ wsX00)
def wsX5_draw : List Cond := .code yX5_draw cX5_draw 4 (some .int) :: ([.constantLong RX5 263 (7919), .constantLong RX5 265 (6151), .constantLong RX5 267 (65521)])
def wsX5_year_r1 : List Cond := [Cond.fieldLink RX5 31 "LieForce" "ahead" "LLieForce$Force;", Cond.fieldLink RX5 24 "LieForce" "now" "LLieForce$Force;", Cond.methodLink RX5 72 yX5_isWithin, Cond.static yX5_isWithin, Cond.initialized RX5, Cond.code yX5_isWithin cX5_isWithin 3 (some .boolean), Cond.methodLink RX5 83 yX0_copy, Cond.instanceMethod yX0_copy, Cond.selects RX0 yX0_copy yX0_copy, Cond.initialized RX0, Cond.code yX0_copy cX0_copy 3 none, Cond.fieldLink RX0 35 "LieForce$Force" "facts" "I", Cond.fieldLink RX0 38 "LieForce$Force" "sayings" "I", Cond.fieldLink RX0 41 "LieForce$Force" "withdrawn" "I", Cond.fieldLink RX0 44 "LieForce$Force" "days" "I", Cond.fieldLink RX0 9 "LieForce$Force" "term" "I", Cond.fieldLink RX0 15 "LieForce$Force" "kinds" "[I", Cond.fieldLink RX0 19 "LieForce$Force" "firsts" "[I", Cond.fieldLink RX0 22 "LieForce$Force" "seconds" "[I", Cond.fieldLink RX0 25 "LieForce$Force" "persons" "[I", Cond.fieldLink RX0 28 "LieForce$Force" "served" "[I", Cond.fieldLink RX0 31 "LieForce$Force" "soWorlds" "[J", Cond.methodLink RX5 248 yX5_draw, Cond.static yX5_draw]
def wsX5_year_r2 : List Cond := [Cond.code yX5_draw cX5_draw 4 (some .int), Cond.constantLong RX5 263 (7919), Cond.constantLong RX5 265 (6151), Cond.constantLong RX5 267 (65521), Cond.methodLink RX5 251 yX0_takeDraw, Cond.instanceMethod yX0_takeDraw, Cond.selects RX0 yX0_takeDraw yX0_takeDraw, Cond.code yX0_takeDraw cX0_takeDraw 3 none, Cond.methodLink RX0 110 yX0_turnFact, Cond.instanceMethod yX0_turnFact, Cond.selects RX0 yX0_turnFact yX0_turnFact, Cond.code yX0_turnFact cX0_turnFact 3 none, Cond.static yX5_isFact, Cond.code yX5_isFact cX5_isFact 1 (some .boolean), Cond.methodLink RX0 51 yX0_isThere, Cond.instanceMethod yX0_isThere, Cond.selects RX0 yX0_isThere yX0_isThere, Cond.code yX0_isThere cX0_isThere 2 (some .boolean), Cond.methodLink RX0 62 yX0_hasPoliceman, Cond.instanceMethod yX0_hasPoliceman, Cond.selects RX0 yX0_hasPoliceman yX0_hasPoliceman, Cond.code yX0_hasPoliceman cX0_hasPoliceman 2 (some .boolean), Cond.methodLink RX0 59 yX0_isWithdrawn, Cond.instanceMethod yX0_isWithdrawn]
def wsX5_year_r3 : List Cond := [Cond.selects RX0 yX0_isWithdrawn yX0_isWithdrawn, Cond.code yX0_isWithdrawn cX0_isWithdrawn 2 (some .boolean), Cond.static yX5_isAmong, Cond.code yX5_isAmong cX5_isAmong 3 (some .boolean), Cond.methodLink RX0 113 yX0_canBeWithdrawn, Cond.instanceMethod yX0_canBeWithdrawn, Cond.selects RX0 yX0_canBeWithdrawn yX0_canBeWithdrawn, Cond.code yX0_canBeWithdrawn cX0_canBeWithdrawn 2 (some .boolean), Cond.methodLink RX0 65 yX0_hasServed, Cond.instanceMethod yX0_hasServed, Cond.selects RX0 yX0_hasServed yX0_hasServed, Cond.code yX0_hasServed cX0_hasServed 2 (some .boolean), Cond.methodLink RX0 106 yX0_takeOut, Cond.instanceMethod yX0_takeOut, Cond.selects RX0 yX0_takeOut yX0_takeOut, Cond.code yX0_takeOut cX0_takeOut 2 none, Cond.methodLink RX5 137 yX0_passDay, Cond.instanceMethod yX0_passDay, Cond.selects RX0 yX0_passDay yX0_passDay, Cond.code yX0_passDay cX0_passDay 4 (some .int), Cond.methodLink RX0 103 yX0_serveDay, Cond.instanceMethod yX0_serveDay, Cond.selects RX0 yX0_serveDay yX0_serveDay, Cond.code yX0_serveDay cX0_serveDay 2 none]
def wsX5_year_r4 : List Cond := [Cond.methodLink RX0 100 yX0_mateOf, Cond.instanceMethod yX0_mateOf, Cond.selects RX0 yX0_mateOf yX0_mateOf, Cond.code yX0_mateOf cX0_mateOf 3 (some .int), Cond.methodLink RX0 68 yX0_areClashing, Cond.instanceMethod yX0_areClashing, Cond.selects RX0 yX0_areClashing yX0_areClashing, Cond.code yX0_areClashing cX0_areClashing 3 (some .boolean), Cond.methodLink RX5 158 yX0_policemen, Cond.instanceMethod yX0_policemen, Cond.selects RX0 yX0_policemen yX0_policemen, Cond.code yX0_policemen cX0_policemen 1 (some .int), Cond.methodLink RX0 79 yX0_liesIn, Cond.instanceMethod yX0_liesIn, Cond.selects RX0 yX0_liesIn yX0_liesIn, Cond.code yX0_liesIn cX0_liesIn 4 (some .int), Cond.methodLink RX0 72 yX0_isSoIn, Cond.instanceMethod yX0_isSoIn, Cond.selects RX0 yX0_isSoIn yX0_isSoIn, Cond.code yX0_isSoIn cX0_isSoIn 3 (some .boolean), Cond.methodLink RX0 83 yJ6_bitCount_0f7a4, Cond.static yJ6_bitCount_0f7a4, Cond.initialized RJ6, Cond.code yJ6_bitCount_0f7a4 cJ6_bitCount_0f7a4 1 (some .int)]
def wsX5_year_r5 : List Cond := [Cond.constant RJ6 265 (1431655765), Cond.constant RJ6 266 (858993459), Cond.constant RJ6 267 (252645135)]
def wsX5_year : List Cond := .code yX5_year cX5_year 6 (some .int) :: ((wsX5_year_r1 ++ (wsX5_year_r2 ++ (wsX5_year_r3 ++ (wsX5_year_r4 ++ wsX5_year_r5)))) ++ wsX50 ++ wsX00)
def wsX5_keep_r1 : List Cond := [Cond.fieldLink RX5 43 "LieForce" "kept" "LLieForce$Pile;", Cond.fieldLink RX5 168 "LieForce$Pile" "size" "I", Cond.fieldLink RX5 24 "LieForce" "now" "LLieForce$Force;", Cond.methodLink RX5 134 yX2_add, Cond.instanceMethod yX2_add, Cond.selects RX2 yX2_add yX2_add, Cond.initialized RX2, Cond.code yX2_add cX2_add 2 none, Cond.fieldLink RX2 9 "LieForce$Pile" "stood" "[LLieForce$Force;", Cond.fieldLink RX2 16 "LieForce$Pile" "size" "I", Cond.methodLink RX2 20 yX2_dropOldest, Cond.instanceMethod yX2_dropOldest, Cond.selects RX2 yX2_dropOldest yX2_dropOldest, Cond.code yX2_dropOldest cX2_dropOldest 3 none, Cond.methodLink RX2 23 yX0_copy, Cond.instanceMethod yX0_copy, Cond.selects RX0 yX0_copy yX0_copy, Cond.initialized RX0, Cond.code yX0_copy cX0_copy 3 none, Cond.fieldLink RX0 35 "LieForce$Force" "facts" "I", Cond.fieldLink RX0 38 "LieForce$Force" "sayings" "I", Cond.fieldLink RX0 41 "LieForce$Force" "withdrawn" "I", Cond.fieldLink RX0 44 "LieForce$Force" "days" "I", Cond.fieldLink RX0 9 "LieForce$Force" "term" "I"]
def wsX5_keep_r2 : List Cond := [Cond.fieldLink RX0 15 "LieForce$Force" "kinds" "[I", Cond.fieldLink RX0 19 "LieForce$Force" "firsts" "[I", Cond.fieldLink RX0 22 "LieForce$Force" "seconds" "[I", Cond.fieldLink RX0 25 "LieForce$Force" "persons" "[I", Cond.fieldLink RX0 28 "LieForce$Force" "served" "[I", Cond.fieldLink RX0 31 "LieForce$Force" "soWorlds" "[J"]
def wsX5_keep : List Cond := .code yX5_keep cX5_keep 1 (some .int) :: ((wsX5_keep_r1 ++ wsX5_keep_r2) ++ wsX50 ++ wsX20 ++ wsX00)
def wsX5_back_r1 : List Cond := [Cond.fieldLink RX5 43 "LieForce" "kept" "LLieForce$Pile;", Cond.fieldLink RX5 24 "LieForce" "now" "LLieForce$Force;", Cond.fieldLink RX5 39 "LieForce" "undoable" "LLieForce$Pile;", Cond.fieldLink RX5 168 "LieForce$Pile" "size" "I", Cond.methodLink RX5 164 yX2_takeLast, Cond.instanceMethod yX2_takeLast, Cond.selects RX2 yX2_takeLast yX2_takeLast, Cond.initialized RX2, Cond.code yX2_takeLast cX2_takeLast 2 (some .boolean), Cond.fieldLink RX2 16 "LieForce$Pile" "size" "I", Cond.fieldLink RX2 9 "LieForce$Pile" "stood" "[LLieForce$Force;", Cond.methodLink RX2 23 yX0_copy, Cond.instanceMethod yX0_copy, Cond.selects RX0 yX0_copy yX0_copy, Cond.initialized RX0, Cond.code yX0_copy cX0_copy 3 none, Cond.fieldLink RX0 35 "LieForce$Force" "facts" "I", Cond.fieldLink RX0 38 "LieForce$Force" "sayings" "I", Cond.fieldLink RX0 41 "LieForce$Force" "withdrawn" "I", Cond.fieldLink RX0 44 "LieForce$Force" "days" "I", Cond.fieldLink RX0 9 "LieForce$Force" "term" "I", Cond.fieldLink RX0 15 "LieForce$Force" "kinds" "[I", Cond.fieldLink RX0 19 "LieForce$Force" "firsts" "[I", Cond.fieldLink RX0 22 "LieForce$Force" "seconds" "[I"]
def wsX5_back_r2 : List Cond := [Cond.fieldLink RX0 25 "LieForce$Force" "persons" "[I", Cond.fieldLink RX0 28 "LieForce$Force" "served" "[I", Cond.fieldLink RX0 31 "LieForce$Force" "soWorlds" "[J", Cond.methodLink RX5 87 yX2_clear, Cond.instanceMethod yX2_clear, Cond.selects RX2 yX2_clear yX2_clear, Cond.code yX2_clear cX2_clear 1 none]
def wsX5_back : List Cond := .code yX5_back cX5_back 1 (some .int) :: ((wsX5_back_r1 ++ wsX5_back_r2) ++ wsX50 ++ wsX20 ++ wsX00)
def wsX5_count_r1 : List Cond := [Cond.fieldLink RX5 24 "LieForce" "now" "LLieForce$Force;", Cond.fieldLink RX5 80 "LieForce$Force" "sayings" "I", Cond.fieldLink RX5 254 "LieForce$Force" "withdrawn" "I", Cond.fieldLink RX5 141 "LieForce$Force" "days" "I", Cond.fieldLink RX5 108 "LieForce$Force" "facts" "I", Cond.fieldLink RX5 49 "LieForce" "sight" "LLieForce$Sight;", Cond.fieldLink RX5 210 "LieForce$Sight" "size" "I", Cond.fieldLink RX5 39 "LieForce" "undoable" "LLieForce$Pile;", Cond.fieldLink RX5 168 "LieForce$Pile" "size" "I", Cond.fieldLink RX5 43 "LieForce" "kept" "LLieForce$Pile;", Cond.fieldLink RX5 76 "LieForce" "length" "I", Cond.methodLink RX5 235 yJ6_bitCount_0f7a4, Cond.static yJ6_bitCount_0f7a4, Cond.initialized RJ6, Cond.code yJ6_bitCount_0f7a4 cJ6_bitCount_0f7a4 1 (some .int), Cond.constant RJ6 265 (1431655765), Cond.constant RJ6 266 (858993459), Cond.constant RJ6 267 (252645135), Cond.methodLink RX5 158 yX0_policemen, Cond.instanceMethod yX0_policemen, Cond.selects RX0 yX0_policemen yX0_policemen, Cond.initialized RX0, Cond.code yX0_policemen cX0_policemen 1 (some .int), Cond.fieldLink RX0 35 "LieForce$Force" "facts" "I"]
def wsX5_count_r2 : List Cond := [Cond.methodLink RX0 79 yX0_liesIn, Cond.instanceMethod yX0_liesIn, Cond.selects RX0 yX0_liesIn yX0_liesIn, Cond.code yX0_liesIn cX0_liesIn 4 (some .int), Cond.fieldLink RX0 38 "LieForce$Force" "sayings" "I", Cond.methodLink RX0 59 yX0_isWithdrawn, Cond.instanceMethod yX0_isWithdrawn, Cond.selects RX0 yX0_isWithdrawn yX0_isWithdrawn, Cond.code yX0_isWithdrawn cX0_isWithdrawn 2 (some .boolean), Cond.fieldLink RX0 41 "LieForce$Force" "withdrawn" "I", Cond.methodLink RX0 72 yX0_isSoIn, Cond.instanceMethod yX0_isSoIn, Cond.selects RX0 yX0_isSoIn yX0_isSoIn, Cond.code yX0_isSoIn cX0_isSoIn 3 (some .boolean), Cond.fieldLink RX0 31 "LieForce$Force" "soWorlds" "[J", Cond.methodLink RX0 51 yX0_isThere, Cond.instanceMethod yX0_isThere, Cond.selects RX0 yX0_isThere yX0_isThere, Cond.code yX0_isThere cX0_isThere 2 (some .boolean), Cond.static yX5_isAmong, Cond.initialized RX5, Cond.code yX5_isAmong cX5_isAmong 3 (some .boolean), Cond.methodLink RX0 83 yJ6_bitCount_0f7a4, Cond.methodLink RX5 257 yX0_policemenWhoServed]
def wsX5_count_r3 : List Cond := [Cond.instanceMethod yX0_policemenWhoServed, Cond.selects RX0 yX0_policemenWhoServed yX0_policemenWhoServed, Cond.code yX0_policemenWhoServed cX0_policemenWhoServed 3 (some .int), Cond.methodLink RX0 65 yX0_hasServed, Cond.instanceMethod yX0_hasServed, Cond.selects RX0 yX0_hasServed yX0_hasServed, Cond.code yX0_hasServed cX0_hasServed 2 (some .boolean), Cond.fieldLink RX0 28 "LieForce$Force" "served" "[I", Cond.fieldLink RX0 9 "LieForce$Force" "term" "I", Cond.methodLink RX0 62 yX0_hasPoliceman, Cond.instanceMethod yX0_hasPoliceman, Cond.selects RX0 yX0_hasPoliceman yX0_hasPoliceman, Cond.code yX0_hasPoliceman cX0_hasPoliceman 2 (some .boolean), Cond.static yX5_asNumber, Cond.code yX5_asNumber cX5_asNumber 1 (some .int)]
def wsX5_count : List Cond := .code yX5_count cX5_count 2 (some .int) :: ((wsX5_count_r1 ++ (wsX5_count_r2 ++ wsX5_count_r3)) ++ wsX50 ++ wsX00 ++ wsX40 ++ wsX20)
def wsX6_clearTold : List Cond := .code yX6_clearTold cX6_clearTold 2 none :: ([.fieldLink RX6 28 "LieForceModel" "read" "[I", .fieldLink RX6 53 "LieForceModel" "readTerm" "I"] ++ wsX60)
def wsX6_puts : List Cond := .code yX6_puts cX6_puts 6 none :: ([])
def wsX6_tellsSaying : List Cond := .code yX6_tellsSaying cX6_tellsSaying 5 none :: ([.fieldLink RX6 28 "LieForceModel" "read" "[I", .methodLink RX6 60 yX6_puts, .static yX6_puts, .initialized RX6, .code yX6_puts cX6_puts 6 none] ++ wsX60)
def wsX6_copies : List Cond := .code yX6_copies cX6_copies 5 none :: ([])
def wsX6_has : List Cond := .code yX6_has cX6_has 2 (some .boolean) :: ([])
def wsX6_isTrue : List Cond := .code yX6_isTrue cX6_isTrue 2 (some .boolean) :: ([.methodLink RX6 124 yX6_has, .static yX6_has, .initialized RX6, .code yX6_has cX6_has 2 (some .boolean)])
def wsX6_isSo : List Cond := .code yX6_isSo cX6_isSo 6 (some .boolean) :: ([.fieldLink RX6 31 "LieForceModel" "now" "[I", .methodLink RX6 128 yX6_isTrue, .static yX6_isTrue, .initialized RX6, .code yX6_isTrue cX6_isTrue 2 (some .boolean), .methodLink RX6 124 yX6_has, .static yX6_has, .code yX6_has cX6_has 2 (some .boolean)] ++ wsX60)
def wsX6_policeIn : List Cond := .code yX6_policeIn cX6_policeIn 4 (some .int) :: ([.fieldLink RX6 31 "LieForceModel" "now" "[I", .methodLink RX6 124 yX6_has, .static yX6_has, .initialized RX6, .code yX6_has cX6_has 2 (some .boolean), .methodLink RX6 131 yX6_isSo, .instanceMethod yX6_isSo, .selects RX6 yX6_isSo yX6_isSo, .code yX6_isSo cX6_isSo 6 (some .boolean), .methodLink RX6 128 yX6_isTrue, .static yX6_isTrue, .code yX6_isTrue cX6_isTrue 2 (some .boolean)] ++ wsX60)
def wsX6_appoints : List Cond := .code yX6_appoints cX6_appoints 4 none :: ([.fieldLink RX6 31 "LieForceModel" "now" "[I", .methodLink RX6 134 yX6_policeIn, .instanceMethod yX6_policeIn, .selects RX6 yX6_policeIn yX6_policeIn, .initialized RX6, .code yX6_policeIn cX6_policeIn 4 (some .int), .methodLink RX6 124 yX6_has, .static yX6_has, .code yX6_has cX6_has 2 (some .boolean), .methodLink RX6 131 yX6_isSo, .instanceMethod yX6_isSo, .selects RX6 yX6_isSo yX6_isSo, .code yX6_isSo cX6_isSo 6 (some .boolean), .methodLink RX6 128 yX6_isTrue, .static yX6_isTrue, .code yX6_isTrue cX6_isTrue 2 (some .boolean)] ++ wsX60)
def wsX6_settles_r1 : List Cond := [Cond.fieldLink RX6 53 "LieForceModel" "readTerm" "I", Cond.fieldLink RX6 105 "LieForceModel" "term" "I", Cond.fieldLink RX6 31 "LieForceModel" "now" "[I", Cond.fieldLink RX6 28 "LieForceModel" "read" "[I", Cond.fieldLink RX6 7 "LieForceModel" "st" "[I", Cond.fieldLink RX6 115 "LieForceModel" "acts" "I", Cond.fieldLink RX6 118 "LieForceModel" "keeps" "I", Cond.fieldLink RX6 121 "LieForceModel" "sees" "I", Cond.methodLink RX6 108 yX6_copies, Cond.static yX6_copies, Cond.initialized RX6, Cond.code yX6_copies cX6_copies 5 none, Cond.methodLink RX6 112 yX6_appoints, Cond.instanceMethod yX6_appoints, Cond.selects RX6 yX6_appoints yX6_appoints, Cond.code yX6_appoints cX6_appoints 4 none, Cond.methodLink RX6 134 yX6_policeIn, Cond.instanceMethod yX6_policeIn, Cond.selects RX6 yX6_policeIn yX6_policeIn, Cond.code yX6_policeIn cX6_policeIn 4 (some .int), Cond.methodLink RX6 124 yX6_has, Cond.static yX6_has, Cond.code yX6_has cX6_has 2 (some .boolean), Cond.methodLink RX6 131 yX6_isSo]
def wsX6_settles_r2 : List Cond := [Cond.instanceMethod yX6_isSo, Cond.selects RX6 yX6_isSo yX6_isSo, Cond.code yX6_isSo cX6_isSo 6 (some .boolean), Cond.methodLink RX6 128 yX6_isTrue, Cond.static yX6_isTrue, Cond.code yX6_isTrue cX6_isTrue 2 (some .boolean)]
def wsX6_settles : List Cond := .code yX6_settles cX6_settles 1 none :: ((wsX6_settles_r1 ++ wsX6_settles_r2) ++ wsX60)
def wsX6_init_r1 : List Cond := [Cond.methodLink RX6 1 objectInit, Cond.instanceMethod objectInit, Cond.code objectInit ⟨#[0xb1]⟩ 1 none, Cond.arrayClass .int, Cond.fieldLink RX6 7 "LieForceModel" "st" "[I", Cond.fieldLink RX6 13 "LieForceModel" "was" "[I", Cond.fieldLink RX6 16 "LieForceModel" "kept" "[I", Cond.fieldLink RX6 19 "LieForceModel" "seen" "[I", Cond.fieldLink RX6 22 "LieForceModel" "text" "[I", Cond.fieldLink RX6 25 "LieForceModel" "told" "[I", Cond.fieldLink RX6 28 "LieForceModel" "read" "[I", Cond.fieldLink RX6 31 "LieForceModel" "now" "[I", Cond.fieldLink RX6 34 "LieForceModel" "so" "[I", Cond.fieldLink RX6 37 "LieForceModel" "pairs" "[I", Cond.fieldLink RX6 40 "LieForceModel" "ends" "[I", Cond.fieldLink RX6 43 "LieForceModel" "next" "[I", Cond.fieldLink RX6 53 "LieForceModel" "readTerm" "I", Cond.methodLink RX6 46 yX6_clearTold, Cond.instanceMethod yX6_clearTold, Cond.selects RX6 yX6_clearTold yX6_clearTold, Cond.initialized RX6, Cond.code yX6_clearTold cX6_clearTold 2 none, Cond.methodLink RX6 49 yX6_tellsSaying, Cond.instanceMethod yX6_tellsSaying]
def wsX6_init_r2 : List Cond := [Cond.selects RX6 yX6_tellsSaying yX6_tellsSaying, Cond.code yX6_tellsSaying cX6_tellsSaying 5 none, Cond.methodLink RX6 60 yX6_puts, Cond.static yX6_puts, Cond.code yX6_puts cX6_puts 6 none, Cond.methodLink RX6 57 yX6_settles, Cond.instanceMethod yX6_settles, Cond.selects RX6 yX6_settles yX6_settles, Cond.code yX6_settles cX6_settles 1 none, Cond.fieldLink RX6 105 "LieForceModel" "term" "I", Cond.fieldLink RX6 115 "LieForceModel" "acts" "I", Cond.fieldLink RX6 118 "LieForceModel" "keeps" "I", Cond.fieldLink RX6 121 "LieForceModel" "sees" "I", Cond.methodLink RX6 108 yX6_copies, Cond.static yX6_copies, Cond.code yX6_copies cX6_copies 5 none, Cond.methodLink RX6 112 yX6_appoints, Cond.instanceMethod yX6_appoints, Cond.selects RX6 yX6_appoints yX6_appoints, Cond.code yX6_appoints cX6_appoints 4 none, Cond.methodLink RX6 134 yX6_policeIn, Cond.instanceMethod yX6_policeIn, Cond.selects RX6 yX6_policeIn yX6_policeIn, Cond.code yX6_policeIn cX6_policeIn 4 (some .int)]
def wsX6_init_r3 : List Cond := [Cond.methodLink RX6 124 yX6_has, Cond.static yX6_has, Cond.code yX6_has cX6_has 2 (some .boolean), Cond.methodLink RX6 131 yX6_isSo, Cond.instanceMethod yX6_isSo, Cond.selects RX6 yX6_isSo yX6_isSo, Cond.code yX6_isSo cX6_isSo 6 (some .boolean), Cond.methodLink RX6 128 yX6_isTrue, Cond.static yX6_isTrue, Cond.code yX6_isTrue cX6_isTrue 2 (some .boolean)]
def wsX6_init : List Cond := .code yX6_init cX6_init 1 none :: ((wsX6_init_r1 ++ (wsX6_init_r2 ++ wsX6_init_r3)) ++ wsX60)
def wsX6_in : List Cond := .code yX6_in cX6_in 3 (some .boolean) :: ([])
def wsX6_bits : List Cond := .code yX6_bits cX6_bits 3 (some .int) :: ([])
def wsX6_isSaying : List Cond := .code yX6_isSaying cX6_isSaying 2 (some .boolean) :: ([.fieldLink RX6 7 "LieForceModel" "st" "[I", .methodLink RX6 64 yX6_in, .static yX6_in, .initialized RX6, .code yX6_in cX6_in 3 (some .boolean)] ++ wsX60)
def wsX6_isFact : List Cond := .code yX6_isFact cX6_isFact 1 (some .boolean) :: ([.methodLink RX6 64 yX6_in, .static yX6_in, .initialized RX6, .code yX6_in cX6_in 3 (some .boolean)])
def wsX6_write : List Cond := .code yX6_write cX6_write 2 (some .int) :: ([.fieldLink RX6 68 "LieForceModel" "texted" "I", .fieldLink RX6 22 "LieForceModel" "text" "[I", .methodLink RX6 64 yX6_in, .static yX6_in, .initialized RX6, .code yX6_in cX6_in 3 (some .boolean)] ++ wsX60)
def wsX6_wipe : List Cond := .code yX6_wipe cX6_wipe 2 (some .int) :: ([.fieldLink RX6 68 "LieForceModel" "texted" "I"] ++ wsX60)
def wsX6_letterAt : List Cond := .code yX6_letterAt cX6_letterAt 2 (some .int) :: ([.fieldLink RX6 68 "LieForceModel" "texted" "I", .fieldLink RX6 22 "LieForceModel" "text" "[I"] ++ wsX60)
def wsX6_isFigure : List Cond := .code yX6_isFigure cX6_isFigure 1 (some .boolean) :: ([.methodLink RX6 64 yX6_in, .static yX6_in, .initialized RX6, .code yX6_in cX6_in 3 (some .boolean)])
def wsX6_readNumbers : List Cond := .code yX6_readNumbers cX6_readNumbers 3 (some .boolean) :: ([.fieldLink RX6 71 "LieForceModel" "at" "I", .fieldLink RX6 25 "LieForceModel" "told" "[I", .methodLink RX6 74 yX6_letterAt, .instanceMethod yX6_letterAt, .selects RX6 yX6_letterAt yX6_letterAt, .initialized RX6, .code yX6_letterAt cX6_letterAt 2 (some .int), .fieldLink RX6 68 "LieForceModel" "texted" "I", .fieldLink RX6 22 "LieForceModel" "text" "[I", .methodLink RX6 78 yX6_isFigure, .static yX6_isFigure, .code yX6_isFigure cX6_isFigure 1 (some .boolean), .methodLink RX6 64 yX6_in, .static yX6_in, .code yX6_in cX6_in 3 (some .boolean)] ++ wsX60)
def wsX6_isTold : List Cond := .code yX6_isTold cX6_isTold 4 (some .boolean) :: ([.fieldLink RX6 25 "LieForceModel" "told" "[I", .methodLink RX6 64 yX6_in, .static yX6_in, .initialized RX6, .code yX6_in cX6_in 3 (some .boolean)] ++ wsX60)
def wsX6_readFactOf : List Cond := .code yX6_readFactOf cX6_readFactOf 1 (some .boolean) :: ([.fieldLink RX6 28 "LieForceModel" "read" "[I", .fieldLink RX6 25 "LieForceModel" "told" "[I", .methodLink RX6 82 yX6_readNumbers, .instanceMethod yX6_readNumbers, .selects RX6 yX6_readNumbers yX6_readNumbers, .initialized RX6, .code yX6_readNumbers cX6_readNumbers 3 (some .boolean), .fieldLink RX6 71 "LieForceModel" "at" "I", .methodLink RX6 74 yX6_letterAt, .instanceMethod yX6_letterAt, .selects RX6 yX6_letterAt yX6_letterAt, .code yX6_letterAt cX6_letterAt 2 (some .int), .fieldLink RX6 68 "LieForceModel" "texted" "I", .fieldLink RX6 22 "LieForceModel" "text" "[I", .methodLink RX6 78 yX6_isFigure, .static yX6_isFigure, .code yX6_isFigure cX6_isFigure 1 (some .boolean), .methodLink RX6 64 yX6_in, .static yX6_in, .code yX6_in cX6_in 3 (some .boolean), .methodLink RX6 85 yX6_isTold, .instanceMethod yX6_isTold, .selects RX6 yX6_isTold yX6_isTold, .code yX6_isTold cX6_isTold 4 (some .boolean)] ++ wsX60)
def wsX6_readSayingOf_r1 : List Cond := [Cond.fieldLink RX6 28 "LieForceModel" "read" "[I", Cond.fieldLink RX6 25 "LieForceModel" "told" "[I", Cond.methodLink RX6 82 yX6_readNumbers, Cond.instanceMethod yX6_readNumbers, Cond.selects RX6 yX6_readNumbers yX6_readNumbers, Cond.initialized RX6, Cond.code yX6_readNumbers cX6_readNumbers 3 (some .boolean), Cond.fieldLink RX6 71 "LieForceModel" "at" "I", Cond.methodLink RX6 74 yX6_letterAt, Cond.instanceMethod yX6_letterAt, Cond.selects RX6 yX6_letterAt yX6_letterAt, Cond.code yX6_letterAt cX6_letterAt 2 (some .int), Cond.fieldLink RX6 68 "LieForceModel" "texted" "I", Cond.fieldLink RX6 22 "LieForceModel" "text" "[I", Cond.methodLink RX6 78 yX6_isFigure, Cond.static yX6_isFigure, Cond.code yX6_isFigure cX6_isFigure 1 (some .boolean), Cond.methodLink RX6 64 yX6_in, Cond.static yX6_in, Cond.code yX6_in cX6_in 3 (some .boolean), Cond.methodLink RX6 85 yX6_isTold, Cond.instanceMethod yX6_isTold, Cond.selects RX6 yX6_isTold yX6_isTold, Cond.code yX6_isTold cX6_isTold 4 (some .boolean)]
def wsX6_readSayingOf_r2 : List Cond := [Cond.methodLink RX6 49 yX6_tellsSaying, Cond.instanceMethod yX6_tellsSaying, Cond.selects RX6 yX6_tellsSaying yX6_tellsSaying, Cond.code yX6_tellsSaying cX6_tellsSaying 5 none, Cond.methodLink RX6 60 yX6_puts, Cond.static yX6_puts, Cond.code yX6_puts cX6_puts 6 none]
def wsX6_readSayingOf : List Cond := .code yX6_readSayingOf cX6_readSayingOf 1 (some .boolean) :: ((wsX6_readSayingOf_r1 ++ wsX6_readSayingOf_r2) ++ wsX60)
def wsX6_readTermOf : List Cond := .code yX6_readTermOf cX6_readTermOf 1 (some .boolean) :: ([.fieldLink RX6 25 "LieForceModel" "told" "[I", .fieldLink RX6 53 "LieForceModel" "readTerm" "I", .methodLink RX6 82 yX6_readNumbers, .instanceMethod yX6_readNumbers, .selects RX6 yX6_readNumbers yX6_readNumbers, .initialized RX6, .code yX6_readNumbers cX6_readNumbers 3 (some .boolean), .fieldLink RX6 71 "LieForceModel" "at" "I", .methodLink RX6 74 yX6_letterAt, .instanceMethod yX6_letterAt, .selects RX6 yX6_letterAt yX6_letterAt, .code yX6_letterAt cX6_letterAt 2 (some .int), .fieldLink RX6 68 "LieForceModel" "texted" "I", .fieldLink RX6 22 "LieForceModel" "text" "[I", .methodLink RX6 78 yX6_isFigure, .static yX6_isFigure, .code yX6_isFigure cX6_isFigure 1 (some .boolean), .methodLink RX6 64 yX6_in, .static yX6_in, .code yX6_in cX6_in 3 (some .boolean), .methodLink RX6 85 yX6_isTold, .instanceMethod yX6_isTold, .selects RX6 yX6_isTold yX6_isTold, .code yX6_isTold cX6_isTold 4 (some .boolean)] ++ wsX60)
def wsX6_readItem_r1 : List Cond := [Cond.fieldLink RX6 71 "LieForceModel" "at" "I", Cond.methodLink RX6 74 yX6_letterAt, Cond.instanceMethod yX6_letterAt, Cond.selects RX6 yX6_letterAt yX6_letterAt, Cond.initialized RX6, Cond.code yX6_letterAt cX6_letterAt 2 (some .int), Cond.fieldLink RX6 68 "LieForceModel" "texted" "I", Cond.fieldLink RX6 22 "LieForceModel" "text" "[I", Cond.methodLink RX6 88 yX6_readFactOf, Cond.instanceMethod yX6_readFactOf, Cond.selects RX6 yX6_readFactOf yX6_readFactOf, Cond.code yX6_readFactOf cX6_readFactOf 1 (some .boolean), Cond.fieldLink RX6 28 "LieForceModel" "read" "[I", Cond.fieldLink RX6 25 "LieForceModel" "told" "[I", Cond.methodLink RX6 82 yX6_readNumbers, Cond.instanceMethod yX6_readNumbers, Cond.selects RX6 yX6_readNumbers yX6_readNumbers, Cond.code yX6_readNumbers cX6_readNumbers 3 (some .boolean), Cond.methodLink RX6 78 yX6_isFigure, Cond.static yX6_isFigure, Cond.code yX6_isFigure cX6_isFigure 1 (some .boolean), Cond.methodLink RX6 64 yX6_in, Cond.static yX6_in, Cond.code yX6_in cX6_in 3 (some .boolean)]
def wsX6_readItem_r2 : List Cond := [Cond.methodLink RX6 85 yX6_isTold, Cond.instanceMethod yX6_isTold, Cond.selects RX6 yX6_isTold yX6_isTold, Cond.code yX6_isTold cX6_isTold 4 (some .boolean), Cond.methodLink RX6 92 yX6_readSayingOf, Cond.instanceMethod yX6_readSayingOf, Cond.selects RX6 yX6_readSayingOf yX6_readSayingOf, Cond.code yX6_readSayingOf cX6_readSayingOf 1 (some .boolean), Cond.methodLink RX6 49 yX6_tellsSaying, Cond.instanceMethod yX6_tellsSaying, Cond.selects RX6 yX6_tellsSaying yX6_tellsSaying, Cond.code yX6_tellsSaying cX6_tellsSaying 5 none, Cond.methodLink RX6 60 yX6_puts, Cond.static yX6_puts, Cond.code yX6_puts cX6_puts 6 none, Cond.methodLink RX6 95 yX6_readTermOf, Cond.instanceMethod yX6_readTermOf, Cond.selects RX6 yX6_readTermOf yX6_readTermOf, Cond.code yX6_readTermOf cX6_readTermOf 1 (some .boolean), Cond.fieldLink RX6 53 "LieForceModel" "readTerm" "I"]
def wsX6_readItem : List Cond := .code yX6_readItem cX6_readItem 2 (some .boolean) :: ((wsX6_readItem_r1 ++ wsX6_readItem_r2) ++ wsX60)
def wsX6_fault_r1 : List Cond := [Cond.fieldLink RX6 71 "LieForceModel" "at" "I", Cond.fieldLink RX6 68 "LieForceModel" "texted" "I", Cond.methodLink RX6 46 yX6_clearTold, Cond.instanceMethod yX6_clearTold, Cond.selects RX6 yX6_clearTold yX6_clearTold, Cond.initialized RX6, Cond.code yX6_clearTold cX6_clearTold 2 none, Cond.fieldLink RX6 28 "LieForceModel" "read" "[I", Cond.fieldLink RX6 53 "LieForceModel" "readTerm" "I", Cond.methodLink RX6 98 yX6_readItem, Cond.instanceMethod yX6_readItem, Cond.selects RX6 yX6_readItem yX6_readItem, Cond.code yX6_readItem cX6_readItem 2 (some .boolean), Cond.methodLink RX6 74 yX6_letterAt, Cond.instanceMethod yX6_letterAt, Cond.selects RX6 yX6_letterAt yX6_letterAt, Cond.code yX6_letterAt cX6_letterAt 2 (some .int), Cond.fieldLink RX6 22 "LieForceModel" "text" "[I", Cond.methodLink RX6 88 yX6_readFactOf, Cond.instanceMethod yX6_readFactOf, Cond.selects RX6 yX6_readFactOf yX6_readFactOf, Cond.code yX6_readFactOf cX6_readFactOf 1 (some .boolean), Cond.fieldLink RX6 25 "LieForceModel" "told" "[I", Cond.methodLink RX6 82 yX6_readNumbers]
def wsX6_fault_r2 : List Cond := [Cond.instanceMethod yX6_readNumbers, Cond.selects RX6 yX6_readNumbers yX6_readNumbers, Cond.code yX6_readNumbers cX6_readNumbers 3 (some .boolean), Cond.methodLink RX6 78 yX6_isFigure, Cond.static yX6_isFigure, Cond.code yX6_isFigure cX6_isFigure 1 (some .boolean), Cond.methodLink RX6 64 yX6_in, Cond.static yX6_in, Cond.code yX6_in cX6_in 3 (some .boolean), Cond.methodLink RX6 85 yX6_isTold, Cond.instanceMethod yX6_isTold, Cond.selects RX6 yX6_isTold yX6_isTold, Cond.code yX6_isTold cX6_isTold 4 (some .boolean), Cond.methodLink RX6 92 yX6_readSayingOf, Cond.instanceMethod yX6_readSayingOf, Cond.selects RX6 yX6_readSayingOf yX6_readSayingOf, Cond.code yX6_readSayingOf cX6_readSayingOf 1 (some .boolean), Cond.methodLink RX6 49 yX6_tellsSaying, Cond.instanceMethod yX6_tellsSaying, Cond.selects RX6 yX6_tellsSaying yX6_tellsSaying, Cond.code yX6_tellsSaying cX6_tellsSaying 5 none, Cond.methodLink RX6 60 yX6_puts, Cond.static yX6_puts, Cond.code yX6_puts cX6_puts 6 none]
def wsX6_fault_r3 : List Cond := [Cond.methodLink RX6 95 yX6_readTermOf, Cond.instanceMethod yX6_readTermOf, Cond.selects RX6 yX6_readTermOf yX6_readTermOf, Cond.code yX6_readTermOf cX6_readTermOf 1 (some .boolean)]
def wsX6_fault : List Cond := .code yX6_fault cX6_fault 2 (some .int) :: ((wsX6_fault_r1 ++ (wsX6_fault_r2 ++ wsX6_fault_r3)) ++ wsX60)
def wsX6_lay_r1 : List Cond := [Cond.fieldLink RX6 28 "LieForceModel" "read" "[I", Cond.fieldLink RX6 7 "LieForceModel" "st" "[I", Cond.methodLink RX6 101 yX6_fault, Cond.instanceMethod yX6_fault, Cond.selects RX6 yX6_fault yX6_fault, Cond.initialized RX6, Cond.code yX6_fault cX6_fault 2 (some .int), Cond.fieldLink RX6 71 "LieForceModel" "at" "I", Cond.fieldLink RX6 68 "LieForceModel" "texted" "I", Cond.methodLink RX6 46 yX6_clearTold, Cond.instanceMethod yX6_clearTold, Cond.selects RX6 yX6_clearTold yX6_clearTold, Cond.code yX6_clearTold cX6_clearTold 2 none, Cond.fieldLink RX6 53 "LieForceModel" "readTerm" "I", Cond.methodLink RX6 98 yX6_readItem, Cond.instanceMethod yX6_readItem, Cond.selects RX6 yX6_readItem yX6_readItem, Cond.code yX6_readItem cX6_readItem 2 (some .boolean), Cond.methodLink RX6 74 yX6_letterAt, Cond.instanceMethod yX6_letterAt, Cond.selects RX6 yX6_letterAt yX6_letterAt, Cond.code yX6_letterAt cX6_letterAt 2 (some .int), Cond.fieldLink RX6 22 "LieForceModel" "text" "[I", Cond.methodLink RX6 88 yX6_readFactOf]
def wsX6_lay_r2 : List Cond := [Cond.instanceMethod yX6_readFactOf, Cond.selects RX6 yX6_readFactOf yX6_readFactOf, Cond.code yX6_readFactOf cX6_readFactOf 1 (some .boolean), Cond.fieldLink RX6 25 "LieForceModel" "told" "[I", Cond.methodLink RX6 82 yX6_readNumbers, Cond.instanceMethod yX6_readNumbers, Cond.selects RX6 yX6_readNumbers yX6_readNumbers, Cond.code yX6_readNumbers cX6_readNumbers 3 (some .boolean), Cond.methodLink RX6 78 yX6_isFigure, Cond.static yX6_isFigure, Cond.code yX6_isFigure cX6_isFigure 1 (some .boolean), Cond.methodLink RX6 64 yX6_in, Cond.static yX6_in, Cond.code yX6_in cX6_in 3 (some .boolean), Cond.methodLink RX6 85 yX6_isTold, Cond.instanceMethod yX6_isTold, Cond.selects RX6 yX6_isTold yX6_isTold, Cond.code yX6_isTold cX6_isTold 4 (some .boolean), Cond.methodLink RX6 92 yX6_readSayingOf, Cond.instanceMethod yX6_readSayingOf, Cond.selects RX6 yX6_readSayingOf yX6_readSayingOf, Cond.code yX6_readSayingOf cX6_readSayingOf 1 (some .boolean), Cond.methodLink RX6 49 yX6_tellsSaying, Cond.instanceMethod yX6_tellsSaying]
def wsX6_lay_r3 : List Cond := [Cond.selects RX6 yX6_tellsSaying yX6_tellsSaying, Cond.code yX6_tellsSaying cX6_tellsSaying 5 none, Cond.methodLink RX6 60 yX6_puts, Cond.static yX6_puts, Cond.code yX6_puts cX6_puts 6 none, Cond.methodLink RX6 95 yX6_readTermOf, Cond.instanceMethod yX6_readTermOf, Cond.selects RX6 yX6_readTermOf yX6_readTermOf, Cond.code yX6_readTermOf cX6_readTermOf 1 (some .boolean), Cond.methodLink RX6 57 yX6_settles, Cond.instanceMethod yX6_settles, Cond.selects RX6 yX6_settles yX6_settles, Cond.code yX6_settles cX6_settles 1 none, Cond.fieldLink RX6 105 "LieForceModel" "term" "I", Cond.fieldLink RX6 31 "LieForceModel" "now" "[I", Cond.fieldLink RX6 115 "LieForceModel" "acts" "I", Cond.fieldLink RX6 118 "LieForceModel" "keeps" "I", Cond.fieldLink RX6 121 "LieForceModel" "sees" "I", Cond.methodLink RX6 108 yX6_copies, Cond.static yX6_copies, Cond.code yX6_copies cX6_copies 5 none, Cond.methodLink RX6 112 yX6_appoints, Cond.instanceMethod yX6_appoints, Cond.selects RX6 yX6_appoints yX6_appoints]
def wsX6_lay_r4 : List Cond := [Cond.code yX6_appoints cX6_appoints 4 none, Cond.methodLink RX6 134 yX6_policeIn, Cond.instanceMethod yX6_policeIn, Cond.selects RX6 yX6_policeIn yX6_policeIn, Cond.code yX6_policeIn cX6_policeIn 4 (some .int), Cond.methodLink RX6 124 yX6_has, Cond.static yX6_has, Cond.code yX6_has cX6_has 2 (some .boolean), Cond.methodLink RX6 131 yX6_isSo, Cond.instanceMethod yX6_isSo, Cond.selects RX6 yX6_isSo yX6_isSo, Cond.code yX6_isSo cX6_isSo 6 (some .boolean), Cond.methodLink RX6 128 yX6_isTrue, Cond.static yX6_isTrue, Cond.code yX6_isTrue cX6_isTrue 2 (some .boolean)]
def wsX6_lay : List Cond := .code yX6_lay cX6_lay 1 (some .int) :: ((wsX6_lay_r1 ++ (wsX6_lay_r2 ++ (wsX6_lay_r3 ++ wsX6_lay_r4))) ++ wsX60)
def wsX6_asItIs : List Cond := .code yX6_asItIs cX6_asItIs 1 none :: ([.fieldLink RX6 31 "LieForceModel" "now" "[I", .fieldLink RX6 7 "LieForceModel" "st" "[I", .methodLink RX6 108 yX6_copies, .static yX6_copies, .initialized RX6, .code yX6_copies cX6_copies 5 none] ++ wsX60)
def wsX6_standing : List Cond := .code yX6_standing cX6_standing 1 (some .int) :: ([.fieldLink RX6 31 "LieForceModel" "now" "[I"] ++ wsX60)
def wsX6_doClash : List Cond := .code yX6_doClash cX6_doClash 4 (some .boolean) :: ([.methodLink RX6 131 yX6_isSo, .instanceMethod yX6_isSo, .selects RX6 yX6_isSo yX6_isSo, .initialized RX6, .code yX6_isSo cX6_isSo 6 (some .boolean), .fieldLink RX6 31 "LieForceModel" "now" "[I", .methodLink RX6 128 yX6_isTrue, .static yX6_isTrue, .code yX6_isTrue cX6_isTrue 2 (some .boolean), .methodLink RX6 124 yX6_has, .static yX6_has, .code yX6_has cX6_has 2 (some .boolean)] ++ wsX60)
def wsX6_goes : List Cond := .code yX6_goes cX6_goes 3 none :: ([.fieldLink RX6 137 "LieForceModel" "firstFallen" "I", .fieldLink RX6 31 "LieForceModel" "now" "[I", .fieldLink RX6 105 "LieForceModel" "term" "I", .fieldLink RX6 143 "LieForceModel" "fallen" "I", .methodLink RX6 140 yX6_doClash, .instanceMethod yX6_doClash, .selects RX6 yX6_doClash yX6_doClash, .initialized RX6, .code yX6_doClash cX6_doClash 4 (some .boolean), .methodLink RX6 131 yX6_isSo, .instanceMethod yX6_isSo, .selects RX6 yX6_isSo yX6_isSo, .code yX6_isSo cX6_isSo 6 (some .boolean), .methodLink RX6 128 yX6_isTrue, .static yX6_isTrue, .code yX6_isTrue cX6_isTrue 2 (some .boolean), .methodLink RX6 124 yX6_has, .static yX6_has, .code yX6_has cX6_has 2 (some .boolean)] ++ wsX60)
def wsX6_police : List Cond := .code yX6_police cX6_police 3 (some .int) :: ([.fieldLink RX6 31 "LieForceModel" "now" "[I"] ++ wsX60)
def wsX6_saying_r1 : List Cond := [Cond.fieldLink RX6 7 "LieForceModel" "st" "[I", Cond.methodLink RX6 146 yX6_isSaying, Cond.instanceMethod yX6_isSaying, Cond.selects RX6 yX6_isSaying yX6_isSaying, Cond.initialized RX6, Cond.code yX6_isSaying cX6_isSaying 2 (some .boolean), Cond.methodLink RX6 64 yX6_in, Cond.static yX6_in, Cond.code yX6_in cX6_in 3 (some .boolean), Cond.methodLink RX6 149 yX6_asItIs, Cond.instanceMethod yX6_asItIs, Cond.selects RX6 yX6_asItIs yX6_asItIs, Cond.code yX6_asItIs cX6_asItIs 1 none, Cond.fieldLink RX6 31 "LieForceModel" "now" "[I", Cond.methodLink RX6 108 yX6_copies, Cond.static yX6_copies, Cond.code yX6_copies cX6_copies 5 none, Cond.methodLink RX6 131 yX6_isSo, Cond.instanceMethod yX6_isSo, Cond.selects RX6 yX6_isSo yX6_isSo, Cond.code yX6_isSo cX6_isSo 6 (some .boolean), Cond.methodLink RX6 128 yX6_isTrue, Cond.static yX6_isTrue, Cond.code yX6_isTrue cX6_isTrue 2 (some .boolean)]
def wsX6_saying_r2 : List Cond := [Cond.methodLink RX6 124 yX6_has, Cond.static yX6_has, Cond.code yX6_has cX6_has 2 (some .boolean)]
def wsX6_saying : List Cond := .code yX6_saying cX6_saying 3 (some .int) :: ((wsX6_saying_r1 ++ wsX6_saying_r2) ++ wsX60)
def wsX6_fact : List Cond := .code yX6_fact cX6_fact 2 (some .int) :: ([.fieldLink RX6 7 "LieForceModel" "st" "[I", .methodLink RX6 152 yX6_isFact, .static yX6_isFact, .initialized RX6, .code yX6_isFact cX6_isFact 1 (some .boolean), .methodLink RX6 64 yX6_in, .static yX6_in, .code yX6_in cX6_in 3 (some .boolean)] ++ wsX60)
def wsX6_clash_r1 : List Cond := [Cond.methodLink RX6 146 yX6_isSaying, Cond.instanceMethod yX6_isSaying, Cond.selects RX6 yX6_isSaying yX6_isSaying, Cond.initialized RX6, Cond.code yX6_isSaying cX6_isSaying 2 (some .boolean), Cond.fieldLink RX6 7 "LieForceModel" "st" "[I", Cond.methodLink RX6 64 yX6_in, Cond.static yX6_in, Cond.code yX6_in cX6_in 3 (some .boolean), Cond.methodLink RX6 149 yX6_asItIs, Cond.instanceMethod yX6_asItIs, Cond.selects RX6 yX6_asItIs yX6_asItIs, Cond.code yX6_asItIs cX6_asItIs 1 none, Cond.fieldLink RX6 31 "LieForceModel" "now" "[I", Cond.methodLink RX6 108 yX6_copies, Cond.static yX6_copies, Cond.code yX6_copies cX6_copies 5 none, Cond.methodLink RX6 140 yX6_doClash, Cond.instanceMethod yX6_doClash, Cond.selects RX6 yX6_doClash yX6_doClash, Cond.code yX6_doClash cX6_doClash 4 (some .boolean), Cond.methodLink RX6 131 yX6_isSo, Cond.instanceMethod yX6_isSo, Cond.selects RX6 yX6_isSo yX6_isSo]
def wsX6_clash_r2 : List Cond := [Cond.code yX6_isSo cX6_isSo 6 (some .boolean), Cond.methodLink RX6 128 yX6_isTrue, Cond.static yX6_isTrue, Cond.code yX6_isTrue cX6_isTrue 2 (some .boolean), Cond.methodLink RX6 124 yX6_has, Cond.static yX6_has, Cond.code yX6_has cX6_has 2 (some .boolean)]
def wsX6_clash : List Cond := .code yX6_clash cX6_clash 3 (some .int) :: ((wsX6_clash_r1 ++ wsX6_clash_r2) ++ wsX60)
def wsX6_remembers : List Cond := .code yX6_remembers cX6_remembers 2 none :: ([.fieldLink RX6 115 "LieForceModel" "acts" "I", .fieldLink RX6 13 "LieForceModel" "was" "[I", .fieldLink RX6 7 "LieForceModel" "st" "[I", .methodLink RX6 108 yX6_copies, .static yX6_copies, .initialized RX6, .code yX6_copies cX6_copies 5 none] ++ wsX60)
def wsX6_pass_r1 : List Cond := [Cond.fieldLink RX6 7 "LieForceModel" "st" "[I", Cond.fieldLink RX6 31 "LieForceModel" "now" "[I", Cond.methodLink RX6 64 yX6_in, Cond.static yX6_in, Cond.initialized RX6, Cond.code yX6_in cX6_in 3 (some .boolean), Cond.methodLink RX6 155 yX6_remembers, Cond.instanceMethod yX6_remembers, Cond.selects RX6 yX6_remembers yX6_remembers, Cond.code yX6_remembers cX6_remembers 2 none, Cond.fieldLink RX6 115 "LieForceModel" "acts" "I", Cond.fieldLink RX6 13 "LieForceModel" "was" "[I", Cond.methodLink RX6 108 yX6_copies, Cond.static yX6_copies, Cond.code yX6_copies cX6_copies 5 none, Cond.methodLink RX6 149 yX6_asItIs, Cond.instanceMethod yX6_asItIs, Cond.selects RX6 yX6_asItIs yX6_asItIs, Cond.code yX6_asItIs cX6_asItIs 1 none, Cond.methodLink RX6 158 yX6_goes, Cond.instanceMethod yX6_goes, Cond.selects RX6 yX6_goes yX6_goes, Cond.code yX6_goes cX6_goes 3 none, Cond.fieldLink RX6 137 "LieForceModel" "firstFallen" "I"]
def wsX6_pass_r2 : List Cond := [Cond.fieldLink RX6 105 "LieForceModel" "term" "I", Cond.fieldLink RX6 143 "LieForceModel" "fallen" "I", Cond.methodLink RX6 140 yX6_doClash, Cond.instanceMethod yX6_doClash, Cond.selects RX6 yX6_doClash yX6_doClash, Cond.code yX6_doClash cX6_doClash 4 (some .boolean), Cond.methodLink RX6 131 yX6_isSo, Cond.instanceMethod yX6_isSo, Cond.selects RX6 yX6_isSo yX6_isSo, Cond.code yX6_isSo cX6_isSo 6 (some .boolean), Cond.methodLink RX6 128 yX6_isTrue, Cond.static yX6_isTrue, Cond.code yX6_isTrue cX6_isTrue 2 (some .boolean), Cond.methodLink RX6 124 yX6_has, Cond.static yX6_has, Cond.code yX6_has cX6_has 2 (some .boolean)]
def wsX6_pass : List Cond := .code yX6_pass cX6_pass 3 (some .int) :: ((wsX6_pass_r1 ++ wsX6_pass_r2) ++ wsX60)
def wsX6_say_r1 : List Cond := [Cond.fieldLink RX6 7 "LieForceModel" "st" "[I", Cond.fieldLink RX6 31 "LieForceModel" "now" "[I", Cond.methodLink RX6 64 yX6_in, Cond.static yX6_in, Cond.initialized RX6, Cond.code yX6_in cX6_in 3 (some .boolean), Cond.methodLink RX6 155 yX6_remembers, Cond.instanceMethod yX6_remembers, Cond.selects RX6 yX6_remembers yX6_remembers, Cond.code yX6_remembers cX6_remembers 2 none, Cond.fieldLink RX6 115 "LieForceModel" "acts" "I", Cond.fieldLink RX6 13 "LieForceModel" "was" "[I", Cond.methodLink RX6 108 yX6_copies, Cond.static yX6_copies, Cond.code yX6_copies cX6_copies 5 none, Cond.methodLink RX6 149 yX6_asItIs, Cond.instanceMethod yX6_asItIs, Cond.selects RX6 yX6_asItIs yX6_asItIs, Cond.code yX6_asItIs cX6_asItIs 1 none, Cond.methodLink RX6 60 yX6_puts, Cond.static yX6_puts, Cond.code yX6_puts cX6_puts 6 none, Cond.methodLink RX6 112 yX6_appoints, Cond.instanceMethod yX6_appoints]
def wsX6_say_r2 : List Cond := [Cond.selects RX6 yX6_appoints yX6_appoints, Cond.code yX6_appoints cX6_appoints 4 none, Cond.methodLink RX6 134 yX6_policeIn, Cond.instanceMethod yX6_policeIn, Cond.selects RX6 yX6_policeIn yX6_policeIn, Cond.code yX6_policeIn cX6_policeIn 4 (some .int), Cond.methodLink RX6 124 yX6_has, Cond.static yX6_has, Cond.code yX6_has cX6_has 2 (some .boolean), Cond.methodLink RX6 131 yX6_isSo, Cond.instanceMethod yX6_isSo, Cond.selects RX6 yX6_isSo yX6_isSo, Cond.code yX6_isSo cX6_isSo 6 (some .boolean), Cond.methodLink RX6 128 yX6_isTrue, Cond.static yX6_isTrue, Cond.code yX6_isTrue cX6_isTrue 2 (some .boolean)]
def wsX6_say : List Cond := .code yX6_say cX6_say 5 (some .int) :: ((wsX6_say_r1 ++ wsX6_say_r2) ++ wsX60)
def wsX6_canBeWithdrawn : List Cond := .code yX6_canBeWithdrawn cX6_canBeWithdrawn 2 (some .boolean) :: ([.fieldLink RX6 31 "LieForceModel" "now" "[I", .fieldLink RX6 105 "LieForceModel" "term" "I", .methodLink RX6 124 yX6_has, .static yX6_has, .initialized RX6, .code yX6_has cX6_has 2 (some .boolean)] ++ wsX60)
def wsX6_withdraws : List Cond := .code yX6_withdraws cX6_withdraws 2 none :: ([.fieldLink RX6 31 "LieForceModel" "now" "[I"] ++ wsX60)
def wsX6_withdraw_r1 : List Cond := [Cond.fieldLink RX6 7 "LieForceModel" "st" "[I", Cond.fieldLink RX6 31 "LieForceModel" "now" "[I", Cond.methodLink RX6 146 yX6_isSaying, Cond.instanceMethod yX6_isSaying, Cond.selects RX6 yX6_isSaying yX6_isSaying, Cond.initialized RX6, Cond.code yX6_isSaying cX6_isSaying 2 (some .boolean), Cond.methodLink RX6 64 yX6_in, Cond.static yX6_in, Cond.code yX6_in cX6_in 3 (some .boolean), Cond.methodLink RX6 149 yX6_asItIs, Cond.instanceMethod yX6_asItIs, Cond.selects RX6 yX6_asItIs yX6_asItIs, Cond.code yX6_asItIs cX6_asItIs 1 none, Cond.methodLink RX6 108 yX6_copies, Cond.static yX6_copies, Cond.code yX6_copies cX6_copies 5 none, Cond.methodLink RX6 161 yX6_canBeWithdrawn, Cond.instanceMethod yX6_canBeWithdrawn, Cond.selects RX6 yX6_canBeWithdrawn yX6_canBeWithdrawn, Cond.code yX6_canBeWithdrawn cX6_canBeWithdrawn 2 (some .boolean), Cond.fieldLink RX6 105 "LieForceModel" "term" "I", Cond.methodLink RX6 124 yX6_has, Cond.static yX6_has]
def wsX6_withdraw_r2 : List Cond := [Cond.code yX6_has cX6_has 2 (some .boolean), Cond.methodLink RX6 155 yX6_remembers, Cond.instanceMethod yX6_remembers, Cond.selects RX6 yX6_remembers yX6_remembers, Cond.code yX6_remembers cX6_remembers 2 none, Cond.fieldLink RX6 115 "LieForceModel" "acts" "I", Cond.fieldLink RX6 13 "LieForceModel" "was" "[I", Cond.methodLink RX6 164 yX6_withdraws, Cond.instanceMethod yX6_withdraws, Cond.selects RX6 yX6_withdraws yX6_withdraws, Cond.code yX6_withdraws cX6_withdraws 2 none, Cond.methodLink RX6 168 yX6_police, Cond.instanceMethod yX6_police, Cond.selects RX6 yX6_police yX6_police, Cond.code yX6_police cX6_police 3 (some .int), Cond.methodLink RX6 171 yX6_bits, Cond.static yX6_bits, Cond.code yX6_bits cX6_bits 3 (some .int)]
def wsX6_withdraw : List Cond := .code yX6_withdraw cX6_withdraw 2 (some .int) :: ((wsX6_withdraw_r1 ++ wsX6_withdraw_r2) ++ wsX60)
def wsX6_turn_r1 : List Cond := [Cond.fieldLink RX6 31 "LieForceModel" "now" "[I", Cond.fieldLink RX6 7 "LieForceModel" "st" "[I", Cond.methodLink RX6 152 yX6_isFact, Cond.static yX6_isFact, Cond.initialized RX6, Cond.code yX6_isFact cX6_isFact 1 (some .boolean), Cond.methodLink RX6 64 yX6_in, Cond.static yX6_in, Cond.code yX6_in cX6_in 3 (some .boolean), Cond.methodLink RX6 155 yX6_remembers, Cond.instanceMethod yX6_remembers, Cond.selects RX6 yX6_remembers yX6_remembers, Cond.code yX6_remembers cX6_remembers 2 none, Cond.fieldLink RX6 115 "LieForceModel" "acts" "I", Cond.fieldLink RX6 13 "LieForceModel" "was" "[I", Cond.methodLink RX6 108 yX6_copies, Cond.static yX6_copies, Cond.code yX6_copies cX6_copies 5 none, Cond.methodLink RX6 149 yX6_asItIs, Cond.instanceMethod yX6_asItIs, Cond.selects RX6 yX6_asItIs yX6_asItIs, Cond.code yX6_asItIs cX6_asItIs 1 none, Cond.methodLink RX6 112 yX6_appoints, Cond.instanceMethod yX6_appoints]
def wsX6_turn_r2 : List Cond := [Cond.selects RX6 yX6_appoints yX6_appoints, Cond.code yX6_appoints cX6_appoints 4 none, Cond.methodLink RX6 134 yX6_policeIn, Cond.instanceMethod yX6_policeIn, Cond.selects RX6 yX6_policeIn yX6_policeIn, Cond.code yX6_policeIn cX6_policeIn 4 (some .int), Cond.methodLink RX6 124 yX6_has, Cond.static yX6_has, Cond.code yX6_has cX6_has 2 (some .boolean), Cond.methodLink RX6 131 yX6_isSo, Cond.instanceMethod yX6_isSo, Cond.selects RX6 yX6_isSo yX6_isSo, Cond.code yX6_isSo cX6_isSo 6 (some .boolean), Cond.methodLink RX6 128 yX6_isTrue, Cond.static yX6_isTrue, Cond.code yX6_isTrue cX6_isTrue 2 (some .boolean), Cond.methodLink RX6 168 yX6_police, Cond.instanceMethod yX6_police, Cond.selects RX6 yX6_police yX6_police, Cond.code yX6_police cX6_police 3 (some .int), Cond.methodLink RX6 171 yX6_bits, Cond.static yX6_bits, Cond.code yX6_bits cX6_bits 3 (some .int)]
def wsX6_turn : List Cond := .code yX6_turn cX6_turn 2 (some .int) :: ((wsX6_turn_r1 ++ wsX6_turn_r2) ++ wsX60)
def wsX6_undo : List Cond := .code yX6_undo cX6_undo 1 (some .int) :: ([.fieldLink RX6 115 "LieForceModel" "acts" "I", .fieldLink RX6 7 "LieForceModel" "st" "[I", .fieldLink RX6 13 "LieForceModel" "was" "[I", .methodLink RX6 108 yX6_copies, .static yX6_copies, .initialized RX6, .code yX6_copies cX6_copies 5 none] ++ wsX60)
def wsX6_behind_r1 : List Cond := [Cond.methodLink RX6 64 yX6_in, Cond.static yX6_in, Cond.initialized RX6, Cond.code yX6_in cX6_in 3 (some .boolean), Cond.methodLink RX6 149 yX6_asItIs, Cond.instanceMethod yX6_asItIs, Cond.selects RX6 yX6_asItIs yX6_asItIs, Cond.code yX6_asItIs cX6_asItIs 1 none, Cond.fieldLink RX6 31 "LieForceModel" "now" "[I", Cond.fieldLink RX6 7 "LieForceModel" "st" "[I", Cond.methodLink RX6 108 yX6_copies, Cond.static yX6_copies, Cond.code yX6_copies cX6_copies 5 none, Cond.methodLink RX6 158 yX6_goes, Cond.instanceMethod yX6_goes, Cond.selects RX6 yX6_goes yX6_goes, Cond.code yX6_goes cX6_goes 3 none, Cond.fieldLink RX6 137 "LieForceModel" "firstFallen" "I", Cond.fieldLink RX6 105 "LieForceModel" "term" "I", Cond.fieldLink RX6 143 "LieForceModel" "fallen" "I", Cond.methodLink RX6 140 yX6_doClash, Cond.instanceMethod yX6_doClash, Cond.selects RX6 yX6_doClash yX6_doClash, Cond.code yX6_doClash cX6_doClash 4 (some .boolean)]
def wsX6_behind_r2 : List Cond := [Cond.methodLink RX6 131 yX6_isSo, Cond.instanceMethod yX6_isSo, Cond.selects RX6 yX6_isSo yX6_isSo, Cond.code yX6_isSo cX6_isSo 6 (some .boolean), Cond.methodLink RX6 128 yX6_isTrue, Cond.static yX6_isTrue, Cond.code yX6_isTrue cX6_isTrue 2 (some .boolean), Cond.methodLink RX6 124 yX6_has, Cond.static yX6_has, Cond.code yX6_has cX6_has 2 (some .boolean), Cond.methodLink RX6 168 yX6_police, Cond.instanceMethod yX6_police, Cond.selects RX6 yX6_police yX6_police, Cond.code yX6_police cX6_police 3 (some .int)]
def wsX6_behind : List Cond := .code yX6_behind cX6_behind 3 (some .int) :: ((wsX6_behind_r1 ++ wsX6_behind_r2) ++ wsX60)
def wsX6_fall_r1 : List Cond := [Cond.fieldLink RX6 137 "LieForceModel" "firstFallen" "I", Cond.methodLink RX6 64 yX6_in, Cond.static yX6_in, Cond.initialized RX6, Cond.code yX6_in cX6_in 3 (some .boolean), Cond.methodLink RX6 149 yX6_asItIs, Cond.instanceMethod yX6_asItIs, Cond.selects RX6 yX6_asItIs yX6_asItIs, Cond.code yX6_asItIs cX6_asItIs 1 none, Cond.fieldLink RX6 31 "LieForceModel" "now" "[I", Cond.fieldLink RX6 7 "LieForceModel" "st" "[I", Cond.methodLink RX6 108 yX6_copies, Cond.static yX6_copies, Cond.code yX6_copies cX6_copies 5 none, Cond.methodLink RX6 158 yX6_goes, Cond.instanceMethod yX6_goes, Cond.selects RX6 yX6_goes yX6_goes, Cond.code yX6_goes cX6_goes 3 none, Cond.fieldLink RX6 105 "LieForceModel" "term" "I", Cond.fieldLink RX6 143 "LieForceModel" "fallen" "I", Cond.methodLink RX6 140 yX6_doClash, Cond.instanceMethod yX6_doClash, Cond.selects RX6 yX6_doClash yX6_doClash, Cond.code yX6_doClash cX6_doClash 4 (some .boolean)]
def wsX6_fall_r2 : List Cond := [Cond.methodLink RX6 131 yX6_isSo, Cond.instanceMethod yX6_isSo, Cond.selects RX6 yX6_isSo yX6_isSo, Cond.code yX6_isSo cX6_isSo 6 (some .boolean), Cond.methodLink RX6 128 yX6_isTrue, Cond.static yX6_isTrue, Cond.code yX6_isTrue cX6_isTrue 2 (some .boolean), Cond.methodLink RX6 124 yX6_has, Cond.static yX6_has, Cond.code yX6_has cX6_has 2 (some .boolean)]
def wsX6_fall : List Cond := .code yX6_fall cX6_fall 3 (some .int) :: ((wsX6_fall_r1 ++ wsX6_fall_r2) ++ wsX60)
def wsX6_findWorlds_r1 : List Cond := [Cond.fieldLink RX6 34 "LieForceModel" "so" "[I", Cond.methodLink RX6 149 yX6_asItIs, Cond.instanceMethod yX6_asItIs, Cond.selects RX6 yX6_asItIs yX6_asItIs, Cond.initialized RX6, Cond.code yX6_asItIs cX6_asItIs 1 none, Cond.fieldLink RX6 31 "LieForceModel" "now" "[I", Cond.fieldLink RX6 7 "LieForceModel" "st" "[I", Cond.methodLink RX6 108 yX6_copies, Cond.static yX6_copies, Cond.code yX6_copies cX6_copies 5 none, Cond.methodLink RX6 174 yX6_standing, Cond.instanceMethod yX6_standing, Cond.selects RX6 yX6_standing yX6_standing, Cond.code yX6_standing cX6_standing 1 (some .int), Cond.methodLink RX6 134 yX6_policeIn, Cond.instanceMethod yX6_policeIn, Cond.selects RX6 yX6_policeIn yX6_policeIn, Cond.code yX6_policeIn cX6_policeIn 4 (some .int), Cond.methodLink RX6 124 yX6_has, Cond.static yX6_has, Cond.code yX6_has cX6_has 2 (some .boolean), Cond.methodLink RX6 131 yX6_isSo, Cond.instanceMethod yX6_isSo]
def wsX6_findWorlds_r2 : List Cond := [Cond.selects RX6 yX6_isSo yX6_isSo, Cond.code yX6_isSo cX6_isSo 6 (some .boolean), Cond.methodLink RX6 128 yX6_isTrue, Cond.static yX6_isTrue, Cond.code yX6_isTrue cX6_isTrue 2 (some .boolean)]
def wsX6_findWorlds : List Cond := .code yX6_findWorlds cX6_findWorlds 2 none :: ((wsX6_findWorlds_r1 ++ wsX6_findWorlds_r2) ++ wsX60)
def wsX6_couldAll : List Cond := .code yX6_couldAll cX6_couldAll 3 (some .boolean) :: ([.fieldLink RX6 34 "LieForceModel" "so" "[I"] ++ wsX60)
def wsX6_core_r1 : List Cond := [Cond.fieldLink RX6 7 "LieForceModel" "st" "[I", Cond.methodLink RX6 177 yX6_findWorlds, Cond.instanceMethod yX6_findWorlds, Cond.selects RX6 yX6_findWorlds yX6_findWorlds, Cond.initialized RX6, Cond.code yX6_findWorlds cX6_findWorlds 2 none, Cond.fieldLink RX6 34 "LieForceModel" "so" "[I", Cond.methodLink RX6 149 yX6_asItIs, Cond.instanceMethod yX6_asItIs, Cond.selects RX6 yX6_asItIs yX6_asItIs, Cond.code yX6_asItIs cX6_asItIs 1 none, Cond.fieldLink RX6 31 "LieForceModel" "now" "[I", Cond.methodLink RX6 108 yX6_copies, Cond.static yX6_copies, Cond.code yX6_copies cX6_copies 5 none, Cond.methodLink RX6 174 yX6_standing, Cond.instanceMethod yX6_standing, Cond.selects RX6 yX6_standing yX6_standing, Cond.code yX6_standing cX6_standing 1 (some .int), Cond.methodLink RX6 134 yX6_policeIn, Cond.instanceMethod yX6_policeIn, Cond.selects RX6 yX6_policeIn yX6_policeIn, Cond.code yX6_policeIn cX6_policeIn 4 (some .int), Cond.methodLink RX6 124 yX6_has]
def wsX6_core_r2 : List Cond := [Cond.static yX6_has, Cond.code yX6_has cX6_has 2 (some .boolean), Cond.methodLink RX6 131 yX6_isSo, Cond.instanceMethod yX6_isSo, Cond.selects RX6 yX6_isSo yX6_isSo, Cond.code yX6_isSo cX6_isSo 6 (some .boolean), Cond.methodLink RX6 128 yX6_isTrue, Cond.static yX6_isTrue, Cond.code yX6_isTrue cX6_isTrue 2 (some .boolean), Cond.methodLink RX6 171 yX6_bits, Cond.static yX6_bits, Cond.code yX6_bits cX6_bits 3 (some .int), Cond.methodLink RX6 180 yX6_couldAll, Cond.instanceMethod yX6_couldAll, Cond.selects RX6 yX6_couldAll yX6_couldAll, Cond.code yX6_couldAll cX6_couldAll 3 (some .boolean)]
def wsX6_core : List Cond := .code yX6_core cX6_core 4 (some .int) :: ((wsX6_core_r1 ++ wsX6_core_r2) ++ wsX60)
def wsX6_cut_r1 : List Cond := [Cond.fieldLink RX6 7 "LieForceModel" "st" "[I", Cond.methodLink RX6 177 yX6_findWorlds, Cond.instanceMethod yX6_findWorlds, Cond.selects RX6 yX6_findWorlds yX6_findWorlds, Cond.initialized RX6, Cond.code yX6_findWorlds cX6_findWorlds 2 none, Cond.fieldLink RX6 34 "LieForceModel" "so" "[I", Cond.methodLink RX6 149 yX6_asItIs, Cond.instanceMethod yX6_asItIs, Cond.selects RX6 yX6_asItIs yX6_asItIs, Cond.code yX6_asItIs cX6_asItIs 1 none, Cond.fieldLink RX6 31 "LieForceModel" "now" "[I", Cond.methodLink RX6 108 yX6_copies, Cond.static yX6_copies, Cond.code yX6_copies cX6_copies 5 none, Cond.methodLink RX6 174 yX6_standing, Cond.instanceMethod yX6_standing, Cond.selects RX6 yX6_standing yX6_standing, Cond.code yX6_standing cX6_standing 1 (some .int), Cond.methodLink RX6 134 yX6_policeIn, Cond.instanceMethod yX6_policeIn, Cond.selects RX6 yX6_policeIn yX6_policeIn, Cond.code yX6_policeIn cX6_policeIn 4 (some .int), Cond.methodLink RX6 124 yX6_has]
def wsX6_cut_r2 : List Cond := [Cond.static yX6_has, Cond.code yX6_has cX6_has 2 (some .boolean), Cond.methodLink RX6 131 yX6_isSo, Cond.instanceMethod yX6_isSo, Cond.selects RX6 yX6_isSo yX6_isSo, Cond.code yX6_isSo cX6_isSo 6 (some .boolean), Cond.methodLink RX6 128 yX6_isTrue, Cond.static yX6_isTrue, Cond.code yX6_isTrue cX6_isTrue 2 (some .boolean), Cond.methodLink RX6 171 yX6_bits, Cond.static yX6_bits, Cond.code yX6_bits cX6_bits 3 (some .int), Cond.methodLink RX6 180 yX6_couldAll, Cond.instanceMethod yX6_couldAll, Cond.selects RX6 yX6_couldAll yX6_couldAll, Cond.code yX6_couldAll cX6_couldAll 3 (some .boolean)]
def wsX6_cut : List Cond := .code yX6_cut cX6_cut 4 (some .int) :: ((wsX6_cut_r1 ++ wsX6_cut_r2) ++ wsX60)
def wsX6_truest_r1 : List Cond := [Cond.fieldLink RX6 34 "LieForceModel" "so" "[I", Cond.methodLink RX6 64 yX6_in, Cond.static yX6_in, Cond.initialized RX6, Cond.code yX6_in cX6_in 3 (some .boolean), Cond.methodLink RX6 177 yX6_findWorlds, Cond.instanceMethod yX6_findWorlds, Cond.selects RX6 yX6_findWorlds yX6_findWorlds, Cond.code yX6_findWorlds cX6_findWorlds 2 none, Cond.methodLink RX6 149 yX6_asItIs, Cond.instanceMethod yX6_asItIs, Cond.selects RX6 yX6_asItIs yX6_asItIs, Cond.code yX6_asItIs cX6_asItIs 1 none, Cond.fieldLink RX6 31 "LieForceModel" "now" "[I", Cond.fieldLink RX6 7 "LieForceModel" "st" "[I", Cond.methodLink RX6 108 yX6_copies, Cond.static yX6_copies, Cond.code yX6_copies cX6_copies 5 none, Cond.methodLink RX6 174 yX6_standing, Cond.instanceMethod yX6_standing, Cond.selects RX6 yX6_standing yX6_standing, Cond.code yX6_standing cX6_standing 1 (some .int), Cond.methodLink RX6 134 yX6_policeIn, Cond.instanceMethod yX6_policeIn]
def wsX6_truest_r2 : List Cond := [Cond.selects RX6 yX6_policeIn yX6_policeIn, Cond.code yX6_policeIn cX6_policeIn 4 (some .int), Cond.methodLink RX6 124 yX6_has, Cond.static yX6_has, Cond.code yX6_has cX6_has 2 (some .boolean), Cond.methodLink RX6 131 yX6_isSo, Cond.instanceMethod yX6_isSo, Cond.selects RX6 yX6_isSo yX6_isSo, Cond.code yX6_isSo cX6_isSo 6 (some .boolean), Cond.methodLink RX6 128 yX6_isTrue, Cond.static yX6_isTrue, Cond.code yX6_isTrue cX6_isTrue 2 (some .boolean), Cond.methodLink RX6 171 yX6_bits, Cond.static yX6_bits, Cond.code yX6_bits cX6_bits 3 (some .int)]
def wsX6_truest : List Cond := .code yX6_truest cX6_truest 4 (some .int) :: ((wsX6_truest_r1 ++ wsX6_truest_r2) ++ wsX60)
def wsX6_pairsFrom : List Cond := .code yX6_pairsFrom cX6_pairsFrom 8 (some .int) :: ([.fieldLink RX6 37 "LieForceModel" "pairs" "[I", .fieldLink RX6 7 "LieForceModel" "st" "[I", .methodLink RX6 124 yX6_has, .static yX6_has, .initialized RX6, .code yX6_has cX6_has 2 (some .boolean), .methodLink RX6 140 yX6_doClash, .instanceMethod yX6_doClash, .selects RX6 yX6_doClash yX6_doClash, .code yX6_doClash cX6_doClash 4 (some .boolean), .methodLink RX6 131 yX6_isSo, .instanceMethod yX6_isSo, .selects RX6 yX6_isSo yX6_isSo, .code yX6_isSo cX6_isSo 6 (some .boolean), .fieldLink RX6 31 "LieForceModel" "now" "[I", .methodLink RX6 128 yX6_isTrue, .static yX6_isTrue, .code yX6_isTrue cX6_isTrue 2 (some .boolean)] ++ wsX60)
def wsX6_married_r1 : List Cond := [Cond.fieldLink RX6 37 "LieForceModel" "pairs" "[I", Cond.methodLink RX6 149 yX6_asItIs, Cond.instanceMethod yX6_asItIs, Cond.selects RX6 yX6_asItIs yX6_asItIs, Cond.initialized RX6, Cond.code yX6_asItIs cX6_asItIs 1 none, Cond.fieldLink RX6 31 "LieForceModel" "now" "[I", Cond.fieldLink RX6 7 "LieForceModel" "st" "[I", Cond.methodLink RX6 108 yX6_copies, Cond.static yX6_copies, Cond.code yX6_copies cX6_copies 5 none, Cond.methodLink RX6 168 yX6_police, Cond.instanceMethod yX6_police, Cond.selects RX6 yX6_police yX6_police, Cond.code yX6_police cX6_police 3 (some .int), Cond.methodLink RX6 124 yX6_has, Cond.static yX6_has, Cond.code yX6_has cX6_has 2 (some .boolean), Cond.methodLink RX6 183 yX6_pairsFrom, Cond.instanceMethod yX6_pairsFrom, Cond.selects RX6 yX6_pairsFrom yX6_pairsFrom, Cond.code yX6_pairsFrom cX6_pairsFrom 8 (some .int), Cond.methodLink RX6 140 yX6_doClash, Cond.instanceMethod yX6_doClash]
def wsX6_married_r2 : List Cond := [Cond.selects RX6 yX6_doClash yX6_doClash, Cond.code yX6_doClash cX6_doClash 4 (some .boolean), Cond.methodLink RX6 131 yX6_isSo, Cond.instanceMethod yX6_isSo, Cond.selects RX6 yX6_isSo yX6_isSo, Cond.code yX6_isSo cX6_isSo 6 (some .boolean), Cond.methodLink RX6 128 yX6_isTrue, Cond.static yX6_isTrue, Cond.code yX6_isTrue cX6_isTrue 2 (some .boolean)]
def wsX6_married : List Cond := .code yX6_married cX6_married 4 (some .int) :: ((wsX6_married_r1 ++ wsX6_married_r2) ++ wsX60)
def wsX6_trial_r1 : List Cond := [Cond.fieldLink RX6 40 "LieForceModel" "ends" "[I", Cond.fieldLink RX6 43 "LieForceModel" "next" "[I", Cond.fieldLink RX6 7 "LieForceModel" "st" "[I", Cond.methodLink RX6 64 yX6_in, Cond.static yX6_in, Cond.initialized RX6, Cond.code yX6_in cX6_in 3 (some .boolean), Cond.methodLink RX6 149 yX6_asItIs, Cond.instanceMethod yX6_asItIs, Cond.selects RX6 yX6_asItIs yX6_asItIs, Cond.code yX6_asItIs cX6_asItIs 1 none, Cond.fieldLink RX6 31 "LieForceModel" "now" "[I", Cond.methodLink RX6 108 yX6_copies, Cond.static yX6_copies, Cond.code yX6_copies cX6_copies 5 none, Cond.methodLink RX6 134 yX6_policeIn, Cond.instanceMethod yX6_policeIn, Cond.selects RX6 yX6_policeIn yX6_policeIn, Cond.code yX6_policeIn cX6_policeIn 4 (some .int), Cond.methodLink RX6 124 yX6_has, Cond.static yX6_has, Cond.code yX6_has cX6_has 2 (some .boolean), Cond.methodLink RX6 131 yX6_isSo, Cond.instanceMethod yX6_isSo]
def wsX6_trial_r2 : List Cond := [Cond.selects RX6 yX6_isSo yX6_isSo, Cond.code yX6_isSo cX6_isSo 6 (some .boolean), Cond.methodLink RX6 128 yX6_isTrue, Cond.static yX6_isTrue, Cond.code yX6_isTrue cX6_isTrue 2 (some .boolean), Cond.methodLink RX6 171 yX6_bits, Cond.static yX6_bits, Cond.code yX6_bits cX6_bits 3 (some .int)]
def wsX6_trial : List Cond := .code yX6_trial cX6_trial 8 (some .int) :: ((wsX6_trial_r1 ++ wsX6_trial_r2) ++ wsX60)
def wsX6_see : List Cond := .code yX6_see cX6_see 3 (some .int) :: ([.fieldLink RX6 121 "LieForceModel" "sees" "I", .fieldLink RX6 19 "LieForceModel" "seen" "[I", .methodLink RX6 146 yX6_isSaying, .instanceMethod yX6_isSaying, .selects RX6 yX6_isSaying yX6_isSaying, .initialized RX6, .code yX6_isSaying cX6_isSaying 2 (some .boolean), .fieldLink RX6 7 "LieForceModel" "st" "[I", .methodLink RX6 64 yX6_in, .static yX6_in, .code yX6_in cX6_in 3 (some .boolean)] ++ wsX60)
def wsX6_forget : List Cond := .code yX6_forget cX6_forget 2 (some .int) :: ([.fieldLink RX6 121 "LieForceModel" "sees" "I"] ++ wsX60)
def wsX6_isWorld : List Cond := .code yX6_isWorld cX6_isWorld 5 (some .boolean) :: ([.fieldLink RX6 121 "LieForceModel" "sees" "I", .fieldLink RX6 19 "LieForceModel" "seen" "[I", .methodLink RX6 134 yX6_policeIn, .instanceMethod yX6_policeIn, .selects RX6 yX6_policeIn yX6_policeIn, .initialized RX6, .code yX6_policeIn cX6_policeIn 4 (some .int), .fieldLink RX6 31 "LieForceModel" "now" "[I", .methodLink RX6 124 yX6_has, .static yX6_has, .code yX6_has cX6_has 2 (some .boolean), .methodLink RX6 131 yX6_isSo, .instanceMethod yX6_isSo, .selects RX6 yX6_isSo yX6_isSo, .code yX6_isSo cX6_isSo 6 (some .boolean), .methodLink RX6 128 yX6_isTrue, .static yX6_isTrue, .code yX6_isTrue cX6_isTrue 2 (some .boolean)] ++ wsX60)
def wsX6_worlds_r1 : List Cond := [Cond.methodLink RX6 64 yX6_in, Cond.static yX6_in, Cond.initialized RX6, Cond.code yX6_in cX6_in 3 (some .boolean), Cond.methodLink RX6 149 yX6_asItIs, Cond.instanceMethod yX6_asItIs, Cond.selects RX6 yX6_asItIs yX6_asItIs, Cond.code yX6_asItIs cX6_asItIs 1 none, Cond.fieldLink RX6 31 "LieForceModel" "now" "[I", Cond.fieldLink RX6 7 "LieForceModel" "st" "[I", Cond.methodLink RX6 108 yX6_copies, Cond.static yX6_copies, Cond.code yX6_copies cX6_copies 5 none, Cond.methodLink RX6 187 yX6_isWorld, Cond.instanceMethod yX6_isWorld, Cond.selects RX6 yX6_isWorld yX6_isWorld, Cond.code yX6_isWorld cX6_isWorld 5 (some .boolean), Cond.fieldLink RX6 121 "LieForceModel" "sees" "I", Cond.fieldLink RX6 19 "LieForceModel" "seen" "[I", Cond.methodLink RX6 134 yX6_policeIn, Cond.instanceMethod yX6_policeIn, Cond.selects RX6 yX6_policeIn yX6_policeIn, Cond.code yX6_policeIn cX6_policeIn 4 (some .int), Cond.methodLink RX6 124 yX6_has]
def wsX6_worlds_r2 : List Cond := [Cond.static yX6_has, Cond.code yX6_has cX6_has 2 (some .boolean), Cond.methodLink RX6 131 yX6_isSo, Cond.instanceMethod yX6_isSo, Cond.selects RX6 yX6_isSo yX6_isSo, Cond.code yX6_isSo cX6_isSo 6 (some .boolean), Cond.methodLink RX6 128 yX6_isTrue, Cond.static yX6_isTrue, Cond.code yX6_isTrue cX6_isTrue 2 (some .boolean)]
def wsX6_worlds : List Cond := .code yX6_worlds cX6_worlds 6 (some .int) :: ((wsX6_worlds_r1 ++ wsX6_worlds_r2) ++ wsX60)
def wsX6_must_r1 : List Cond := [Cond.methodLink RX6 152 yX6_isFact, Cond.static yX6_isFact, Cond.initialized RX6, Cond.code yX6_isFact cX6_isFact 1 (some .boolean), Cond.methodLink RX6 64 yX6_in, Cond.static yX6_in, Cond.code yX6_in cX6_in 3 (some .boolean), Cond.methodLink RX6 149 yX6_asItIs, Cond.instanceMethod yX6_asItIs, Cond.selects RX6 yX6_asItIs yX6_asItIs, Cond.code yX6_asItIs cX6_asItIs 1 none, Cond.fieldLink RX6 31 "LieForceModel" "now" "[I", Cond.fieldLink RX6 7 "LieForceModel" "st" "[I", Cond.methodLink RX6 108 yX6_copies, Cond.static yX6_copies, Cond.code yX6_copies cX6_copies 5 none, Cond.methodLink RX6 187 yX6_isWorld, Cond.instanceMethod yX6_isWorld, Cond.selects RX6 yX6_isWorld yX6_isWorld, Cond.code yX6_isWorld cX6_isWorld 5 (some .boolean), Cond.fieldLink RX6 121 "LieForceModel" "sees" "I", Cond.fieldLink RX6 19 "LieForceModel" "seen" "[I", Cond.methodLink RX6 134 yX6_policeIn, Cond.instanceMethod yX6_policeIn]
def wsX6_must_r2 : List Cond := [Cond.selects RX6 yX6_policeIn yX6_policeIn, Cond.code yX6_policeIn cX6_policeIn 4 (some .int), Cond.methodLink RX6 124 yX6_has, Cond.static yX6_has, Cond.code yX6_has cX6_has 2 (some .boolean), Cond.methodLink RX6 131 yX6_isSo, Cond.instanceMethod yX6_isSo, Cond.selects RX6 yX6_isSo yX6_isSo, Cond.code yX6_isSo cX6_isSo 6 (some .boolean), Cond.methodLink RX6 128 yX6_isTrue, Cond.static yX6_isTrue, Cond.code yX6_isTrue cX6_isTrue 2 (some .boolean)]
def wsX6_must : List Cond := .code yX6_must cX6_must 6 (some .int) :: ((wsX6_must_r1 ++ wsX6_must_r2) ++ wsX60)
def wsX6_liarsIn : List Cond := .code yX6_liarsIn cX6_liarsIn 5 (some .int) :: ([.fieldLink RX6 31 "LieForceModel" "now" "[I", .methodLink RX6 134 yX6_policeIn, .instanceMethod yX6_policeIn, .selects RX6 yX6_policeIn yX6_policeIn, .initialized RX6, .code yX6_policeIn cX6_policeIn 4 (some .int), .methodLink RX6 124 yX6_has, .static yX6_has, .code yX6_has cX6_has 2 (some .boolean), .methodLink RX6 131 yX6_isSo, .instanceMethod yX6_isSo, .selects RX6 yX6_isSo yX6_isSo, .code yX6_isSo cX6_isSo 6 (some .boolean), .methodLink RX6 128 yX6_isTrue, .static yX6_isTrue, .code yX6_isTrue cX6_isTrue 2 (some .boolean), .methodLink RX6 171 yX6_bits, .static yX6_bits, .code yX6_bits cX6_bits 3 (some .int)] ++ wsX60)
def wsX6_liars_r1 : List Cond := [Cond.methodLink RX6 64 yX6_in, Cond.static yX6_in, Cond.initialized RX6, Cond.code yX6_in cX6_in 3 (some .boolean), Cond.methodLink RX6 149 yX6_asItIs, Cond.instanceMethod yX6_asItIs, Cond.selects RX6 yX6_asItIs yX6_asItIs, Cond.code yX6_asItIs cX6_asItIs 1 none, Cond.fieldLink RX6 31 "LieForceModel" "now" "[I", Cond.fieldLink RX6 7 "LieForceModel" "st" "[I", Cond.methodLink RX6 108 yX6_copies, Cond.static yX6_copies, Cond.code yX6_copies cX6_copies 5 none, Cond.methodLink RX6 190 yX6_liarsIn, Cond.instanceMethod yX6_liarsIn, Cond.selects RX6 yX6_liarsIn yX6_liarsIn, Cond.code yX6_liarsIn cX6_liarsIn 5 (some .int), Cond.methodLink RX6 134 yX6_policeIn, Cond.instanceMethod yX6_policeIn, Cond.selects RX6 yX6_policeIn yX6_policeIn, Cond.code yX6_policeIn cX6_policeIn 4 (some .int), Cond.methodLink RX6 124 yX6_has, Cond.static yX6_has, Cond.code yX6_has cX6_has 2 (some .boolean)]
def wsX6_liars_r2 : List Cond := [Cond.methodLink RX6 131 yX6_isSo, Cond.instanceMethod yX6_isSo, Cond.selects RX6 yX6_isSo yX6_isSo, Cond.code yX6_isSo cX6_isSo 6 (some .boolean), Cond.methodLink RX6 128 yX6_isTrue, Cond.static yX6_isTrue, Cond.code yX6_isTrue cX6_isTrue 2 (some .boolean), Cond.methodLink RX6 171 yX6_bits, Cond.static yX6_bits, Cond.code yX6_bits cX6_bits 3 (some .int), Cond.methodLink RX6 187 yX6_isWorld, Cond.instanceMethod yX6_isWorld, Cond.selects RX6 yX6_isWorld yX6_isWorld, Cond.code yX6_isWorld cX6_isWorld 5 (some .boolean), Cond.fieldLink RX6 121 "LieForceModel" "sees" "I", Cond.fieldLink RX6 19 "LieForceModel" "seen" "[I"]
def wsX6_liars : List Cond := .code yX6_liars cX6_liars 7 (some .int) :: ((wsX6_liars_r1 ++ wsX6_liars_r2) ++ wsX60)
def wsX6_chance_r1 : List Cond := [Cond.fieldLink RX6 7 "LieForceModel" "st" "[I", Cond.constant RX6 193 (1000000), Cond.methodLink RX6 64 yX6_in, Cond.static yX6_in, Cond.initialized RX6, Cond.code yX6_in cX6_in 3 (some .boolean), Cond.methodLink RX6 149 yX6_asItIs, Cond.instanceMethod yX6_asItIs, Cond.selects RX6 yX6_asItIs yX6_asItIs, Cond.code yX6_asItIs cX6_asItIs 1 none, Cond.fieldLink RX6 31 "LieForceModel" "now" "[I", Cond.methodLink RX6 108 yX6_copies, Cond.static yX6_copies, Cond.code yX6_copies cX6_copies 5 none, Cond.methodLink RX6 134 yX6_policeIn, Cond.instanceMethod yX6_policeIn, Cond.selects RX6 yX6_policeIn yX6_policeIn, Cond.code yX6_policeIn cX6_policeIn 4 (some .int), Cond.methodLink RX6 124 yX6_has, Cond.static yX6_has, Cond.code yX6_has cX6_has 2 (some .boolean), Cond.methodLink RX6 131 yX6_isSo, Cond.instanceMethod yX6_isSo, Cond.selects RX6 yX6_isSo yX6_isSo]
def wsX6_chance_r2 : List Cond := [Cond.code yX6_isSo cX6_isSo 6 (some .boolean), Cond.methodLink RX6 128 yX6_isTrue, Cond.static yX6_isTrue, Cond.code yX6_isTrue cX6_isTrue 2 (some .boolean), Cond.methodLink RX6 171 yX6_bits, Cond.static yX6_bits, Cond.code yX6_bits cX6_bits 3 (some .int)]
def wsX6_chance : List Cond := .code yX6_chance cX6_chance 8 (some .int) :: ((wsX6_chance_r1 ++ wsX6_chance_r2) ++ wsX60)
def wsX6_year_r1 : List Cond := [Cond.fieldLink RX6 143 "LieForceModel" "fallen" "I", Cond.constantLong RX6 194 (7919), Cond.constantLong RX6 196 (6151), Cond.constantLong RX6 198 (65521), Cond.fieldLink RX6 31 "LieForceModel" "now" "[I", Cond.methodLink RX6 64 yX6_in, Cond.static yX6_in, Cond.initialized RX6, Cond.code yX6_in cX6_in 3 (some .boolean), Cond.methodLink RX6 149 yX6_asItIs, Cond.instanceMethod yX6_asItIs, Cond.selects RX6 yX6_asItIs yX6_asItIs, Cond.code yX6_asItIs cX6_asItIs 1 none, Cond.fieldLink RX6 7 "LieForceModel" "st" "[I", Cond.methodLink RX6 108 yX6_copies, Cond.static yX6_copies, Cond.code yX6_copies cX6_copies 5 none, Cond.methodLink RX6 112 yX6_appoints, Cond.instanceMethod yX6_appoints, Cond.selects RX6 yX6_appoints yX6_appoints, Cond.code yX6_appoints cX6_appoints 4 none, Cond.methodLink RX6 134 yX6_policeIn, Cond.instanceMethod yX6_policeIn, Cond.selects RX6 yX6_policeIn yX6_policeIn]
def wsX6_year_r2 : List Cond := [Cond.code yX6_policeIn cX6_policeIn 4 (some .int), Cond.methodLink RX6 124 yX6_has, Cond.static yX6_has, Cond.code yX6_has cX6_has 2 (some .boolean), Cond.methodLink RX6 131 yX6_isSo, Cond.instanceMethod yX6_isSo, Cond.selects RX6 yX6_isSo yX6_isSo, Cond.code yX6_isSo cX6_isSo 6 (some .boolean), Cond.methodLink RX6 128 yX6_isTrue, Cond.static yX6_isTrue, Cond.code yX6_isTrue cX6_isTrue 2 (some .boolean), Cond.methodLink RX6 161 yX6_canBeWithdrawn, Cond.instanceMethod yX6_canBeWithdrawn, Cond.selects RX6 yX6_canBeWithdrawn yX6_canBeWithdrawn, Cond.code yX6_canBeWithdrawn cX6_canBeWithdrawn 2 (some .boolean), Cond.fieldLink RX6 105 "LieForceModel" "term" "I", Cond.methodLink RX6 164 yX6_withdraws, Cond.instanceMethod yX6_withdraws, Cond.selects RX6 yX6_withdraws yX6_withdraws, Cond.code yX6_withdraws cX6_withdraws 2 none, Cond.methodLink RX6 158 yX6_goes, Cond.instanceMethod yX6_goes, Cond.selects RX6 yX6_goes yX6_goes, Cond.code yX6_goes cX6_goes 3 none]
def wsX6_year_r3 : List Cond := [Cond.fieldLink RX6 137 "LieForceModel" "firstFallen" "I", Cond.methodLink RX6 140 yX6_doClash, Cond.instanceMethod yX6_doClash, Cond.selects RX6 yX6_doClash yX6_doClash, Cond.code yX6_doClash cX6_doClash 4 (some .boolean), Cond.methodLink RX6 168 yX6_police, Cond.instanceMethod yX6_police, Cond.selects RX6 yX6_police yX6_police, Cond.code yX6_police cX6_police 3 (some .int), Cond.methodLink RX6 171 yX6_bits, Cond.static yX6_bits, Cond.code yX6_bits cX6_bits 3 (some .int)]
def wsX6_year : List Cond := .code yX6_year cX6_year 9 (some .int) :: ((wsX6_year_r1 ++ (wsX6_year_r2 ++ wsX6_year_r3)) ++ wsX60)
def wsX6_keep : List Cond := .code yX6_keep cX6_keep 1 (some .int) :: ([.fieldLink RX6 118 "LieForceModel" "keeps" "I", .fieldLink RX6 16 "LieForceModel" "kept" "[I", .fieldLink RX6 7 "LieForceModel" "st" "[I", .methodLink RX6 108 yX6_copies, .static yX6_copies, .initialized RX6, .code yX6_copies cX6_copies 5 none] ++ wsX60)
def wsX6_back : List Cond := .code yX6_back cX6_back 1 (some .int) :: ([.fieldLink RX6 118 "LieForceModel" "keeps" "I", .fieldLink RX6 7 "LieForceModel" "st" "[I", .fieldLink RX6 16 "LieForceModel" "kept" "[I", .fieldLink RX6 115 "LieForceModel" "acts" "I", .methodLink RX6 108 yX6_copies, .static yX6_copies, .initialized RX6, .code yX6_copies cX6_copies 5 none] ++ wsX60)
def wsX6_longServed : List Cond := .code yX6_longServed cX6_longServed 3 (some .int) :: ([.fieldLink RX6 7 "LieForceModel" "st" "[I", .fieldLink RX6 105 "LieForceModel" "term" "I"] ++ wsX60)
def wsX6_count_r1 : List Cond := [Cond.fieldLink RX6 7 "LieForceModel" "st" "[I", Cond.fieldLink RX6 121 "LieForceModel" "sees" "I", Cond.fieldLink RX6 115 "LieForceModel" "acts" "I", Cond.fieldLink RX6 118 "LieForceModel" "keeps" "I", Cond.fieldLink RX6 68 "LieForceModel" "texted" "I", Cond.methodLink RX6 149 yX6_asItIs, Cond.instanceMethod yX6_asItIs, Cond.selects RX6 yX6_asItIs yX6_asItIs, Cond.initialized RX6, Cond.code yX6_asItIs cX6_asItIs 1 none, Cond.fieldLink RX6 31 "LieForceModel" "now" "[I", Cond.methodLink RX6 108 yX6_copies, Cond.static yX6_copies, Cond.code yX6_copies cX6_copies 5 none, Cond.methodLink RX6 171 yX6_bits, Cond.static yX6_bits, Cond.code yX6_bits cX6_bits 3 (some .int), Cond.methodLink RX6 168 yX6_police, Cond.instanceMethod yX6_police, Cond.selects RX6 yX6_police yX6_police, Cond.code yX6_police cX6_police 3 (some .int), Cond.methodLink RX6 200 yX6_longServed, Cond.instanceMethod yX6_longServed, Cond.selects RX6 yX6_longServed yX6_longServed]
def wsX6_count_r2 : List Cond := [Cond.code yX6_longServed cX6_longServed 3 (some .int), Cond.fieldLink RX6 105 "LieForceModel" "term" "I"]
def wsX6_count : List Cond := .code yX6_count cX6_count 2 (some .int) :: ((wsX6_count_r1 ++ wsX6_count_r2) ++ wsX60)
def wsJ9_max_7cf53 : List Cond := .code yJ9_max_7cf53 cJ9_max_7cf53 2 (some .int) :: ([])
def wsJ9_min_7cf53 : List Cond := .code yJ9_min_7cf53 cJ9_min_7cf53 2 (some .int) :: ([])
def wsL_law_r1 : List Cond := [Cond.classLink RL 7 RX5, Cond.instantiable RX5 9, Cond.initialized RX5, Cond.classLink RL 10 RX6, Cond.instantiable RX6 21, Cond.initialized RX6, Cond.methodLink RL 9 yX5_init, Cond.instanceMethod yX5_init, Cond.code yX5_init cX5_init 1 none, Cond.methodLink RX5 1 objectInit, Cond.instanceMethod objectInit, Cond.code objectInit ⟨#[0xb1]⟩ 1 none, Cond.arrayClass .char, Cond.fieldLink RX5 9 "LieForce" "letters" "[C", Cond.classLink RX5 13 RX3, Cond.instantiable RX3 1, Cond.initialized RX3, Cond.fieldLink RX5 16 "LieForce" "reader" "LLieForce$Reader;", Cond.fieldLink RX5 24 "LieForce" "now" "LLieForce$Force;", Cond.classLink RX5 28 RX0, Cond.instantiable RX0 11, Cond.initialized RX0, Cond.fieldLink RX5 31 "LieForce" "ahead" "LLieForce$Force;", Cond.classLink RX5 34 RX2]
def wsL_law_r2 : List Cond := [Cond.instantiable RX2 2, Cond.initialized RX2, Cond.fieldLink RX5 39 "LieForce" "undoable" "LLieForce$Pile;", Cond.fieldLink RX5 43 "LieForce" "kept" "LLieForce$Pile;", Cond.classLink RX5 46 RX4, Cond.instantiable RX4 3, Cond.initialized RX4, Cond.fieldLink RX5 49 "LieForce" "sight" "LLieForce$Sight;", Cond.classLink RX5 53 RX1, Cond.instantiable RX1 2, Cond.initialized RX1, Cond.fieldLink RX5 56 "LieForce" "game" "LLieForce$Game;", Cond.instanceMethod yX3_init, Cond.code yX3_init cX3_init 1 none, Cond.methodLink RX3 3 objectInit, Cond.arrayClass .int, Cond.fieldLink RX3 11 "LieForce$Reader" "numbers" "[I", Cond.methodLink RX5 20 yX5_firstForce, Cond.static yX5_firstForce, Cond.code yX5_firstForce cX5_firstForce 2 (some (.object "LieForce$Force")), Cond.instanceMethod yX0_init, Cond.code yX0_init cX0_init 1 none, Cond.methodLink RX0 3 objectInit, Cond.fieldLink RX0 9 "LieForce$Force" "term" "I"]
def wsL_law_r3 : List Cond := [Cond.fieldLink RX0 15 "LieForce$Force" "kinds" "[I", Cond.fieldLink RX0 19 "LieForce$Force" "firsts" "[I", Cond.fieldLink RX0 22 "LieForce$Force" "seconds" "[I", Cond.fieldLink RX0 25 "LieForce$Force" "persons" "[I", Cond.fieldLink RX0 28 "LieForce$Force" "served" "[I", Cond.arrayClass .long, Cond.fieldLink RX0 31 "LieForce$Force" "soWorlds" "[J", Cond.methodLink RX5 62 yJ0_toCharArray_70df3, Cond.instanceMethod yJ0_toCharArray_70df3, Cond.selects RJ0 yJ0_toCharArray_70df3 yJ0_toCharArray_70df3, Cond.initialized RJ0, Cond.code yJ0_toCharArray_70df3 cJ0_toCharArray_70df3 1 (some (.array .char)), Cond.fieldLink RJ0 9 "java/lang/String" "value" "[B", Cond.methodLink RJ0 492 yJ0_isLatin1_aae02, Cond.instanceMethod yJ0_isLatin1_aae02, Cond.selects RJ0 yJ0_isLatin1_aae02 yJ0_isLatin1_aae02, Cond.code yJ0_isLatin1_aae02 cJ0_isLatin1_aae02 1 (some .boolean), Cond.fieldLink RJ0 38 "java/lang/String" "COMPACT_STRINGS" "Z", Cond.fieldLink RJ0 15 "java/lang/String" "coder" "B", Cond.methodLink RJ0 299 yJ1_toChars_9d188, Cond.static yJ1_toChars_9d188, Cond.initialized RJ1, Cond.code yJ1_toChars_9d188 cJ1_toChars_9d188 2 (some (.array .char)), Cond.methodLink RJ1 13 yJ1_inflate_03870]
def wsL_law_r4 : List Cond := [Cond.static yJ1_inflate_03870, Cond.code yJ1_inflate_03870 cJ1_inflate_03870 6 none, Cond.methodLink RJ0 303 yJ2_toChars_9d188, Cond.static yJ2_toChars_9d188, Cond.initialized RJ2, Cond.code yJ2_toChars_9d188 cJ2_toChars_9d188 2 (some (.array .char)), Cond.methodLink RJ2 103 yJ2_getChars_a1a8b, Cond.static yJ2_getChars_a1a8b, Cond.code yJ2_getChars_a1a8b cJ2_getChars_a1a8b 6 none, Cond.methodLink RJ2 173 yJ2_checkBoundsOffCount_d044e, Cond.static yJ2_checkBoundsOffCount_d044e, Cond.code yJ2_checkBoundsOffCount_d044e cJ2_checkBoundsOffCount_d044e 3 none, Cond.methodLink RJ2 48 yJ2_length_9d52b, Cond.static yJ2_length_9d52b, Cond.code yJ2_length_9d52b cJ2_length_9d52b 1 (some .int), Cond.methodLink RJ2 419 yJ0_checkBoundsOffCount_cabcc, Cond.static yJ0_checkBoundsOffCount_cabcc, Cond.code yJ0_checkBoundsOffCount_cabcc cJ0_checkBoundsOffCount_cabcc 3 (some .int), Cond.fieldLink RJ0 1053 "jdk/internal/util/Preconditions" "SIOOBE_FORMATTER" "Ljava/util/function/BiFunction;", Cond.methodLink RJ0 1065 yJ3_checkFromIndexSize_8c36e, Cond.static yJ3_checkFromIndexSize_8c36e, Cond.initialized RJ3, Cond.code yJ3_checkFromIndexSize_8c36e cJ3_checkFromIndexSize_8c36e 4 (some .int), Cond.methodLink RJ2 71 yJ2_getChar_3b067]
def wsL_law_r5 : List Cond := [Cond.static yJ2_getChar_3b067, Cond.code yJ2_getChar_3b067 cJ2_getChar_3b067 2 (some .char), Cond.fieldLink RJ2 44 "java/lang/StringUTF16" "$assertionsDisabled" "Z", Cond.fieldLink RJ2 59 "java/lang/StringUTF16" "HI_BYTE_SHIFT" "I", Cond.fieldLink RJ2 63 "java/lang/StringUTF16" "LO_BYTE_SHIFT" "I", Cond.methodLink RX5 68 yX3_read, Cond.instanceMethod yX3_read, Cond.selects RX3 yX3_read yX3_read, Cond.code yX3_read cX3_read 8 (some .int), Cond.methodLink RX3 15 yX0_empty, Cond.instanceMethod yX0_empty, Cond.selects RX0 yX0_empty yX0_empty, Cond.code yX0_empty cX0_empty 1 none, Cond.fieldLink RX0 35 "LieForce$Force" "facts" "I", Cond.fieldLink RX0 38 "LieForce$Force" "sayings" "I", Cond.fieldLink RX0 41 "LieForce$Force" "withdrawn" "I", Cond.fieldLink RX0 44 "LieForce$Force" "days" "I", Cond.methodLink RX3 20 yX3_letterAt, Cond.static yX3_letterAt, Cond.code yX3_letterAt cX3_letterAt 3 (some .int), Cond.methodLink RX3 24 yX3_numbersOf, Cond.static yX3_numbersOf, Cond.code yX3_numbersOf cX3_numbersOf 1 (some .int), Cond.methodLink RX3 28 yX3_readNumbers]
def wsL_law_r6 : List Cond := [Cond.instanceMethod yX3_readNumbers, Cond.selects RX3 yX3_readNumbers yX3_readNumbers, Cond.code yX3_readNumbers cX3_readNumbers 8 (some .int), Cond.methodLink RX3 36 yX3_figuresAt, Cond.static yX3_figuresAt, Cond.code yX3_figuresAt cX3_figuresAt 3 (some .int), Cond.methodLink RX3 42 yX3_isFigure, Cond.static yX3_isFigure, Cond.code yX3_isFigure cX3_isFigure 1 (some .boolean), Cond.methodLink RX3 39 yX3_numberOf, Cond.static yX3_numberOf, Cond.code yX3_numberOf cX3_numberOf 5 (some .int), Cond.methodLink RX3 32 yX3_putItem, Cond.instanceMethod yX3_putItem, Cond.selects RX3 yX3_putItem yX3_putItem, Cond.code yX3_putItem cX3_putItem 3 (some .boolean), Cond.fieldLink RX3 53 "LieForce$Force" "term" "I", Cond.methodLink RX3 46 yX0_turnFact, Cond.instanceMethod yX0_turnFact, Cond.selects RX0 yX0_turnFact yX0_turnFact, Cond.code yX0_turnFact cX0_turnFact 3 none, Cond.static yX5_isFact, Cond.code yX5_isFact cX5_isFact 1 (some .boolean), Cond.methodLink RX5 72 yX5_isWithin]
def wsL_law_r7 : List Cond := [Cond.static yX5_isWithin, Cond.code yX5_isWithin cX5_isWithin 3 (some .boolean), Cond.methodLink RX0 51 yX0_isThere, Cond.instanceMethod yX0_isThere, Cond.selects RX0 yX0_isThere yX0_isThere, Cond.code yX0_isThere cX0_isThere 2 (some .boolean), Cond.methodLink RX0 62 yX0_hasPoliceman, Cond.instanceMethod yX0_hasPoliceman, Cond.selects RX0 yX0_hasPoliceman yX0_hasPoliceman, Cond.code yX0_hasPoliceman cX0_hasPoliceman 2 (some .boolean), Cond.methodLink RX0 59 yX0_isWithdrawn, Cond.instanceMethod yX0_isWithdrawn, Cond.selects RX0 yX0_isWithdrawn yX0_isWithdrawn, Cond.code yX0_isWithdrawn cX0_isWithdrawn 2 (some .boolean), Cond.static yX5_isAmong, Cond.code yX5_isAmong cX5_isAmong 3 (some .boolean), Cond.static yX5_isSaying, Cond.code yX5_isSaying cX5_isSaying 4 (some .boolean), Cond.methodLink RX5 260 yX5_isLiteral, Cond.static yX5_isLiteral, Cond.code yX5_isLiteral cX5_isLiteral 1 (some .boolean), Cond.methodLink RX3 65 yX0_addSaying, Cond.instanceMethod yX0_addSaying, Cond.selects RX0 yX0_addSaying yX0_addSaying]
def wsL_law_r8 : List Cond := [Cond.code yX0_addSaying cX0_addSaying 6 (some .int), Cond.static yX5_worldsOfSaying, Cond.code yX5_worldsOfSaying cX5_worldsOfSaying 7 (some .long), Cond.constantLong RX5 273 (-1), Cond.methodLink RX5 224 yX5_worldsOfLiteral, Cond.static yX5_worldsOfLiteral, Cond.code yX5_worldsOfLiteral cX5_worldsOfLiteral 1 (some .long), Cond.fieldLink RX5 269 "LieForce" "WORLDS_OF_FACT" "[J", Cond.methodLink RX5 36 yX2_init, Cond.instanceMethod yX2_init, Cond.code yX2_init cX2_init 3 none, Cond.methodLink RX2 1 objectInit, Cond.classLink RX2 7 RX0, Cond.fieldLink RX2 9 "LieForce$Pile" "stood" "[LLieForce$Force;", Cond.instanceMethod yX4_init, Cond.code yX4_init cX4_init 1 none, Cond.methodLink RX4 3 objectInit, Cond.fieldLink RX4 9 "LieForce$Sight" "seen" "[I", Cond.arrayClass .boolean, Cond.fieldLink RX4 15 "LieForce$Sight" "has" "[Z", Cond.instanceMethod yX1_init, Cond.code yX1_init cX1_init 1 none, Cond.methodLink RX1 3 objectInit, Cond.fieldLink RX1 9 "LieForce$Game" "behindTurn" "[I"]
def wsL_law_r9 : List Cond := [Cond.fieldLink RX1 15 "LieForce$Game" "best" "[I", Cond.methodLink RL 12 yX6_init, Cond.instanceMethod yX6_init, Cond.code yX6_init cX6_init 1 none, Cond.methodLink RX6 1 objectInit, Cond.fieldLink RX6 7 "LieForceModel" "st" "[I", Cond.fieldLink RX6 13 "LieForceModel" "was" "[I", Cond.fieldLink RX6 16 "LieForceModel" "kept" "[I", Cond.fieldLink RX6 19 "LieForceModel" "seen" "[I", Cond.fieldLink RX6 22 "LieForceModel" "text" "[I", Cond.fieldLink RX6 25 "LieForceModel" "told" "[I", Cond.fieldLink RX6 28 "LieForceModel" "read" "[I", Cond.fieldLink RX6 31 "LieForceModel" "now" "[I", Cond.fieldLink RX6 34 "LieForceModel" "so" "[I", Cond.fieldLink RX6 37 "LieForceModel" "pairs" "[I", Cond.fieldLink RX6 40 "LieForceModel" "ends" "[I", Cond.fieldLink RX6 43 "LieForceModel" "next" "[I", Cond.fieldLink RX6 53 "LieForceModel" "readTerm" "I", Cond.methodLink RX6 46 yX6_clearTold, Cond.instanceMethod yX6_clearTold, Cond.selects RX6 yX6_clearTold yX6_clearTold, Cond.code yX6_clearTold cX6_clearTold 2 none, Cond.methodLink RX6 49 yX6_tellsSaying, Cond.instanceMethod yX6_tellsSaying]
def wsL_law_r10 : List Cond := [Cond.selects RX6 yX6_tellsSaying yX6_tellsSaying, Cond.code yX6_tellsSaying cX6_tellsSaying 5 none, Cond.methodLink RX6 60 yX6_puts, Cond.static yX6_puts, Cond.code yX6_puts cX6_puts 6 none, Cond.methodLink RX6 57 yX6_settles, Cond.instanceMethod yX6_settles, Cond.selects RX6 yX6_settles yX6_settles, Cond.code yX6_settles cX6_settles 1 none, Cond.fieldLink RX6 105 "LieForceModel" "term" "I", Cond.fieldLink RX6 115 "LieForceModel" "acts" "I", Cond.fieldLink RX6 118 "LieForceModel" "keeps" "I", Cond.fieldLink RX6 121 "LieForceModel" "sees" "I", Cond.methodLink RX6 108 yX6_copies, Cond.static yX6_copies, Cond.code yX6_copies cX6_copies 5 none, Cond.methodLink RX6 112 yX6_appoints, Cond.instanceMethod yX6_appoints, Cond.selects RX6 yX6_appoints yX6_appoints, Cond.code yX6_appoints cX6_appoints 4 none, Cond.methodLink RX6 134 yX6_policeIn, Cond.instanceMethod yX6_policeIn, Cond.selects RX6 yX6_policeIn yX6_policeIn, Cond.code yX6_policeIn cX6_policeIn 4 (some .int)]
def wsL_law_r11 : List Cond := [Cond.methodLink RX6 124 yX6_has, Cond.static yX6_has, Cond.code yX6_has cX6_has 2 (some .boolean), Cond.methodLink RX6 131 yX6_isSo, Cond.instanceMethod yX6_isSo, Cond.selects RX6 yX6_isSo yX6_isSo, Cond.code yX6_isSo cX6_isSo 6 (some .boolean), Cond.methodLink RX6 128 yX6_isTrue, Cond.static yX6_isTrue, Cond.code yX6_isTrue cX6_isTrue 2 (some .boolean), Cond.methodLink RL 13 yX5_write, Cond.instanceMethod yX5_write, Cond.selects RX5 yX5_write yX5_write, Cond.code yX5_write cX5_write 2 (some .int), Cond.fieldLink RX5 76 "LieForce" "length" "I", Cond.methodLink RL 17 yX6_write, Cond.instanceMethod yX6_write, Cond.selects RX6 yX6_write yX6_write, Cond.code yX6_write cX6_write 2 (some .int), Cond.fieldLink RX6 68 "LieForceModel" "texted" "I", Cond.methodLink RX6 64 yX6_in, Cond.static yX6_in, Cond.code yX6_in cX6_in 3 (some .boolean), Cond.methodLink RL 18 yX5_wipe]
def wsL_law_r12 : List Cond := [Cond.instanceMethod yX5_wipe, Cond.selects RX5 yX5_wipe yX5_wipe, Cond.code yX5_wipe cX5_wipe 2 (some .int), Cond.methodLink RL 22 yX6_wipe, Cond.instanceMethod yX6_wipe, Cond.selects RX6 yX6_wipe yX6_wipe, Cond.code yX6_wipe cX6_wipe 2 (some .int), Cond.methodLink RL 23 yX5_fault, Cond.instanceMethod yX5_fault, Cond.selects RX5 yX5_fault yX5_fault, Cond.code yX5_fault cX5_fault 1 (some .int), Cond.methodLink RL 26 yX6_fault, Cond.instanceMethod yX6_fault, Cond.selects RX6 yX6_fault yX6_fault, Cond.code yX6_fault cX6_fault 2 (some .int), Cond.fieldLink RX6 71 "LieForceModel" "at" "I", Cond.methodLink RX6 98 yX6_readItem, Cond.instanceMethod yX6_readItem, Cond.selects RX6 yX6_readItem yX6_readItem, Cond.code yX6_readItem cX6_readItem 2 (some .boolean), Cond.methodLink RX6 74 yX6_letterAt, Cond.instanceMethod yX6_letterAt, Cond.selects RX6 yX6_letterAt yX6_letterAt, Cond.code yX6_letterAt cX6_letterAt 2 (some .int)]
def wsL_law_r13 : List Cond := [Cond.methodLink RX6 88 yX6_readFactOf, Cond.instanceMethod yX6_readFactOf, Cond.selects RX6 yX6_readFactOf yX6_readFactOf, Cond.code yX6_readFactOf cX6_readFactOf 1 (some .boolean), Cond.methodLink RX6 82 yX6_readNumbers, Cond.instanceMethod yX6_readNumbers, Cond.selects RX6 yX6_readNumbers yX6_readNumbers, Cond.code yX6_readNumbers cX6_readNumbers 3 (some .boolean), Cond.methodLink RX6 78 yX6_isFigure, Cond.static yX6_isFigure, Cond.code yX6_isFigure cX6_isFigure 1 (some .boolean), Cond.methodLink RX6 85 yX6_isTold, Cond.instanceMethod yX6_isTold, Cond.selects RX6 yX6_isTold yX6_isTold, Cond.code yX6_isTold cX6_isTold 4 (some .boolean), Cond.methodLink RX6 92 yX6_readSayingOf, Cond.instanceMethod yX6_readSayingOf, Cond.selects RX6 yX6_readSayingOf yX6_readSayingOf, Cond.code yX6_readSayingOf cX6_readSayingOf 1 (some .boolean), Cond.methodLink RX6 95 yX6_readTermOf, Cond.instanceMethod yX6_readTermOf, Cond.selects RX6 yX6_readTermOf yX6_readTermOf, Cond.code yX6_readTermOf cX6_readTermOf 1 (some .boolean), Cond.methodLink RL 27 yX5_lay]
def wsL_law_r14 : List Cond := [Cond.instanceMethod yX5_lay, Cond.selects RX5 yX5_lay yX5_lay, Cond.code yX5_lay cX5_lay 1 (some .int), Cond.fieldLink RX5 80 "LieForce$Force" "sayings" "I", Cond.methodLink RX5 83 yX0_copy, Cond.instanceMethod yX0_copy, Cond.selects RX0 yX0_copy yX0_copy, Cond.code yX0_copy cX0_copy 3 none, Cond.methodLink RX5 87 yX2_clear, Cond.instanceMethod yX2_clear, Cond.selects RX2 yX2_clear yX2_clear, Cond.code yX2_clear cX2_clear 1 none, Cond.fieldLink RX2 16 "LieForce$Pile" "size" "I", Cond.methodLink RX5 90 yX4_clear, Cond.instanceMethod yX4_clear, Cond.selects RX4 yX4_clear yX4_clear, Cond.code yX4_clear cX4_clear 1 none, Cond.fieldLink RX4 19 "LieForce$Sight" "size" "I", Cond.methodLink RL 30 yX6_lay, Cond.instanceMethod yX6_lay, Cond.selects RX6 yX6_lay yX6_lay, Cond.code yX6_lay cX6_lay 1 (some .int), Cond.methodLink RX6 101 yX6_fault, Cond.methodLink RL 31 yX5_saying]
def wsL_law_r15 : List Cond := [Cond.instanceMethod yX5_saying, Cond.selects RX5 yX5_saying yX5_saying, Cond.code yX5_saying cX5_saying 3 (some .int), Cond.fieldLink RX5 95 "LieForce$Force" "kinds" "[I", Cond.fieldLink RX5 99 "LieForce$Force" "firsts" "[I", Cond.fieldLink RX5 102 "LieForce$Force" "seconds" "[I", Cond.fieldLink RX5 105 "LieForce$Force" "persons" "[I", Cond.fieldLink RX5 108 "LieForce$Force" "facts" "I", Cond.fieldLink RX5 125 "LieForce$Force" "served" "[I", Cond.methodLink RX5 91 yX0_isThere, Cond.methodLink RX5 111 yX0_isSoIn, Cond.instanceMethod yX0_isSoIn, Cond.selects RX0 yX0_isSoIn yX0_isSoIn, Cond.code yX0_isSoIn cX0_isSoIn 3 (some .boolean), Cond.methodLink RX5 115 yX5_asNumber, Cond.static yX5_asNumber, Cond.code yX5_asNumber cX5_asNumber 1 (some .int), Cond.methodLink RX5 119 yX0_isWithdrawn, Cond.methodLink RX5 122 yX0_hasPoliceman, Cond.methodLink RL 35 yX6_saying, Cond.instanceMethod yX6_saying, Cond.selects RX6 yX6_saying yX6_saying, Cond.code yX6_saying cX6_saying 3 (some .int), Cond.methodLink RX6 146 yX6_isSaying]
def wsL_law_r16 : List Cond := [Cond.instanceMethod yX6_isSaying, Cond.selects RX6 yX6_isSaying yX6_isSaying, Cond.code yX6_isSaying cX6_isSaying 2 (some .boolean), Cond.methodLink RX6 149 yX6_asItIs, Cond.instanceMethod yX6_asItIs, Cond.selects RX6 yX6_asItIs yX6_asItIs, Cond.code yX6_asItIs cX6_asItIs 1 none, Cond.methodLink RL 36 yX5_fact, Cond.instanceMethod yX5_fact, Cond.selects RX5 yX5_fact yX5_fact, Cond.code yX5_fact cX5_fact 2 (some .int), Cond.methodLink RX5 128 yX5_isFact, Cond.methodLink RL 39 yX6_fact, Cond.instanceMethod yX6_fact, Cond.selects RX6 yX6_fact yX6_fact, Cond.code yX6_fact cX6_fact 2 (some .int), Cond.methodLink RX6 152 yX6_isFact, Cond.static yX6_isFact, Cond.code yX6_isFact cX6_isFact 1 (some .boolean), Cond.methodLink RL 40 yX5_clash, Cond.instanceMethod yX5_clash, Cond.selects RX5 yX5_clash yX5_clash, Cond.code yX5_clash cX5_clash 3 (some .int), Cond.methodLink RX5 131 yX0_areClashing]
def wsL_law_r17 : List Cond := [Cond.instanceMethod yX0_areClashing, Cond.selects RX0 yX0_areClashing yX0_areClashing, Cond.code yX0_areClashing cX0_areClashing 3 (some .boolean), Cond.methodLink RL 43 yX6_clash, Cond.instanceMethod yX6_clash, Cond.selects RX6 yX6_clash yX6_clash, Cond.code yX6_clash cX6_clash 3 (some .int), Cond.methodLink RX6 140 yX6_doClash, Cond.instanceMethod yX6_doClash, Cond.selects RX6 yX6_doClash yX6_doClash, Cond.code yX6_doClash cX6_doClash 4 (some .boolean), Cond.methodLink RL 44 yX5_pass, Cond.instanceMethod yX5_pass, Cond.selects RX5 yX5_pass yX5_pass, Cond.code yX5_pass cX5_pass 3 (some .int), Cond.fieldLink RX5 141 "LieForce$Force" "days" "I", Cond.methodLink RX5 134 yX2_add, Cond.instanceMethod yX2_add, Cond.selects RX2 yX2_add yX2_add, Cond.code yX2_add cX2_add 2 none, Cond.methodLink RX2 20 yX2_dropOldest, Cond.instanceMethod yX2_dropOldest, Cond.selects RX2 yX2_dropOldest yX2_dropOldest, Cond.code yX2_dropOldest cX2_dropOldest 3 none]
def wsL_law_r18 : List Cond := [Cond.methodLink RX2 23 yX0_copy, Cond.methodLink RX5 137 yX0_passDay, Cond.instanceMethod yX0_passDay, Cond.selects RX0 yX0_passDay yX0_passDay, Cond.code yX0_passDay cX0_passDay 4 (some .int), Cond.methodLink RX0 103 yX0_serveDay, Cond.instanceMethod yX0_serveDay, Cond.selects RX0 yX0_serveDay yX0_serveDay, Cond.code yX0_serveDay cX0_serveDay 2 none, Cond.methodLink RX0 100 yX0_mateOf, Cond.instanceMethod yX0_mateOf, Cond.selects RX0 yX0_mateOf yX0_mateOf, Cond.code yX0_mateOf cX0_mateOf 3 (some .int), Cond.methodLink RX0 65 yX0_hasServed, Cond.instanceMethod yX0_hasServed, Cond.selects RX0 yX0_hasServed yX0_hasServed, Cond.code yX0_hasServed cX0_hasServed 2 (some .boolean), Cond.methodLink RX0 68 yX0_areClashing, Cond.methodLink RX0 106 yX0_takeOut, Cond.instanceMethod yX0_takeOut, Cond.selects RX0 yX0_takeOut yX0_takeOut, Cond.code yX0_takeOut cX0_takeOut 2 none, Cond.methodLink RL 47 yX6_pass, Cond.instanceMethod yX6_pass]
def wsL_law_r19 : List Cond := [Cond.selects RX6 yX6_pass yX6_pass, Cond.code yX6_pass cX6_pass 3 (some .int), Cond.methodLink RX6 155 yX6_remembers, Cond.instanceMethod yX6_remembers, Cond.selects RX6 yX6_remembers yX6_remembers, Cond.code yX6_remembers cX6_remembers 2 none, Cond.methodLink RX6 158 yX6_goes, Cond.instanceMethod yX6_goes, Cond.selects RX6 yX6_goes yX6_goes, Cond.code yX6_goes cX6_goes 3 none, Cond.fieldLink RX6 137 "LieForceModel" "firstFallen" "I", Cond.fieldLink RX6 143 "LieForceModel" "fallen" "I", Cond.methodLink RL 48 yX5_say, Cond.instanceMethod yX5_say, Cond.selects RX5 yX5_say yX5_say, Cond.code yX5_say cX5_say 6 (some .int), Cond.methodLink RX5 144 yX5_isSaying, Cond.methodLink RX5 148 yX0_addSaying, Cond.methodLink RL 52 yX6_say, Cond.instanceMethod yX6_say, Cond.selects RX6 yX6_say yX6_say, Cond.code yX6_say cX6_say 5 (some .int), Cond.methodLink RL 53 yX5_withdraw, Cond.instanceMethod yX5_withdraw]
def wsL_law_r20 : List Cond := [Cond.selects RX5 yX5_withdraw yX5_withdraw, Cond.code yX5_withdraw cX5_withdraw 2 (some .int), Cond.methodLink RX5 152 yX0_canBeWithdrawn, Cond.instanceMethod yX0_canBeWithdrawn, Cond.selects RX0 yX0_canBeWithdrawn yX0_canBeWithdrawn, Cond.code yX0_canBeWithdrawn cX0_canBeWithdrawn 2 (some .boolean), Cond.methodLink RX5 155 yX0_takeOut, Cond.methodLink RX5 158 yX0_policemen, Cond.instanceMethod yX0_policemen, Cond.selects RX0 yX0_policemen yX0_policemen, Cond.code yX0_policemen cX0_policemen 1 (some .int), Cond.methodLink RX0 79 yX0_liesIn, Cond.instanceMethod yX0_liesIn, Cond.selects RX0 yX0_liesIn yX0_liesIn, Cond.code yX0_liesIn cX0_liesIn 4 (some .int), Cond.methodLink RX0 72 yX0_isSoIn, Cond.methodLink RX0 83 yJ6_bitCount_0f7a4, Cond.static yJ6_bitCount_0f7a4, Cond.initialized RJ6, Cond.code yJ6_bitCount_0f7a4 cJ6_bitCount_0f7a4 1 (some .int), Cond.constant RJ6 265 (1431655765), Cond.constant RJ6 266 (858993459), Cond.constant RJ6 267 (252645135), Cond.methodLink RL 56 yX6_withdraw]
def wsL_law_r21 : List Cond := [Cond.instanceMethod yX6_withdraw, Cond.selects RX6 yX6_withdraw yX6_withdraw, Cond.code yX6_withdraw cX6_withdraw 2 (some .int), Cond.methodLink RX6 161 yX6_canBeWithdrawn, Cond.instanceMethod yX6_canBeWithdrawn, Cond.selects RX6 yX6_canBeWithdrawn yX6_canBeWithdrawn, Cond.code yX6_canBeWithdrawn cX6_canBeWithdrawn 2 (some .boolean), Cond.methodLink RX6 164 yX6_withdraws, Cond.instanceMethod yX6_withdraws, Cond.selects RX6 yX6_withdraws yX6_withdraws, Cond.code yX6_withdraws cX6_withdraws 2 none, Cond.methodLink RX6 168 yX6_police, Cond.instanceMethod yX6_police, Cond.selects RX6 yX6_police yX6_police, Cond.code yX6_police cX6_police 3 (some .int), Cond.methodLink RX6 171 yX6_bits, Cond.static yX6_bits, Cond.code yX6_bits cX6_bits 3 (some .int), Cond.methodLink RL 57 yX5_turn, Cond.instanceMethod yX5_turn, Cond.selects RX5 yX5_turn yX5_turn, Cond.code yX5_turn cX5_turn 2 (some .int), Cond.methodLink RX5 161 yX0_turnFact, Cond.methodLink RL 60 yX6_turn]
def wsL_law_r22 : List Cond := [Cond.instanceMethod yX6_turn, Cond.selects RX6 yX6_turn yX6_turn, Cond.code yX6_turn cX6_turn 2 (some .int), Cond.methodLink RL 61 yX5_undo, Cond.instanceMethod yX5_undo, Cond.selects RX5 yX5_undo yX5_undo, Cond.code yX5_undo cX5_undo 1 (some .int), Cond.fieldLink RX5 168 "LieForce$Pile" "size" "I", Cond.methodLink RX5 164 yX2_takeLast, Cond.instanceMethod yX2_takeLast, Cond.selects RX2 yX2_takeLast yX2_takeLast, Cond.code yX2_takeLast cX2_takeLast 2 (some .boolean), Cond.methodLink RL 64 yX6_undo, Cond.instanceMethod yX6_undo, Cond.selects RX6 yX6_undo yX6_undo, Cond.code yX6_undo cX6_undo 1 (some .int), Cond.methodLink RL 65 yX5_behind, Cond.instanceMethod yX5_behind, Cond.selects RX5 yX5_behind yX5_behind, Cond.code yX5_behind cX5_behind 3 (some .int), Cond.methodLink RX5 171 yX0_liesIn, Cond.methodLink RL 68 yX6_behind, Cond.instanceMethod yX6_behind, Cond.selects RX6 yX6_behind yX6_behind]
def wsL_law_r23 : List Cond := [Cond.code yX6_behind cX6_behind 3 (some .int), Cond.methodLink RL 69 yX5_fall, Cond.instanceMethod yX5_fall, Cond.selects RX5 yX5_fall yX5_fall, Cond.code yX5_fall cX5_fall 4 (some .int), Cond.methodLink RX5 175 yX0_serveDay, Cond.methodLink RX5 178 yX0_firstToFall, Cond.instanceMethod yX0_firstToFall, Cond.selects RX0 yX0_firstToFall yX0_firstToFall, Cond.code yX0_firstToFall cX0_firstToFall 2 (some .int), Cond.methodLink RX5 181 yX0_mateOf, Cond.methodLink RL 72 yX6_fall, Cond.instanceMethod yX6_fall, Cond.selects RX6 yX6_fall yX6_fall, Cond.code yX6_fall cX6_fall 3 (some .int), Cond.methodLink RL 73 yX5_core, Cond.instanceMethod yX5_core, Cond.selects RX5 yX5_core yX5_core, Cond.code yX5_core cX5_core 1 (some .int), Cond.methodLink RX5 184 yX0_lowestCore, Cond.instanceMethod yX0_lowestCore, Cond.selects RX0 yX0_lowestCore yX0_lowestCore, Cond.code yX0_lowestCore cX0_lowestCore 6 (some .int), Cond.methodLink RX0 75 yX0_standing]
def wsL_law_r24 : List Cond := [Cond.instanceMethod yX0_standing, Cond.selects RX0 yX0_standing yX0_standing, Cond.code yX0_standing cX0_standing 1 (some .int), Cond.methodLink RX0 116 yX0_couldAllBeSo, Cond.instanceMethod yX0_couldAllBeSo, Cond.selects RX0 yX0_couldAllBeSo yX0_couldAllBeSo, Cond.code yX0_couldAllBeSo cX0_couldAllBeSo 5 (some .boolean), Cond.constantLong RX0 91 (-1), Cond.static yX5_isBitOf, Cond.code yX5_isBitOf cX5_isBitOf 2 (some .boolean), Cond.methodLink RL 76 yX6_core, Cond.instanceMethod yX6_core, Cond.selects RX6 yX6_core yX6_core, Cond.code yX6_core cX6_core 4 (some .int), Cond.methodLink RX6 177 yX6_findWorlds, Cond.instanceMethod yX6_findWorlds, Cond.selects RX6 yX6_findWorlds yX6_findWorlds, Cond.code yX6_findWorlds cX6_findWorlds 2 none, Cond.methodLink RX6 174 yX6_standing, Cond.instanceMethod yX6_standing, Cond.selects RX6 yX6_standing yX6_standing, Cond.code yX6_standing cX6_standing 1 (some .int), Cond.methodLink RX6 180 yX6_couldAll, Cond.instanceMethod yX6_couldAll]
def wsL_law_r25 : List Cond := [Cond.selects RX6 yX6_couldAll yX6_couldAll, Cond.code yX6_couldAll cX6_couldAll 3 (some .boolean), Cond.methodLink RL 77 yX5_cut, Cond.instanceMethod yX5_cut, Cond.selects RX5 yX5_cut yX5_cut, Cond.code yX5_cut cX5_cut 1 (some .int), Cond.methodLink RX5 187 yX0_lowestCut, Cond.instanceMethod yX0_lowestCut, Cond.selects RX0 yX0_lowestCut yX0_lowestCut, Cond.code yX0_lowestCut cX0_lowestCut 6 (some .int), Cond.methodLink RL 80 yX6_cut, Cond.instanceMethod yX6_cut, Cond.selects RX6 yX6_cut yX6_cut, Cond.code yX6_cut cX6_cut 4 (some .int), Cond.methodLink RL 81 yX5_truest, Cond.instanceMethod yX5_truest, Cond.selects RX5 yX5_truest yX5_truest, Cond.code yX5_truest cX5_truest 6 (some .int), Cond.methodLink RX5 190 yX0_soAtOnce, Cond.instanceMethod yX0_soAtOnce, Cond.selects RX0 yX0_soAtOnce yX0_soAtOnce, Cond.code yX0_soAtOnce cX0_soAtOnce 2 (some .int), Cond.methodLink RL 84 yX6_truest, Cond.instanceMethod yX6_truest]
def wsL_law_r26 : List Cond := [Cond.selects RX6 yX6_truest yX6_truest, Cond.code yX6_truest cX6_truest 4 (some .int), Cond.methodLink RL 85 yX5_married, Cond.instanceMethod yX5_married, Cond.selects RX5 yX5_married yX5_married, Cond.code yX5_married cX5_married 1 (some .int), Cond.methodLink RX5 193 yX0_mostPairs, Cond.instanceMethod yX0_mostPairs, Cond.selects RX0 yX0_mostPairs yX0_mostPairs, Cond.code yX0_mostPairs cX0_mostPairs 5 (some .int), Cond.methodLink RX0 126 Lib.Math.max.name, Cond.static Lib.Math.max.name, Cond.initialized "java/lang/Math", Cond.code Lib.Math.max.name Lib.Math.max.code 2 (some .int), Cond.methodLink RX0 119 yX0_mostPairs, Cond.methodLink RX0 123 yX0_mayMarry, Cond.instanceMethod yX0_mayMarry, Cond.selects RX0 yX0_mayMarry yX0_mayMarry, Cond.code yX0_mayMarry cX0_mayMarry 3 (some .boolean), Cond.methodLink RL 88 yX6_married, Cond.instanceMethod yX6_married, Cond.selects RX6 yX6_married yX6_married, Cond.code yX6_married cX6_married 4 (some .int), Cond.methodLink RX6 183 yX6_pairsFrom]
def wsL_law_r27 : List Cond := [Cond.instanceMethod yX6_pairsFrom, Cond.selects RX6 yX6_pairsFrom yX6_pairsFrom, Cond.code yX6_pairsFrom cX6_pairsFrom 8 (some .int), Cond.methodLink RL 89 yX5_trial, Cond.instanceMethod yX5_trial, Cond.selects RX5 yX5_trial yX5_trial, Cond.code yX5_trial cX5_trial 3 (some .int), Cond.methodLink RX5 197 yX1_lookAhead, Cond.instanceMethod yX1_lookAhead, Cond.selects RX1 yX1_lookAhead yX1_lookAhead, Cond.code yX1_lookAhead cX1_lookAhead 6 none, Cond.methodLink RX1 18 yX0_liesIn, Cond.methodLink RX1 24 yJ6_bitCount_0f7a4, Cond.methodLink RX1 29 yX1_bestOf, Cond.instanceMethod yX1_bestOf, Cond.selects RX1 yX1_bestOf yX1_bestOf, Cond.code yX1_bestOf cX1_bestOf 6 (some .int), Cond.methodLink RX1 36 Lib.Math.max.name, Cond.methodLink RX1 42 Lib.Math.min.name, Cond.static Lib.Math.min.name, Cond.code Lib.Math.min.name Lib.Math.min.code 2 (some .int), Cond.methodLink RX1 33 yX1_worth, Cond.instanceMethod yX1_worth, Cond.selects RX1 yX1_worth yX1_worth]
def wsL_law_r28 : List Cond := [Cond.code yX1_worth cX1_worth 2 (some .int), Cond.methodLink RX5 201 yX1_outcome, Cond.instanceMethod yX1_outcome, Cond.selects RX1 yX1_outcome yX1_outcome, Cond.code yX1_outcome cX1_outcome 2 (some .int), Cond.methodLink RX5 204 yX1_firstMove, Cond.instanceMethod yX1_firstMove, Cond.selects RX1 yX1_firstMove yX1_firstMove, Cond.code yX1_firstMove cX1_firstMove 4 (some .int), Cond.methodLink RX1 49 yX1_outcome, Cond.methodLink RL 92 yX6_trial, Cond.instanceMethod yX6_trial, Cond.selects RX6 yX6_trial yX6_trial, Cond.code yX6_trial cX6_trial 8 (some .int), Cond.methodLink RL 93 yX5_see, Cond.instanceMethod yX5_see, Cond.selects RX5 yX5_see yX5_see, Cond.code yX5_see cX5_see 3 (some .int), Cond.methodLink RX5 207 yX4_add, Cond.instanceMethod yX4_add, Cond.selects RX4 yX4_add yX4_add, Cond.code yX4_add cX4_add 3 (some .int), Cond.methodLink RL 97 yX6_see, Cond.instanceMethod yX6_see]
def wsL_law_r29 : List Cond := [Cond.selects RX6 yX6_see yX6_see, Cond.code yX6_see cX6_see 3 (some .int), Cond.methodLink RL 98 yX5_forget, Cond.instanceMethod yX5_forget, Cond.selects RX5 yX5_forget yX5_forget, Cond.code yX5_forget cX5_forget 2 (some .int), Cond.fieldLink RX5 210 "LieForce$Sight" "size" "I", Cond.methodLink RL 101 yX6_forget, Cond.instanceMethod yX6_forget, Cond.selects RX6 yX6_forget yX6_forget, Cond.code yX6_forget cX6_forget 2 (some .int), Cond.methodLink RL 102 yX5_worlds, Cond.instanceMethod yX5_worlds, Cond.selects RX5 yX5_worlds yX5_worlds, Cond.code yX5_worlds cX5_worlds 4 (some .int), Cond.methodLink RX5 211 yX4_worldsAsSeen, Cond.instanceMethod yX4_worldsAsSeen, Cond.selects RX4 yX4_worldsAsSeen yX4_worldsAsSeen, Cond.code yX4_worldsAsSeen cX4_worldsAsSeen 7 (some .long), Cond.constantLong RX4 23 (-1), Cond.methodLink RX4 25 yX0_policedWorlds, Cond.instanceMethod yX0_policedWorlds, Cond.selects RX0 yX0_policedWorlds yX0_policedWorlds, Cond.code yX0_policedWorlds cX0_policedWorlds 2 (some .long)]
def wsL_law_r30 : List Cond := [Cond.methodLink RX5 215 yJ13_bitCount_95d88, Cond.static yJ13_bitCount_95d88, Cond.initialized RJ13, Cond.code yJ13_bitCount_95d88 cJ13_bitCount_95d88 2 (some .int), Cond.constantLong RJ13 314 (6148914691236517205), Cond.constantLong RJ13 316 (3689348814741910323), Cond.constantLong RJ13 318 (1085102592571150095), Cond.methodLink RX5 221 yX5_lowestWorld, Cond.static yX5_lowestWorld, Cond.code yX5_lowestWorld cX5_lowestWorld 3 (some .int), Cond.methodLink RX5 231 yX5_isAmong, Cond.methodLink RL 105 yX6_worlds, Cond.instanceMethod yX6_worlds, Cond.selects RX6 yX6_worlds yX6_worlds, Cond.code yX6_worlds cX6_worlds 6 (some .int), Cond.methodLink RX6 187 yX6_isWorld, Cond.instanceMethod yX6_isWorld, Cond.selects RX6 yX6_isWorld yX6_isWorld, Cond.code yX6_isWorld cX6_isWorld 5 (some .boolean), Cond.methodLink RL 106 yX5_must, Cond.instanceMethod yX5_must, Cond.selects RX5 yX5_must yX5_must, Cond.code yX5_must cX5_must 6 (some .int), Cond.methodLink RL 109 yX6_must]
def wsL_law_r31 : List Cond := [Cond.instanceMethod yX6_must, Cond.selects RX6 yX6_must yX6_must, Cond.code yX6_must cX6_must 6 (some .int), Cond.methodLink RL 110 yX5_liars, Cond.instanceMethod yX5_liars, Cond.selects RX5 yX5_liars yX5_liars, Cond.code yX5_liars cX5_liars 8 (some .int), Cond.methodLink RX5 228 yX0_liarsIn, Cond.instanceMethod yX0_liarsIn, Cond.selects RX0 yX0_liarsIn yX0_liarsIn, Cond.code yX0_liarsIn cX0_liarsIn 5 (some .int), Cond.methodLink RL 113 yX6_liars, Cond.instanceMethod yX6_liars, Cond.selects RX6 yX6_liars yX6_liars, Cond.code yX6_liars cX6_liars 7 (some .int), Cond.methodLink RX6 190 yX6_liarsIn, Cond.instanceMethod yX6_liarsIn, Cond.selects RX6 yX6_liarsIn yX6_liarsIn, Cond.code yX6_liarsIn cX6_liarsIn 5 (some .int), Cond.methodLink RL 114 yX5_chance, Cond.instanceMethod yX5_chance, Cond.selects RX5 yX5_chance yX5_chance, Cond.code yX5_chance cX5_chance 7 (some .int), Cond.methodLink RX5 235 yJ6_bitCount_0f7a4]
def wsL_law_r32 : List Cond := [Cond.methodLink RX5 239 yX5_waysToTurn, Cond.static yX5_waysToTurn, Cond.code yX5_waysToTurn cX5_waysToTurn 3 (some .int), Cond.methodLink RX5 242 yX5_power, Cond.static yX5_power, Cond.code yX5_power cX5_power 4 (some .int), Cond.methodLink RX5 245 yX5_commonDivisor, Cond.static yX5_commonDivisor, Cond.code yX5_commonDivisor cX5_commonDivisor 6 (some .int), Cond.methodLink RL 118 yX6_chance, Cond.instanceMethod yX6_chance, Cond.selects RX6 yX6_chance yX6_chance, Cond.code yX6_chance cX6_chance 8 (some .int), Cond.constant RX6 193 (1000000), Cond.methodLink RL 119 yX5_year, Cond.instanceMethod yX5_year, Cond.selects RX5 yX5_year yX5_year, Cond.code yX5_year cX5_year 6 (some .int), Cond.methodLink RX5 248 yX5_draw, Cond.static yX5_draw, Cond.code yX5_draw cX5_draw 4 (some .int), Cond.constantLong RX5 263 (7919), Cond.constantLong RX5 265 (6151), Cond.constantLong RX5 267 (65521)]
def wsL_law_r33 : List Cond := [Cond.methodLink RX5 251 yX0_takeDraw, Cond.instanceMethod yX0_takeDraw, Cond.selects RX0 yX0_takeDraw yX0_takeDraw, Cond.code yX0_takeDraw cX0_takeDraw 3 none, Cond.methodLink RX0 110 yX0_turnFact, Cond.methodLink RX0 113 yX0_canBeWithdrawn, Cond.methodLink RL 122 yX6_year, Cond.instanceMethod yX6_year, Cond.selects RX6 yX6_year yX6_year, Cond.code yX6_year cX6_year 9 (some .int), Cond.constantLong RX6 194 (7919), Cond.constantLong RX6 196 (6151), Cond.constantLong RX6 198 (65521), Cond.methodLink RL 123 yX5_keep, Cond.instanceMethod yX5_keep, Cond.selects RX5 yX5_keep yX5_keep, Cond.code yX5_keep cX5_keep 1 (some .int), Cond.methodLink RL 126 yX6_keep, Cond.instanceMethod yX6_keep, Cond.selects RX6 yX6_keep yX6_keep, Cond.code yX6_keep cX6_keep 1 (some .int), Cond.methodLink RL 127 yX5_back, Cond.instanceMethod yX5_back, Cond.selects RX5 yX5_back yX5_back]
def wsL_law_r34 : List Cond := [Cond.code yX5_back cX5_back 1 (some .int), Cond.methodLink RL 130 yX6_back, Cond.instanceMethod yX6_back, Cond.selects RX6 yX6_back yX6_back, Cond.code yX6_back cX6_back 1 (some .int), Cond.methodLink RL 131 yX5_count, Cond.instanceMethod yX5_count, Cond.selects RX5 yX5_count yX5_count, Cond.code yX5_count cX5_count 2 (some .int), Cond.fieldLink RX5 254 "LieForce$Force" "withdrawn" "I", Cond.methodLink RX5 257 yX0_policemenWhoServed, Cond.instanceMethod yX0_policemenWhoServed, Cond.selects RX0 yX0_policemenWhoServed yX0_policemenWhoServed, Cond.code yX0_policemenWhoServed cX0_policemenWhoServed 3 (some .int), Cond.methodLink RL 134 yX6_count, Cond.instanceMethod yX6_count, Cond.selects RX6 yX6_count yX6_count, Cond.code yX6_count cX6_count 2 (some .int), Cond.methodLink RX6 200 yX6_longServed, Cond.instanceMethod yX6_longServed, Cond.selects RX6 yX6_longServed yX6_longServed, Cond.code yX6_longServed cX6_longServed 3 (some .int)]
def wsL_law : List Cond := (wsL_law_r1 ++ (wsL_law_r2 ++ (wsL_law_r3 ++ (wsL_law_r4 ++ (wsL_law_r5 ++ (wsL_law_r6 ++ (wsL_law_r7 ++ (wsL_law_r8 ++ (wsL_law_r9 ++ (wsL_law_r10 ++ (wsL_law_r11 ++ (wsL_law_r12 ++ (wsL_law_r13 ++ (wsL_law_r14 ++ (wsL_law_r15 ++ (wsL_law_r16 ++ (wsL_law_r17 ++ (wsL_law_r18 ++ (wsL_law_r19 ++ (wsL_law_r20 ++ (wsL_law_r21 ++ (wsL_law_r22 ++ (wsL_law_r23 ++ (wsL_law_r24 ++ (wsL_law_r25 ++ (wsL_law_r26 ++ (wsL_law_r27 ++ (wsL_law_r28 ++ (wsL_law_r29 ++ (wsL_law_r30 ++ (wsL_law_r31 ++ (wsL_law_r32 ++ (wsL_law_r33 ++ wsL_law_r34))))))))))))))))))))))))))))))))) ++ wsX50 ++ wsX60 ++ wsX30 ++ wsX00 ++ wsX20 ++ wsX40 ++ wsX10 ++ ([] : List Cond)
set_option maxRecDepth 20000 in
theorem wsL_law_in : ∀ w ∈ wsL_law, w ∈ lw_tbl := fun w h => (goodIn_p wsL_law [51, 54, 59, 69, 74, 125, 129, 134, 137, 140, 143, 146, 149, 152, 157, 160, 170, 174, 177, 180, 184, 187, 190, 193, 197, 201, 204, 207, 211, 215, 219, 222, 227, 230, 234, 237, 240, 248, 266, 284, 650, 655, 659, 662, 666, 669, 673, 677, 680, 684, 687, 324, 755, 758, 328, 762, 332, 766, 770, 774, 778, 782, 785, 789, 793, 797, 336, 340, 344, 348, 801, 352, 357, 360, 806, 810, 814, 366, 818, 821, 371, 375, 825, 829, 379, 383, 387, 392, 396, 400, 404, 409, 833, 837, 841, 413, 845, 419, 423, 428, 432, 436, 849, 853, 857, 861, 864, 443, 868, 448, 452, 872, 456, 876, 461, 466, 880, 471, 475, 479, 483, 487, 884, 888, 892, 896, 491, 495, 900, 499, 503, 904, 507, 511, 519, 516, 908, 912, 523, 527, 533, 542, 537, 546, 550, 916, 555, 559, 920, 563, 924, 567, 571, 576, 579, 585, 928, 932, 590, 936, 594, 598, 940, 944, 602, 606, 609, 612, 948, 616, 619, 626, 953, 632, 960, 636, 964, 640, 644, 968, 972] (by decide +kernel) (by decide +kernel) w h).1
theorem inlX0 : ∀ w ∈ wsX00, w ∈ wsL_law := fun _ h => List.mem_append_left _ (List.mem_append_left _ (List.mem_append_left _ (List.mem_append_left _ (List.mem_append_right _ h))))
theorem inX0 : ∀ w ∈ wsX00, w ∈ lw_tbl := fun w h => wsL_law_in w (inlX0 w h)
theorem inlX1 : ∀ w ∈ wsX10, w ∈ wsL_law := fun _ h => List.mem_append_left _ (List.mem_append_right _ h)
theorem inX1 : ∀ w ∈ wsX10, w ∈ lw_tbl := fun w h => wsL_law_in w (inlX1 w h)
theorem inlX2 : ∀ w ∈ wsX20, w ∈ wsL_law := fun _ h => List.mem_append_left _ (List.mem_append_left _ (List.mem_append_left _ (List.mem_append_right _ h)))
theorem inX2 : ∀ w ∈ wsX20, w ∈ lw_tbl := fun w h => wsL_law_in w (inlX2 w h)
theorem inlX3 : ∀ w ∈ wsX30, w ∈ wsL_law := fun _ h => List.mem_append_left _ (List.mem_append_left _ (List.mem_append_left _ (List.mem_append_left _ (List.mem_append_left _ (List.mem_append_right _ h)))))
theorem inX3 : ∀ w ∈ wsX30, w ∈ lw_tbl := fun w h => wsL_law_in w (inlX3 w h)
theorem inlX4 : ∀ w ∈ wsX40, w ∈ wsL_law := fun _ h => List.mem_append_left _ (List.mem_append_left _ (List.mem_append_right _ h))
theorem inX4 : ∀ w ∈ wsX40, w ∈ lw_tbl := fun w h => wsL_law_in w (inlX4 w h)
theorem inlX5 : ∀ w ∈ wsX50, w ∈ wsL_law := fun _ h => List.mem_append_left _ (List.mem_append_left _ (List.mem_append_left _ (List.mem_append_left _ (List.mem_append_left _ (List.mem_append_left _ (List.mem_append_left _ (List.mem_append_right _ h)))))))
theorem inX5 : ∀ w ∈ wsX50, w ∈ lw_tbl := fun w h => wsL_law_in w (inlX5 w h)
theorem inlX6 : ∀ w ∈ wsX60, w ∈ wsL_law := fun _ h => List.mem_append_left _ (List.mem_append_left _ (List.mem_append_left _ (List.mem_append_left _ (List.mem_append_left _ (List.mem_append_left _ (List.mem_append_right _ h))))))
theorem inX6 : ∀ w ∈ wsX60, w ∈ lw_tbl := fun w h => wsL_law_in w (inlX6 w h)
theorem inJ6 : ∀ w ∈ wsJ60, w ∈ lw_tbl := by decide +kernel
theorem inJ13 : ∀ w ∈ wsJ130, w ∈ lw_tbl := by decide +kernel
theorem inJ9 : ∀ w ∈ wsJ90, w ∈ lw_tbl := by decide +kernel
theorem inJ0 : ∀ w ∈ wsJ00, w ∈ lw_tbl := by decide +kernel
theorem inJ1 : ∀ w ∈ wsJ10, w ∈ lw_tbl := by decide +kernel
theorem inJ2 : ∀ w ∈ wsJ20, w ∈ lw_tbl := by decide +kernel
theorem inJ3 : ∀ w ∈ wsJ30, w ∈ lw_tbl := by decide +kernel
theorem dX0_init_0 : decode cX0_init 0 = .ok (.aload_n 0, 1) := by decide +kernel
theorem dX0_init_1 : decode cX0_init 1 = .ok (.invokespecial 3, 3) := by decide +kernel
theorem dX0_init_4 : decode cX0_init 4 = .ok (.aload_n 0, 1) := by decide +kernel
theorem dX0_init_5 : decode cX0_init 5 = .ok (.iconst 5, 1) := by decide +kernel
theorem dX0_init_6 : decode cX0_init 6 = .ok (.putfield 9, 3) := by decide +kernel
theorem dX0_init_9 : decode cX0_init 9 = .ok (.aload_n 0, 1) := by decide +kernel
theorem dX0_init_10 : decode cX0_init 10 = .ok (.bipush 9, 2) := by decide +kernel
theorem dX0_init_12 : decode cX0_init 12 = .ok (.newarray .int, 2) := by decide +kernel
theorem dX0_init_14 : decode cX0_init 14 = .ok (.putfield 15, 3) := by decide +kernel
theorem dX0_init_17 : decode cX0_init 17 = .ok (.aload_n 0, 1) := by decide +kernel
theorem dX0_init_18 : decode cX0_init 18 = .ok (.bipush 9, 2) := by decide +kernel
theorem dX0_init_20 : decode cX0_init 20 = .ok (.newarray .int, 2) := by decide +kernel
theorem dX0_init_22 : decode cX0_init 22 = .ok (.putfield 19, 3) := by decide +kernel
theorem dX0_init_25 : decode cX0_init 25 = .ok (.aload_n 0, 1) := by decide +kernel
theorem dX0_init_26 : decode cX0_init 26 = .ok (.bipush 9, 2) := by decide +kernel
theorem dX0_init_28 : decode cX0_init 28 = .ok (.newarray .int, 2) := by decide +kernel
theorem dX0_init_30 : decode cX0_init 30 = .ok (.putfield 22, 3) := by decide +kernel
theorem dX0_init_33 : decode cX0_init 33 = .ok (.aload_n 0, 1) := by decide +kernel
theorem dX0_init_34 : decode cX0_init 34 = .ok (.bipush 9, 2) := by decide +kernel
theorem dX0_init_36 : decode cX0_init 36 = .ok (.newarray .int, 2) := by decide +kernel
theorem dX0_init_38 : decode cX0_init 38 = .ok (.putfield 25, 3) := by decide +kernel
theorem dX0_init_41 : decode cX0_init 41 = .ok (.aload_n 0, 1) := by decide +kernel
theorem dX0_init_42 : decode cX0_init 42 = .ok (.bipush 9, 2) := by decide +kernel
theorem dX0_init_44 : decode cX0_init 44 = .ok (.newarray .int, 2) := by decide +kernel
theorem dX0_init_46 : decode cX0_init 46 = .ok (.putfield 28, 3) := by decide +kernel
theorem dX0_init_49 : decode cX0_init 49 = .ok (.aload_n 0, 1) := by decide +kernel
theorem dX0_init_50 : decode cX0_init 50 = .ok (.bipush 9, 2) := by decide +kernel
theorem dX0_init_52 : decode cX0_init 52 = .ok (.newarray .long, 2) := by decide +kernel
theorem dX0_init_54 : decode cX0_init 54 = .ok (.putfield 31, 3) := by decide +kernel
theorem dX0_init_57 : decode cX0_init 57 = .ok (.return_, 1) := by decide +kernel
theorem dX0_empty_0 : decode cX0_empty 0 = .ok (.aload_n 0, 1) := by decide +kernel
theorem dX0_empty_1 : decode cX0_empty 1 = .ok (.iconst 0, 1) := by decide +kernel
theorem dX0_empty_2 : decode cX0_empty 2 = .ok (.putfield 35, 3) := by decide +kernel
theorem dX0_empty_5 : decode cX0_empty 5 = .ok (.aload_n 0, 1) := by decide +kernel
theorem dX0_empty_6 : decode cX0_empty 6 = .ok (.iconst 0, 1) := by decide +kernel
theorem dX0_empty_7 : decode cX0_empty 7 = .ok (.putfield 38, 3) := by decide +kernel
theorem dX0_empty_10 : decode cX0_empty 10 = .ok (.aload_n 0, 1) := by decide +kernel
theorem dX0_empty_11 : decode cX0_empty 11 = .ok (.iconst 0, 1) := by decide +kernel
theorem dX0_empty_12 : decode cX0_empty 12 = .ok (.putfield 41, 3) := by decide +kernel
theorem dX0_empty_15 : decode cX0_empty 15 = .ok (.aload_n 0, 1) := by decide +kernel
theorem dX0_empty_16 : decode cX0_empty 16 = .ok (.iconst 0, 1) := by decide +kernel
theorem dX0_empty_17 : decode cX0_empty 17 = .ok (.putfield 44, 3) := by decide +kernel
theorem dX0_empty_20 : decode cX0_empty 20 = .ok (.aload_n 0, 1) := by decide +kernel
theorem dX0_empty_21 : decode cX0_empty 21 = .ok (.iconst 5, 1) := by decide +kernel
theorem dX0_empty_22 : decode cX0_empty 22 = .ok (.putfield 9, 3) := by decide +kernel
theorem dX0_empty_25 : decode cX0_empty 25 = .ok (.return_, 1) := by decide +kernel
theorem dX0_copy_0 : decode cX0_copy 0 = .ok (.aload_n 0, 1) := by decide +kernel
theorem dX0_copy_1 : decode cX0_copy 1 = .ok (.aload_n 1, 1) := by decide +kernel
theorem dX0_copy_2 : decode cX0_copy 2 = .ok (.getfield 35, 3) := by decide +kernel
theorem dX0_copy_5 : decode cX0_copy 5 = .ok (.putfield 35, 3) := by decide +kernel
theorem dX0_copy_8 : decode cX0_copy 8 = .ok (.aload_n 0, 1) := by decide +kernel
theorem dX0_copy_9 : decode cX0_copy 9 = .ok (.aload_n 1, 1) := by decide +kernel
theorem dX0_copy_10 : decode cX0_copy 10 = .ok (.getfield 38, 3) := by decide +kernel
theorem dX0_copy_13 : decode cX0_copy 13 = .ok (.putfield 38, 3) := by decide +kernel
theorem dX0_copy_16 : decode cX0_copy 16 = .ok (.aload_n 0, 1) := by decide +kernel
theorem dX0_copy_17 : decode cX0_copy 17 = .ok (.aload_n 1, 1) := by decide +kernel
theorem dX0_copy_18 : decode cX0_copy 18 = .ok (.getfield 41, 3) := by decide +kernel
theorem dX0_copy_21 : decode cX0_copy 21 = .ok (.putfield 41, 3) := by decide +kernel
theorem dX0_copy_24 : decode cX0_copy 24 = .ok (.aload_n 0, 1) := by decide +kernel
theorem dX0_copy_25 : decode cX0_copy 25 = .ok (.aload_n 1, 1) := by decide +kernel
theorem dX0_copy_26 : decode cX0_copy 26 = .ok (.getfield 44, 3) := by decide +kernel
theorem dX0_copy_29 : decode cX0_copy 29 = .ok (.putfield 44, 3) := by decide +kernel
theorem dX0_copy_32 : decode cX0_copy 32 = .ok (.aload_n 0, 1) := by decide +kernel
theorem dX0_copy_33 : decode cX0_copy 33 = .ok (.aload_n 1, 1) := by decide +kernel
theorem dX0_copy_34 : decode cX0_copy 34 = .ok (.getfield 9, 3) := by decide +kernel
theorem dX0_copy_37 : decode cX0_copy 37 = .ok (.putfield 9, 3) := by decide +kernel
theorem dX0_copy_40 : decode cX0_copy 40 = .ok (.iconst 0, 1) := by decide +kernel
theorem dX0_copy_41 : decode cX0_copy 41 = .ok (.istore_n 2, 1) := by decide +kernel
theorem dX0_copy_42 : decode cX0_copy 42 = .ok (.iload_n 2, 1) := by decide +kernel
theorem dX0_copy_43 : decode cX0_copy 43 = .ok (.bipush 9, 2) := by decide +kernel
theorem dX0_copy_45 : decode cX0_copy 45 = .ok (.if_icmp .ge 81, 3) := by decide +kernel
theorem dX0_copy_48 : decode cX0_copy 48 = .ok (.aload_n 0, 1) := by decide +kernel
theorem dX0_copy_49 : decode cX0_copy 49 = .ok (.getfield 15, 3) := by decide +kernel
theorem dX0_copy_52 : decode cX0_copy 52 = .ok (.iload_n 2, 1) := by decide +kernel
theorem dX0_copy_53 : decode cX0_copy 53 = .ok (.aload_n 1, 1) := by decide +kernel
theorem dX0_copy_54 : decode cX0_copy 54 = .ok (.getfield 15, 3) := by decide +kernel
theorem dX0_copy_57 : decode cX0_copy 57 = .ok (.iload_n 2, 1) := by decide +kernel
theorem dX0_copy_58 : decode cX0_copy 58 = .ok (.iaload, 1) := by decide +kernel
theorem dX0_copy_59 : decode cX0_copy 59 = .ok (.iastore, 1) := by decide +kernel
theorem dX0_copy_60 : decode cX0_copy 60 = .ok (.aload_n 0, 1) := by decide +kernel
theorem dX0_copy_61 : decode cX0_copy 61 = .ok (.getfield 19, 3) := by decide +kernel
theorem dX0_copy_64 : decode cX0_copy 64 = .ok (.iload_n 2, 1) := by decide +kernel
theorem dX0_copy_65 : decode cX0_copy 65 = .ok (.aload_n 1, 1) := by decide +kernel
theorem dX0_copy_66 : decode cX0_copy 66 = .ok (.getfield 19, 3) := by decide +kernel
theorem dX0_copy_69 : decode cX0_copy 69 = .ok (.iload_n 2, 1) := by decide +kernel
theorem dX0_copy_70 : decode cX0_copy 70 = .ok (.iaload, 1) := by decide +kernel
theorem dX0_copy_71 : decode cX0_copy 71 = .ok (.iastore, 1) := by decide +kernel
theorem dX0_copy_72 : decode cX0_copy 72 = .ok (.aload_n 0, 1) := by decide +kernel
theorem dX0_copy_73 : decode cX0_copy 73 = .ok (.getfield 22, 3) := by decide +kernel
theorem dX0_copy_76 : decode cX0_copy 76 = .ok (.iload_n 2, 1) := by decide +kernel
theorem dX0_copy_77 : decode cX0_copy 77 = .ok (.aload_n 1, 1) := by decide +kernel
theorem dX0_copy_78 : decode cX0_copy 78 = .ok (.getfield 22, 3) := by decide +kernel
theorem dX0_copy_81 : decode cX0_copy 81 = .ok (.iload_n 2, 1) := by decide +kernel
theorem dX0_copy_82 : decode cX0_copy 82 = .ok (.iaload, 1) := by decide +kernel
theorem dX0_copy_83 : decode cX0_copy 83 = .ok (.iastore, 1) := by decide +kernel
theorem dX0_copy_84 : decode cX0_copy 84 = .ok (.aload_n 0, 1) := by decide +kernel
theorem dX0_copy_85 : decode cX0_copy 85 = .ok (.getfield 25, 3) := by decide +kernel
theorem dX0_copy_88 : decode cX0_copy 88 = .ok (.iload_n 2, 1) := by decide +kernel
theorem dX0_copy_89 : decode cX0_copy 89 = .ok (.aload_n 1, 1) := by decide +kernel
theorem dX0_copy_90 : decode cX0_copy 90 = .ok (.getfield 25, 3) := by decide +kernel
theorem dX0_copy_93 : decode cX0_copy 93 = .ok (.iload_n 2, 1) := by decide +kernel
theorem dX0_copy_94 : decode cX0_copy 94 = .ok (.iaload, 1) := by decide +kernel
theorem dX0_copy_95 : decode cX0_copy 95 = .ok (.iastore, 1) := by decide +kernel
theorem dX0_copy_96 : decode cX0_copy 96 = .ok (.aload_n 0, 1) := by decide +kernel
theorem dX0_copy_97 : decode cX0_copy 97 = .ok (.getfield 28, 3) := by decide +kernel
theorem dX0_copy_100 : decode cX0_copy 100 = .ok (.iload_n 2, 1) := by decide +kernel
theorem dX0_copy_101 : decode cX0_copy 101 = .ok (.aload_n 1, 1) := by decide +kernel
theorem dX0_copy_102 : decode cX0_copy 102 = .ok (.getfield 28, 3) := by decide +kernel
theorem dX0_copy_105 : decode cX0_copy 105 = .ok (.iload_n 2, 1) := by decide +kernel
theorem dX0_copy_106 : decode cX0_copy 106 = .ok (.iaload, 1) := by decide +kernel
theorem dX0_copy_107 : decode cX0_copy 107 = .ok (.iastore, 1) := by decide +kernel
theorem dX0_copy_108 : decode cX0_copy 108 = .ok (.aload_n 0, 1) := by decide +kernel
theorem dX0_copy_109 : decode cX0_copy 109 = .ok (.getfield 31, 3) := by decide +kernel
theorem dX0_copy_112 : decode cX0_copy 112 = .ok (.iload_n 2, 1) := by decide +kernel
theorem dX0_copy_113 : decode cX0_copy 113 = .ok (.aload_n 1, 1) := by decide +kernel
theorem dX0_copy_114 : decode cX0_copy 114 = .ok (.getfield 31, 3) := by decide +kernel
theorem dX0_copy_117 : decode cX0_copy 117 = .ok (.iload_n 2, 1) := by decide +kernel
theorem dX0_copy_118 : decode cX0_copy 118 = .ok (.laload, 1) := by decide +kernel
theorem dX0_copy_119 : decode cX0_copy 119 = .ok (.lastore, 1) := by decide +kernel
theorem dX0_copy_120 : decode cX0_copy 120 = .ok (.iinc 2 1, 3) := by decide +kernel
theorem dX0_copy_123 : decode cX0_copy 123 = .ok (.goto (-81), 3) := by decide +kernel
theorem dX0_copy_126 : decode cX0_copy 126 = .ok (.return_, 1) := by decide +kernel
set_option maxRecDepth 20000 in
theorem ggX0_addSaying_X5_worldsOfSaying : GoodIn wsX0_addSaying wsX5_worldsOfSaying := goodIn_r _ [10, 11, 12, 13, 9, 14, 15] (by decide +kernel) (by decide +kernel)
set_option maxRecDepth 20000 in
theorem gX0_addSaying_X5_worldsOfSaying_n47 : GoodIn wsX0_addSaying (wsX5_worldsOfSaying) := ggX0_addSaying_X5_worldsOfSaying
theorem dX0_addSaying_0 : decode cX0_addSaying 0 = .ok (.aload_n 0, 1) := by decide +kernel
theorem dX0_addSaying_1 : decode cX0_addSaying 1 = .ok (.getfield 38, 3) := by decide +kernel
theorem dX0_addSaying_4 : decode cX0_addSaying 4 = .ok (.bipush 9, 2) := by decide +kernel
theorem dX0_addSaying_6 : decode cX0_addSaying 6 = .ok (.if_icmp .lt 6, 3) := by decide +kernel
theorem dX0_addSaying_9 : decode cX0_addSaying 9 = .ok (.bipush (-3), 2) := by decide +kernel
theorem dX0_addSaying_11 : decode cX0_addSaying 11 = .ok (.ireturn, 1) := by decide +kernel
theorem dX0_addSaying_12 : decode cX0_addSaying 12 = .ok (.aload_n 0, 1) := by decide +kernel
theorem dX0_addSaying_13 : decode cX0_addSaying 13 = .ok (.getfield 38, 3) := by decide +kernel
theorem dX0_addSaying_16 : decode cX0_addSaying 16 = .ok (.istore 5, 2) := by decide +kernel
theorem dX0_addSaying_18 : decode cX0_addSaying 18 = .ok (.aload_n 0, 1) := by decide +kernel
theorem dX0_addSaying_19 : decode cX0_addSaying 19 = .ok (.getfield 15, 3) := by decide +kernel
theorem dX0_addSaying_22 : decode cX0_addSaying 22 = .ok (.iload 5, 2) := by decide +kernel
theorem dX0_addSaying_24 : decode cX0_addSaying 24 = .ok (.iload_n 1, 1) := by decide +kernel
theorem dX0_addSaying_25 : decode cX0_addSaying 25 = .ok (.iastore, 1) := by decide +kernel
theorem dX0_addSaying_26 : decode cX0_addSaying 26 = .ok (.aload_n 0, 1) := by decide +kernel
theorem dX0_addSaying_27 : decode cX0_addSaying 27 = .ok (.getfield 19, 3) := by decide +kernel
theorem dX0_addSaying_30 : decode cX0_addSaying 30 = .ok (.iload 5, 2) := by decide +kernel
theorem dX0_addSaying_32 : decode cX0_addSaying 32 = .ok (.iload_n 2, 1) := by decide +kernel
theorem dX0_addSaying_33 : decode cX0_addSaying 33 = .ok (.iastore, 1) := by decide +kernel
theorem dX0_addSaying_34 : decode cX0_addSaying 34 = .ok (.aload_n 0, 1) := by decide +kernel
theorem dX0_addSaying_35 : decode cX0_addSaying 35 = .ok (.getfield 22, 3) := by decide +kernel
theorem dX0_addSaying_38 : decode cX0_addSaying 38 = .ok (.iload 5, 2) := by decide +kernel
theorem dX0_addSaying_40 : decode cX0_addSaying 40 = .ok (.iload_n 3, 1) := by decide +kernel
theorem dX0_addSaying_41 : decode cX0_addSaying 41 = .ok (.iastore, 1) := by decide +kernel
theorem dX0_addSaying_42 : decode cX0_addSaying 42 = .ok (.aload_n 0, 1) := by decide +kernel
theorem dX0_addSaying_43 : decode cX0_addSaying 43 = .ok (.getfield 25, 3) := by decide +kernel
theorem dX0_addSaying_46 : decode cX0_addSaying 46 = .ok (.iload 5, 2) := by decide +kernel
theorem dX0_addSaying_48 : decode cX0_addSaying 48 = .ok (.iload 4, 2) := by decide +kernel
theorem dX0_addSaying_50 : decode cX0_addSaying 50 = .ok (.iastore, 1) := by decide +kernel
theorem dX0_addSaying_51 : decode cX0_addSaying 51 = .ok (.aload_n 0, 1) := by decide +kernel
theorem dX0_addSaying_52 : decode cX0_addSaying 52 = .ok (.getfield 28, 3) := by decide +kernel
theorem dX0_addSaying_55 : decode cX0_addSaying 55 = .ok (.iload 5, 2) := by decide +kernel
theorem dX0_addSaying_57 : decode cX0_addSaying 57 = .ok (.iconst 0, 1) := by decide +kernel
theorem dX0_addSaying_58 : decode cX0_addSaying 58 = .ok (.iastore, 1) := by decide +kernel
theorem dX0_addSaying_59 : decode cX0_addSaying 59 = .ok (.aload_n 0, 1) := by decide +kernel
theorem dX0_addSaying_60 : decode cX0_addSaying 60 = .ok (.getfield 31, 3) := by decide +kernel
theorem dX0_addSaying_63 : decode cX0_addSaying 63 = .ok (.iload 5, 2) := by decide +kernel
theorem dX0_addSaying_65 : decode cX0_addSaying 65 = .ok (.iload_n 1, 1) := by decide +kernel
theorem dX0_addSaying_66 : decode cX0_addSaying 66 = .ok (.iload_n 2, 1) := by decide +kernel
theorem dX0_addSaying_67 : decode cX0_addSaying 67 = .ok (.iload_n 3, 1) := by decide +kernel
theorem dX0_addSaying_68 : decode cX0_addSaying 68 = .ok (.invokestatic 47, 3) := by decide +kernel
theorem dX0_addSaying_71 : decode cX0_addSaying 71 = .ok (.lastore, 1) := by decide +kernel
theorem dX0_addSaying_72 : decode cX0_addSaying 72 = .ok (.aload_n 0, 1) := by decide +kernel
theorem dX0_addSaying_73 : decode cX0_addSaying 73 = .ok (.dup, 1) := by decide +kernel
theorem dX0_addSaying_74 : decode cX0_addSaying 74 = .ok (.getfield 38, 3) := by decide +kernel
theorem dX0_addSaying_77 : decode cX0_addSaying 77 = .ok (.iconst 1, 1) := by decide +kernel
theorem dX0_addSaying_78 : decode cX0_addSaying 78 = .ok (.iadd, 1) := by decide +kernel
theorem dX0_addSaying_79 : decode cX0_addSaying 79 = .ok (.putfield 38, 3) := by decide +kernel
theorem dX0_addSaying_82 : decode cX0_addSaying 82 = .ok (.iload 5, 2) := by decide +kernel
theorem dX0_addSaying_84 : decode cX0_addSaying 84 = .ok (.ireturn, 1) := by decide +kernel
theorem dX0_isThere_0 : decode cX0_isThere 0 = .ok (.iload_n 1, 1) := by decide +kernel
theorem dX0_isThere_1 : decode cX0_isThere 1 = .ok (.ifCond .lt 21, 3) := by decide +kernel
theorem dX0_isThere_4 : decode cX0_isThere 4 = .ok (.iload_n 1, 1) := by decide +kernel
theorem dX0_isThere_5 : decode cX0_isThere 5 = .ok (.aload_n 0, 1) := by decide +kernel
theorem dX0_isThere_6 : decode cX0_isThere 6 = .ok (.getfield 38, 3) := by decide +kernel
theorem dX0_isThere_9 : decode cX0_isThere 9 = .ok (.if_icmp .ge 13, 3) := by decide +kernel
theorem dX0_isThere_12 : decode cX0_isThere 12 = .ok (.iload_n 1, 1) := by decide +kernel
theorem dX0_isThere_13 : decode cX0_isThere 13 = .ok (.bipush 9, 2) := by decide +kernel
theorem dX0_isThere_15 : decode cX0_isThere 15 = .ok (.if_icmp .ge 7, 3) := by decide +kernel
theorem dX0_isThere_18 : decode cX0_isThere 18 = .ok (.iconst 1, 1) := by decide +kernel
theorem dX0_isThere_19 : decode cX0_isThere 19 = .ok (.goto 4, 3) := by decide +kernel
theorem dX0_isThere_22 : decode cX0_isThere 22 = .ok (.iconst 0, 1) := by decide +kernel
theorem dX0_isThere_23 : decode cX0_isThere 23 = .ok (.ireturn, 1) := by decide +kernel
theorem dX0_isWithdrawn_0 : decode cX0_isWithdrawn 0 = .ok (.aload_n 0, 1) := by decide +kernel
theorem dX0_isWithdrawn_1 : decode cX0_isWithdrawn 1 = .ok (.getfield 41, 3) := by decide +kernel
theorem dX0_isWithdrawn_4 : decode cX0_isWithdrawn 4 = .ok (.iload_n 1, 1) := by decide +kernel
theorem dX0_isWithdrawn_5 : decode cX0_isWithdrawn 5 = .ok (.ishr, 1) := by decide +kernel
theorem dX0_isWithdrawn_6 : decode cX0_isWithdrawn 6 = .ok (.iconst 1, 1) := by decide +kernel
theorem dX0_isWithdrawn_7 : decode cX0_isWithdrawn 7 = .ok (.iand, 1) := by decide +kernel
theorem dX0_isWithdrawn_8 : decode cX0_isWithdrawn 8 = .ok (.iconst 1, 1) := by decide +kernel
theorem dX0_isWithdrawn_9 : decode cX0_isWithdrawn 9 = .ok (.if_icmp .ne 7, 3) := by decide +kernel
theorem dX0_isWithdrawn_12 : decode cX0_isWithdrawn 12 = .ok (.iconst 1, 1) := by decide +kernel
theorem dX0_isWithdrawn_13 : decode cX0_isWithdrawn 13 = .ok (.goto 4, 3) := by decide +kernel
theorem dX0_isWithdrawn_16 : decode cX0_isWithdrawn 16 = .ok (.iconst 0, 1) := by decide +kernel
theorem dX0_isWithdrawn_17 : decode cX0_isWithdrawn 17 = .ok (.ireturn, 1) := by decide +kernel
set_option maxRecDepth 20000 in
theorem ggX0_isSoIn_X0_isThere : GoodIn wsX0_isSoIn wsX0_isThere := goodIn_r _ [6, 7, 11, 12, 13, 14, 15, 16, 17, 18, 19, 20, 21] (by decide +kernel) (by decide +kernel)
set_option maxRecDepth 20000 in
theorem gX0_isSoIn_X0_isThere : GoodIn wsX0_isSoIn (wsV RX0 51 RX0 yX0_isThere wsX0_isThere) := goodIn_app (goodIn_of _ (by decide +kernel)) ggX0_isSoIn_X0_isThere
set_option maxRecDepth 20000 in
theorem ggX0_isSoIn_X5_isAmong : GoodIn wsX0_isSoIn wsX5_isAmong := goodIn_r _ [10] (by decide +kernel) (by decide +kernel)
set_option maxRecDepth 20000 in
theorem gX0_isSoIn_X5_isAmong_n55 : GoodIn wsX0_isSoIn (wsX5_isAmong) := ggX0_isSoIn_X5_isAmong
theorem dX0_isSoIn_0 : decode cX0_isSoIn 0 = .ok (.aload_n 0, 1) := by decide +kernel
theorem dX0_isSoIn_1 : decode cX0_isSoIn 1 = .ok (.iload_n 1, 1) := by decide +kernel
theorem dX0_isSoIn_2 : decode cX0_isSoIn 2 = .ok (.invokevirtual 51, 3) := by decide +kernel
theorem dX0_isSoIn_5 : decode cX0_isSoIn 5 = .ok (.ifCond .eq 20, 3) := by decide +kernel
theorem dX0_isSoIn_8 : decode cX0_isSoIn 8 = .ok (.aload_n 0, 1) := by decide +kernel
theorem dX0_isSoIn_9 : decode cX0_isSoIn 9 = .ok (.getfield 31, 3) := by decide +kernel
theorem dX0_isSoIn_12 : decode cX0_isSoIn 12 = .ok (.iload_n 1, 1) := by decide +kernel
theorem dX0_isSoIn_13 : decode cX0_isSoIn 13 = .ok (.laload, 1) := by decide +kernel
theorem dX0_isSoIn_14 : decode cX0_isSoIn 14 = .ok (.iload_n 2, 1) := by decide +kernel
theorem dX0_isSoIn_15 : decode cX0_isSoIn 15 = .ok (.invokestatic 55, 3) := by decide +kernel
theorem dX0_isSoIn_18 : decode cX0_isSoIn 18 = .ok (.ifCond .eq 7, 3) := by decide +kernel
theorem dX0_isSoIn_21 : decode cX0_isSoIn 21 = .ok (.iconst 1, 1) := by decide +kernel
theorem dX0_isSoIn_22 : decode cX0_isSoIn 22 = .ok (.goto 4, 3) := by decide +kernel
theorem dX0_isSoIn_25 : decode cX0_isSoIn 25 = .ok (.iconst 0, 1) := by decide +kernel
theorem dX0_isSoIn_26 : decode cX0_isSoIn 26 = .ok (.ireturn, 1) := by decide +kernel
set_option maxRecDepth 20000 in
theorem ggX0_hasPoliceman_X0_isThere : GoodIn wsX0_hasPoliceman wsX0_isThere := goodIn_r _ [7, 8, 17, 18, 19, 20, 21, 22, 23, 24, 25, 26, 27] (by decide +kernel) (by decide +kernel)
set_option maxRecDepth 20000 in
theorem gX0_hasPoliceman_X0_isThere : GoodIn wsX0_hasPoliceman (wsV RX0 51 RX0 yX0_isThere wsX0_isThere) := goodIn_app (goodIn_of _ (by decide +kernel)) ggX0_hasPoliceman_X0_isThere
set_option maxRecDepth 20000 in
theorem ggX0_hasPoliceman_X0_isWithdrawn : GoodIn wsX0_hasPoliceman wsX0_isWithdrawn := goodIn_r _ [12, 13, 17, 18, 19, 20, 21, 22, 23, 24, 25, 26, 27] (by decide +kernel) (by decide +kernel)
set_option maxRecDepth 20000 in
theorem gX0_hasPoliceman_X0_isWithdrawn : GoodIn wsX0_hasPoliceman (wsV RX0 59 RX0 yX0_isWithdrawn wsX0_isWithdrawn) := goodIn_app (goodIn_of _ (by decide +kernel)) ggX0_hasPoliceman_X0_isWithdrawn
set_option maxRecDepth 20000 in
theorem ggX0_hasPoliceman_X5_isAmong : GoodIn wsX0_hasPoliceman wsX5_isAmong := goodIn_r _ [16] (by decide +kernel) (by decide +kernel)
set_option maxRecDepth 20000 in
theorem gX0_hasPoliceman_X5_isAmong_n55 : GoodIn wsX0_hasPoliceman (wsX5_isAmong) := ggX0_hasPoliceman_X5_isAmong
theorem dX0_hasPoliceman_0 : decode cX0_hasPoliceman 0 = .ok (.aload_n 0, 1) := by decide +kernel
theorem dX0_hasPoliceman_1 : decode cX0_hasPoliceman 1 = .ok (.iload_n 1, 1) := by decide +kernel
theorem dX0_hasPoliceman_2 : decode cX0_hasPoliceman 2 = .ok (.invokevirtual 51, 3) := by decide +kernel
theorem dX0_hasPoliceman_5 : decode cX0_hasPoliceman 5 = .ok (.ifCond .eq 31, 3) := by decide +kernel
theorem dX0_hasPoliceman_8 : decode cX0_hasPoliceman 8 = .ok (.aload_n 0, 1) := by decide +kernel
theorem dX0_hasPoliceman_9 : decode cX0_hasPoliceman 9 = .ok (.iload_n 1, 1) := by decide +kernel
theorem dX0_hasPoliceman_10 : decode cX0_hasPoliceman 10 = .ok (.invokevirtual 59, 3) := by decide +kernel
theorem dX0_hasPoliceman_13 : decode cX0_hasPoliceman 13 = .ok (.ifCond .ne 23, 3) := by decide +kernel
theorem dX0_hasPoliceman_16 : decode cX0_hasPoliceman 16 = .ok (.aload_n 0, 1) := by decide +kernel
theorem dX0_hasPoliceman_17 : decode cX0_hasPoliceman 17 = .ok (.getfield 31, 3) := by decide +kernel
theorem dX0_hasPoliceman_20 : decode cX0_hasPoliceman 20 = .ok (.iload_n 1, 1) := by decide +kernel
theorem dX0_hasPoliceman_21 : decode cX0_hasPoliceman 21 = .ok (.laload, 1) := by decide +kernel
theorem dX0_hasPoliceman_22 : decode cX0_hasPoliceman 22 = .ok (.aload_n 0, 1) := by decide +kernel
theorem dX0_hasPoliceman_23 : decode cX0_hasPoliceman 23 = .ok (.getfield 35, 3) := by decide +kernel
theorem dX0_hasPoliceman_26 : decode cX0_hasPoliceman 26 = .ok (.invokestatic 55, 3) := by decide +kernel
theorem dX0_hasPoliceman_29 : decode cX0_hasPoliceman 29 = .ok (.ifCond .ne 7, 3) := by decide +kernel
theorem dX0_hasPoliceman_32 : decode cX0_hasPoliceman 32 = .ok (.iconst 1, 1) := by decide +kernel
theorem dX0_hasPoliceman_33 : decode cX0_hasPoliceman 33 = .ok (.goto 4, 3) := by decide +kernel
theorem dX0_hasPoliceman_36 : decode cX0_hasPoliceman 36 = .ok (.iconst 0, 1) := by decide +kernel
theorem dX0_hasPoliceman_37 : decode cX0_hasPoliceman 37 = .ok (.ireturn, 1) := by decide +kernel
set_option maxRecDepth 20000 in
theorem ggX0_hasServed_X0_isThere : GoodIn wsX0_hasServed wsX0_isThere := goodIn_r _ [7, 8, 23, 24, 25, 26, 27, 28, 29, 30, 31, 32, 33] (by decide +kernel) (by decide +kernel)
set_option maxRecDepth 20000 in
theorem gX0_hasServed_X0_isThere : GoodIn wsX0_hasServed (wsV RX0 51 RX0 yX0_isThere wsX0_isThere) := goodIn_app (goodIn_of _ (by decide +kernel)) ggX0_hasServed_X0_isThere
set_option maxRecDepth 20000 in
theorem ggX0_hasServed_X0_hasPoliceman : GoodIn wsX0_hasServed wsX0_hasPoliceman := goodIn_r _ [12, 13, 14, 3, 4, 5, 6, 7, 8, 15, 16, 17, 18, 19, 20, 21, 22, 23, 24, 25, 26, 27, 28, 29, 30, 31, 32, 33] (by decide +kernel) (by decide +kernel)
set_option maxRecDepth 20000 in
theorem gX0_hasServed_X0_hasPoliceman : GoodIn wsX0_hasServed (wsV RX0 62 RX0 yX0_hasPoliceman wsX0_hasPoliceman) := goodIn_app (goodIn_of _ (by decide +kernel)) ggX0_hasServed_X0_hasPoliceman
theorem dX0_hasServed_0 : decode cX0_hasServed 0 = .ok (.aload_n 0, 1) := by decide +kernel
theorem dX0_hasServed_1 : decode cX0_hasServed 1 = .ok (.iload_n 1, 1) := by decide +kernel
theorem dX0_hasServed_2 : decode cX0_hasServed 2 = .ok (.invokevirtual 51, 3) := by decide +kernel
theorem dX0_hasServed_5 : decode cX0_hasServed 5 = .ok (.ifCond .eq 28, 3) := by decide +kernel
theorem dX0_hasServed_8 : decode cX0_hasServed 8 = .ok (.aload_n 0, 1) := by decide +kernel
theorem dX0_hasServed_9 : decode cX0_hasServed 9 = .ok (.iload_n 1, 1) := by decide +kernel
theorem dX0_hasServed_10 : decode cX0_hasServed 10 = .ok (.invokevirtual 62, 3) := by decide +kernel
theorem dX0_hasServed_13 : decode cX0_hasServed 13 = .ok (.ifCond .eq 20, 3) := by decide +kernel
theorem dX0_hasServed_16 : decode cX0_hasServed 16 = .ok (.aload_n 0, 1) := by decide +kernel
theorem dX0_hasServed_17 : decode cX0_hasServed 17 = .ok (.getfield 28, 3) := by decide +kernel
theorem dX0_hasServed_20 : decode cX0_hasServed 20 = .ok (.iload_n 1, 1) := by decide +kernel
theorem dX0_hasServed_21 : decode cX0_hasServed 21 = .ok (.iaload, 1) := by decide +kernel
theorem dX0_hasServed_22 : decode cX0_hasServed 22 = .ok (.aload_n 0, 1) := by decide +kernel
theorem dX0_hasServed_23 : decode cX0_hasServed 23 = .ok (.getfield 9, 3) := by decide +kernel
theorem dX0_hasServed_26 : decode cX0_hasServed 26 = .ok (.if_icmp .lt 7, 3) := by decide +kernel
theorem dX0_hasServed_29 : decode cX0_hasServed 29 = .ok (.iconst 1, 1) := by decide +kernel
theorem dX0_hasServed_30 : decode cX0_hasServed 30 = .ok (.goto 4, 3) := by decide +kernel
theorem dX0_hasServed_33 : decode cX0_hasServed 33 = .ok (.iconst 0, 1) := by decide +kernel
theorem dX0_hasServed_34 : decode cX0_hasServed 34 = .ok (.ireturn, 1) := by decide +kernel
set_option maxRecDepth 20000 in
theorem ggX0_canBeWithdrawn_X0_isThere : GoodIn wsX0_canBeWithdrawn wsX0_isThere := goodIn_r _ [5, 6, 27, 28, 29, 30, 31, 32, 33, 34, 35, 36, 37] (by decide +kernel) (by decide +kernel)
set_option maxRecDepth 20000 in
theorem gX0_canBeWithdrawn_X0_isThere : GoodIn wsX0_canBeWithdrawn (wsV RX0 51 RX0 yX0_isThere wsX0_isThere) := goodIn_app (goodIn_of _ (by decide +kernel)) ggX0_canBeWithdrawn_X0_isThere
set_option maxRecDepth 20000 in
theorem ggX0_canBeWithdrawn_X0_isWithdrawn : GoodIn wsX0_canBeWithdrawn wsX0_isWithdrawn := goodIn_r _ [10, 11, 27, 28, 29, 30, 31, 32, 33, 34, 35, 36, 37] (by decide +kernel) (by decide +kernel)
set_option maxRecDepth 20000 in
theorem gX0_canBeWithdrawn_X0_isWithdrawn : GoodIn wsX0_canBeWithdrawn (wsV RX0 59 RX0 yX0_isWithdrawn wsX0_isWithdrawn) := goodIn_app (goodIn_of _ (by decide +kernel)) ggX0_canBeWithdrawn_X0_isWithdrawn
set_option maxRecDepth 20000 in
theorem ggX0_canBeWithdrawn_X0_hasServed : GoodIn wsX0_canBeWithdrawn wsX0_hasServed := goodIn_r _ [15, 16, 17, 1, 2, 3, 4, 5, 6, 18, 19, 20, 21, 22, 23, 7, 8, 9, 10, 11, 24, 25, 26, 27, 28, 29, 30, 31, 32, 33, 34, 35, 36, 37] (by decide +kernel) (by decide +kernel)
set_option maxRecDepth 20000 in
theorem gX0_canBeWithdrawn_X0_hasServed : GoodIn wsX0_canBeWithdrawn (wsV RX0 65 RX0 yX0_hasServed wsX0_hasServed) := goodIn_app (goodIn_of _ (by decide +kernel)) ggX0_canBeWithdrawn_X0_hasServed
theorem dX0_canBeWithdrawn_0 : decode cX0_canBeWithdrawn 0 = .ok (.aload_n 0, 1) := by decide +kernel
theorem dX0_canBeWithdrawn_1 : decode cX0_canBeWithdrawn 1 = .ok (.iload_n 1, 1) := by decide +kernel
theorem dX0_canBeWithdrawn_2 : decode cX0_canBeWithdrawn 2 = .ok (.invokevirtual 51, 3) := by decide +kernel
theorem dX0_canBeWithdrawn_5 : decode cX0_canBeWithdrawn 5 = .ok (.ifCond .eq 23, 3) := by decide +kernel
theorem dX0_canBeWithdrawn_8 : decode cX0_canBeWithdrawn 8 = .ok (.aload_n 0, 1) := by decide +kernel
theorem dX0_canBeWithdrawn_9 : decode cX0_canBeWithdrawn 9 = .ok (.iload_n 1, 1) := by decide +kernel
theorem dX0_canBeWithdrawn_10 : decode cX0_canBeWithdrawn 10 = .ok (.invokevirtual 59, 3) := by decide +kernel
theorem dX0_canBeWithdrawn_13 : decode cX0_canBeWithdrawn 13 = .ok (.ifCond .ne 15, 3) := by decide +kernel
theorem dX0_canBeWithdrawn_16 : decode cX0_canBeWithdrawn 16 = .ok (.aload_n 0, 1) := by decide +kernel
theorem dX0_canBeWithdrawn_17 : decode cX0_canBeWithdrawn 17 = .ok (.iload_n 1, 1) := by decide +kernel
theorem dX0_canBeWithdrawn_18 : decode cX0_canBeWithdrawn 18 = .ok (.invokevirtual 65, 3) := by decide +kernel
theorem dX0_canBeWithdrawn_21 : decode cX0_canBeWithdrawn 21 = .ok (.ifCond .ne 7, 3) := by decide +kernel
theorem dX0_canBeWithdrawn_24 : decode cX0_canBeWithdrawn 24 = .ok (.iconst 1, 1) := by decide +kernel
theorem dX0_canBeWithdrawn_25 : decode cX0_canBeWithdrawn 25 = .ok (.goto 4, 3) := by decide +kernel
theorem dX0_canBeWithdrawn_28 : decode cX0_canBeWithdrawn 28 = .ok (.iconst 0, 1) := by decide +kernel
theorem dX0_canBeWithdrawn_29 : decode cX0_canBeWithdrawn 29 = .ok (.ireturn, 1) := by decide +kernel
set_option maxRecDepth 20000 in
theorem ggX0_areClashing_X0_isThere : GoodIn wsX0_areClashing wsX0_isThere := goodIn_r _ [6, 7, 8, 9, 10, 11, 12, 13, 14, 15, 16, 17, 18] (by decide +kernel) (by decide +kernel)
set_option maxRecDepth 20000 in
theorem gX0_areClashing_X0_isThere : GoodIn wsX0_areClashing (wsV RX0 51 RX0 yX0_isThere wsX0_isThere) := goodIn_app (goodIn_of _ (by decide +kernel)) ggX0_areClashing_X0_isThere
theorem dX0_areClashing_0 : decode cX0_areClashing 0 = .ok (.aload_n 0, 1) := by decide +kernel
theorem dX0_areClashing_1 : decode cX0_areClashing 1 = .ok (.iload_n 1, 1) := by decide +kernel
theorem dX0_areClashing_2 : decode cX0_areClashing 2 = .ok (.invokevirtual 51, 3) := by decide +kernel
theorem dX0_areClashing_5 : decode cX0_areClashing 5 = .ok (.ifCond .eq 33, 3) := by decide +kernel
theorem dX0_areClashing_8 : decode cX0_areClashing 8 = .ok (.aload_n 0, 1) := by decide +kernel
theorem dX0_areClashing_9 : decode cX0_areClashing 9 = .ok (.iload_n 2, 1) := by decide +kernel
theorem dX0_areClashing_10 : decode cX0_areClashing 10 = .ok (.invokevirtual 51, 3) := by decide +kernel
theorem dX0_areClashing_13 : decode cX0_areClashing 13 = .ok (.ifCond .eq 25, 3) := by decide +kernel
theorem dX0_areClashing_16 : decode cX0_areClashing 16 = .ok (.aload_n 0, 1) := by decide +kernel
theorem dX0_areClashing_17 : decode cX0_areClashing 17 = .ok (.getfield 31, 3) := by decide +kernel
theorem dX0_areClashing_20 : decode cX0_areClashing 20 = .ok (.iload_n 1, 1) := by decide +kernel
theorem dX0_areClashing_21 : decode cX0_areClashing 21 = .ok (.laload, 1) := by decide +kernel
theorem dX0_areClashing_22 : decode cX0_areClashing 22 = .ok (.aload_n 0, 1) := by decide +kernel
theorem dX0_areClashing_23 : decode cX0_areClashing 23 = .ok (.getfield 31, 3) := by decide +kernel
theorem dX0_areClashing_26 : decode cX0_areClashing 26 = .ok (.iload_n 2, 1) := by decide +kernel
theorem dX0_areClashing_27 : decode cX0_areClashing 27 = .ok (.laload, 1) := by decide +kernel
theorem dX0_areClashing_28 : decode cX0_areClashing 28 = .ok (.land, 1) := by decide +kernel
theorem dX0_areClashing_29 : decode cX0_areClashing 29 = .ok (.lconst 0, 1) := by decide +kernel
theorem dX0_areClashing_30 : decode cX0_areClashing 30 = .ok (.lcmp, 1) := by decide +kernel
theorem dX0_areClashing_31 : decode cX0_areClashing 31 = .ok (.ifCond .ne 7, 3) := by decide +kernel
theorem dX0_areClashing_34 : decode cX0_areClashing 34 = .ok (.iconst 1, 1) := by decide +kernel
theorem dX0_areClashing_35 : decode cX0_areClashing 35 = .ok (.goto 4, 3) := by decide +kernel
theorem dX0_areClashing_38 : decode cX0_areClashing 38 = .ok (.iconst 0, 1) := by decide +kernel
theorem dX0_areClashing_39 : decode cX0_areClashing 39 = .ok (.ireturn, 1) := by decide +kernel
set_option maxRecDepth 20000 in
theorem ggX0_mayMarry_X0_isThere : GoodIn wsX0_mayMarry wsX0_isThere := goodIn_r _ [6, 7, 13, 14, 15, 16, 17, 18, 19, 20, 21, 22, 23] (by decide +kernel) (by decide +kernel)
set_option maxRecDepth 20000 in
theorem gX0_mayMarry_X0_isThere : GoodIn wsX0_mayMarry (wsV RX0 51 RX0 yX0_isThere wsX0_isThere) := goodIn_app (goodIn_of _ (by decide +kernel)) ggX0_mayMarry_X0_isThere
set_option maxRecDepth 20000 in
theorem ggX0_mayMarry_X0_areClashing : GoodIn wsX0_mayMarry wsX0_areClashing := goodIn_r _ [11, 12, 2, 3, 4, 5, 6, 7, 13, 14, 15, 16, 17, 18, 19, 20, 21, 22, 23] (by decide +kernel) (by decide +kernel)
set_option maxRecDepth 20000 in
theorem gX0_mayMarry_X0_areClashing : GoodIn wsX0_mayMarry (wsV RX0 68 RX0 yX0_areClashing wsX0_areClashing) := goodIn_app (goodIn_of _ (by decide +kernel)) ggX0_mayMarry_X0_areClashing
theorem dX0_mayMarry_0 : decode cX0_mayMarry 0 = .ok (.aload_n 0, 1) := by decide +kernel
theorem dX0_mayMarry_1 : decode cX0_mayMarry 1 = .ok (.iload_n 1, 1) := by decide +kernel
theorem dX0_mayMarry_2 : decode cX0_mayMarry 2 = .ok (.invokevirtual 51, 3) := by decide +kernel
theorem dX0_mayMarry_5 : decode cX0_mayMarry 5 = .ok (.ifCond .eq 39, 3) := by decide +kernel
theorem dX0_mayMarry_8 : decode cX0_mayMarry 8 = .ok (.aload_n 0, 1) := by decide +kernel
theorem dX0_mayMarry_9 : decode cX0_mayMarry 9 = .ok (.iload_n 2, 1) := by decide +kernel
theorem dX0_mayMarry_10 : decode cX0_mayMarry 10 = .ok (.invokevirtual 51, 3) := by decide +kernel
theorem dX0_mayMarry_13 : decode cX0_mayMarry 13 = .ok (.ifCond .eq 31, 3) := by decide +kernel
theorem dX0_mayMarry_16 : decode cX0_mayMarry 16 = .ok (.aload_n 0, 1) := by decide +kernel
theorem dX0_mayMarry_17 : decode cX0_mayMarry 17 = .ok (.getfield 25, 3) := by decide +kernel
theorem dX0_mayMarry_20 : decode cX0_mayMarry 20 = .ok (.iload_n 1, 1) := by decide +kernel
theorem dX0_mayMarry_21 : decode cX0_mayMarry 21 = .ok (.iaload, 1) := by decide +kernel
theorem dX0_mayMarry_22 : decode cX0_mayMarry 22 = .ok (.aload_n 0, 1) := by decide +kernel
theorem dX0_mayMarry_23 : decode cX0_mayMarry 23 = .ok (.getfield 25, 3) := by decide +kernel
theorem dX0_mayMarry_26 : decode cX0_mayMarry 26 = .ok (.iload_n 2, 1) := by decide +kernel
theorem dX0_mayMarry_27 : decode cX0_mayMarry 27 = .ok (.iaload, 1) := by decide +kernel
theorem dX0_mayMarry_28 : decode cX0_mayMarry 28 = .ok (.if_icmp .eq 16, 3) := by decide +kernel
theorem dX0_mayMarry_31 : decode cX0_mayMarry 31 = .ok (.aload_n 0, 1) := by decide +kernel
theorem dX0_mayMarry_32 : decode cX0_mayMarry 32 = .ok (.iload_n 1, 1) := by decide +kernel
theorem dX0_mayMarry_33 : decode cX0_mayMarry 33 = .ok (.iload_n 2, 1) := by decide +kernel
theorem dX0_mayMarry_34 : decode cX0_mayMarry 34 = .ok (.invokevirtual 68, 3) := by decide +kernel
theorem dX0_mayMarry_37 : decode cX0_mayMarry 37 = .ok (.ifCond .ne 7, 3) := by decide +kernel
theorem dX0_mayMarry_40 : decode cX0_mayMarry 40 = .ok (.iconst 1, 1) := by decide +kernel
theorem dX0_mayMarry_41 : decode cX0_mayMarry 41 = .ok (.goto 4, 3) := by decide +kernel
theorem dX0_mayMarry_44 : decode cX0_mayMarry 44 = .ok (.iconst 0, 1) := by decide +kernel
theorem dX0_mayMarry_45 : decode cX0_mayMarry 45 = .ok (.ireturn, 1) := by decide +kernel
theorem dX0_standing_0 : decode cX0_standing 0 = .ok (.iconst 1, 1) := by decide +kernel
theorem dX0_standing_1 : decode cX0_standing 1 = .ok (.aload_n 0, 1) := by decide +kernel
theorem dX0_standing_2 : decode cX0_standing 2 = .ok (.getfield 38, 3) := by decide +kernel
theorem dX0_standing_5 : decode cX0_standing 5 = .ok (.ishl, 1) := by decide +kernel
theorem dX0_standing_6 : decode cX0_standing 6 = .ok (.iconst 1, 1) := by decide +kernel
theorem dX0_standing_7 : decode cX0_standing 7 = .ok (.isub, 1) := by decide +kernel
theorem dX0_standing_8 : decode cX0_standing 8 = .ok (.aload_n 0, 1) := by decide +kernel
theorem dX0_standing_9 : decode cX0_standing 9 = .ok (.getfield 41, 3) := by decide +kernel
theorem dX0_standing_12 : decode cX0_standing 12 = .ok (.iconst (-1), 1) := by decide +kernel
theorem dX0_standing_13 : decode cX0_standing 13 = .ok (.ixor, 1) := by decide +kernel
theorem dX0_standing_14 : decode cX0_standing 14 = .ok (.iand, 1) := by decide +kernel
theorem dX0_standing_15 : decode cX0_standing 15 = .ok (.ireturn, 1) := by decide +kernel
set_option maxRecDepth 20000 in
theorem ggX0_liesIn_X0_isWithdrawn : GoodIn wsX0_liesIn wsX0_isWithdrawn := goodIn_r _ [6, 7, 20, 21, 22, 23, 24, 25, 26, 27, 28, 29, 30] (by decide +kernel) (by decide +kernel)
set_option maxRecDepth 20000 in
theorem gX0_liesIn_X0_isWithdrawn : GoodIn wsX0_liesIn (wsV RX0 59 RX0 yX0_isWithdrawn wsX0_isWithdrawn) := goodIn_app (goodIn_of _ (by decide +kernel)) ggX0_liesIn_X0_isWithdrawn
set_option maxRecDepth 20000 in
theorem ggX0_liesIn_X0_isSoIn : GoodIn wsX0_liesIn wsX0_isSoIn := goodIn_r _ [11, 12, 13, 14, 15, 5, 16, 1, 17, 18, 19, 20, 21, 22, 23, 24, 25, 26, 27, 28, 29, 30] (by decide +kernel) (by decide +kernel)
set_option maxRecDepth 20000 in
theorem gX0_liesIn_X0_isSoIn : GoodIn wsX0_liesIn (wsV RX0 72 RX0 yX0_isSoIn wsX0_isSoIn) := goodIn_app (goodIn_of _ (by decide +kernel)) ggX0_liesIn_X0_isSoIn
theorem dX0_liesIn_0 : decode cX0_liesIn 0 = .ok (.iconst 0, 1) := by decide +kernel
theorem dX0_liesIn_1 : decode cX0_liesIn 1 = .ok (.istore_n 2, 1) := by decide +kernel
theorem dX0_liesIn_2 : decode cX0_liesIn 2 = .ok (.iconst 0, 1) := by decide +kernel
theorem dX0_liesIn_3 : decode cX0_liesIn 3 = .ok (.istore_n 3, 1) := by decide +kernel
theorem dX0_liesIn_4 : decode cX0_liesIn 4 = .ok (.iload_n 3, 1) := by decide +kernel
theorem dX0_liesIn_5 : decode cX0_liesIn 5 = .ok (.aload_n 0, 1) := by decide +kernel
theorem dX0_liesIn_6 : decode cX0_liesIn 6 = .ok (.getfield 38, 3) := by decide +kernel
theorem dX0_liesIn_9 : decode cX0_liesIn 9 = .ok (.if_icmp .ge 32, 3) := by decide +kernel
theorem dX0_liesIn_12 : decode cX0_liesIn 12 = .ok (.aload_n 0, 1) := by decide +kernel
theorem dX0_liesIn_13 : decode cX0_liesIn 13 = .ok (.iload_n 3, 1) := by decide +kernel
theorem dX0_liesIn_14 : decode cX0_liesIn 14 = .ok (.invokevirtual 59, 3) := by decide +kernel
theorem dX0_liesIn_17 : decode cX0_liesIn 17 = .ok (.ifCond .ne 18, 3) := by decide +kernel
theorem dX0_liesIn_20 : decode cX0_liesIn 20 = .ok (.aload_n 0, 1) := by decide +kernel
theorem dX0_liesIn_21 : decode cX0_liesIn 21 = .ok (.iload_n 3, 1) := by decide +kernel
theorem dX0_liesIn_22 : decode cX0_liesIn 22 = .ok (.iload_n 1, 1) := by decide +kernel
theorem dX0_liesIn_23 : decode cX0_liesIn 23 = .ok (.invokevirtual 72, 3) := by decide +kernel
theorem dX0_liesIn_26 : decode cX0_liesIn 26 = .ok (.ifCond .ne 9, 3) := by decide +kernel
theorem dX0_liesIn_29 : decode cX0_liesIn 29 = .ok (.iload_n 2, 1) := by decide +kernel
theorem dX0_liesIn_30 : decode cX0_liesIn 30 = .ok (.iconst 1, 1) := by decide +kernel
theorem dX0_liesIn_31 : decode cX0_liesIn 31 = .ok (.iload_n 3, 1) := by decide +kernel
theorem dX0_liesIn_32 : decode cX0_liesIn 32 = .ok (.ishl, 1) := by decide +kernel
theorem dX0_liesIn_33 : decode cX0_liesIn 33 = .ok (.ior, 1) := by decide +kernel
theorem dX0_liesIn_34 : decode cX0_liesIn 34 = .ok (.istore_n 2, 1) := by decide +kernel
theorem dX0_liesIn_35 : decode cX0_liesIn 35 = .ok (.iinc 3 1, 3) := by decide +kernel
theorem dX0_liesIn_38 : decode cX0_liesIn 38 = .ok (.goto (-34), 3) := by decide +kernel
theorem dX0_liesIn_41 : decode cX0_liesIn 41 = .ok (.iload_n 2, 1) := by decide +kernel
theorem dX0_liesIn_42 : decode cX0_liesIn 42 = .ok (.ireturn, 1) := by decide +kernel
set_option maxRecDepth 20000 in
theorem ggX0_soAtOnce_X0_standing : GoodIn wsX0_soAtOnce wsX0_standing := goodIn_r _ [5, 6, 7, 35, 36, 37, 38, 39, 40, 41, 42, 43, 44, 45] (by decide +kernel) (by decide +kernel)
set_option maxRecDepth 20000 in
theorem gX0_soAtOnce_X0_standing : GoodIn wsX0_soAtOnce (wsV RX0 75 RX0 yX0_standing wsX0_standing) := goodIn_app (goodIn_of _ (by decide +kernel)) ggX0_soAtOnce_X0_standing
set_option maxRecDepth 20000 in
theorem ggX0_soAtOnce_X0_liesIn : GoodIn wsX0_soAtOnce wsX0_liesIn := goodIn_r _ [11, 6, 12, 13, 14, 4, 15, 7, 16, 17, 18, 19, 20, 21, 22, 23, 24, 25, 26, 27, 35, 36, 37, 38, 39, 40, 41, 42, 43, 44, 45] (by decide +kernel) (by decide +kernel)
set_option maxRecDepth 20000 in
theorem gX0_soAtOnce_X0_liesIn : GoodIn wsX0_soAtOnce (wsV RX0 79 RX0 yX0_liesIn wsX0_liesIn) := goodIn_app (goodIn_of _ (by decide +kernel)) ggX0_soAtOnce_X0_liesIn
set_option maxRecDepth 20000 in
theorem ggX0_soAtOnce_J6_bitCount_0f7a4 : GoodIn wsX0_soAtOnce wsJ6_bitCount_0f7a4 := goodIn_r _ [31, 32, 33, 34] (by decide +kernel) (by decide +kernel)
set_option maxRecDepth 20000 in
theorem gX0_soAtOnce_J6_bitCount_0f7a4 : GoodIn wsX0_soAtOnce (va_wsS RX0 83 yJ6_bitCount_0f7a4 wsJ6_bitCount_0f7a4) := goodIn_app (goodIn_of _ (by decide +kernel)) ggX0_soAtOnce_J6_bitCount_0f7a4
theorem dX0_soAtOnce_0 : decode cX0_soAtOnce 0 = .ok (.aload_n 0, 1) := by decide +kernel
theorem dX0_soAtOnce_1 : decode cX0_soAtOnce 1 = .ok (.invokevirtual 75, 3) := by decide +kernel
theorem dX0_soAtOnce_4 : decode cX0_soAtOnce 4 = .ok (.aload_n 0, 1) := by decide +kernel
theorem dX0_soAtOnce_5 : decode cX0_soAtOnce 5 = .ok (.iload_n 1, 1) := by decide +kernel
theorem dX0_soAtOnce_6 : decode cX0_soAtOnce 6 = .ok (.invokevirtual 79, 3) := by decide +kernel
theorem dX0_soAtOnce_9 : decode cX0_soAtOnce 9 = .ok (.iconst (-1), 1) := by decide +kernel
theorem dX0_soAtOnce_10 : decode cX0_soAtOnce 10 = .ok (.ixor, 1) := by decide +kernel
theorem dX0_soAtOnce_11 : decode cX0_soAtOnce 11 = .ok (.iand, 1) := by decide +kernel
theorem dX0_soAtOnce_12 : decode cX0_soAtOnce 12 = .ok (.invokestatic 83, 3) := by decide +kernel
theorem dX0_soAtOnce_15 : decode cX0_soAtOnce 15 = .ok (.ireturn, 1) := by decide +kernel
set_option maxRecDepth 20000 in
theorem ggX0_liarsIn_X0_liesIn : GoodIn wsX0_liarsIn wsX0_liesIn := goodIn_r _ [7, 1, 8, 9, 10, 6, 11, 12, 13, 14, 15, 16, 17, 18, 19, 20, 21, 22, 23, 24, 34, 35, 36, 37, 38, 39, 40, 41, 42, 43, 44] (by decide +kernel) (by decide +kernel)
set_option maxRecDepth 20000 in
theorem gX0_liarsIn_X0_liesIn : GoodIn wsX0_liarsIn (wsV RX0 79 RX0 yX0_liesIn wsX0_liesIn) := goodIn_app (goodIn_of _ (by decide +kernel)) ggX0_liarsIn_X0_liesIn
set_option maxRecDepth 20000 in
theorem ggX0_liarsIn_X0_isThere : GoodIn wsX0_liarsIn wsX0_isThere := goodIn_r _ [21, 1, 34, 35, 36, 37, 38, 39, 40, 41, 42, 43, 44] (by decide +kernel) (by decide +kernel)
set_option maxRecDepth 20000 in
theorem gX0_liarsIn_X0_isThere : GoodIn wsX0_liarsIn (wsV RX0 51 RX0 yX0_isThere wsX0_isThere) := goodIn_app (goodIn_of _ (by decide +kernel)) ggX0_liarsIn_X0_isThere
set_option maxRecDepth 20000 in
theorem ggX0_liarsIn_X5_isBitOf : GoodIn wsX0_liarsIn wsX5_isBitOf := goodIn_r _ [26] (by decide +kernel) (by decide +kernel)
set_option maxRecDepth 20000 in
theorem gX0_liarsIn_X5_isBitOf_n88 : GoodIn wsX0_liarsIn (wsX5_isBitOf) := ggX0_liarsIn_X5_isBitOf
set_option maxRecDepth 20000 in
theorem ggX0_liarsIn_J6_bitCount_0f7a4 : GoodIn wsX0_liarsIn wsJ6_bitCount_0f7a4 := goodIn_r _ [30, 31, 32, 33] (by decide +kernel) (by decide +kernel)
set_option maxRecDepth 20000 in
theorem gX0_liarsIn_J6_bitCount_0f7a4 : GoodIn wsX0_liarsIn (va_wsS RX0 83 yJ6_bitCount_0f7a4 wsJ6_bitCount_0f7a4) := goodIn_app (goodIn_of _ (by decide +kernel)) ggX0_liarsIn_J6_bitCount_0f7a4
theorem dX0_liarsIn_0 : decode cX0_liarsIn 0 = .ok (.aload_n 0, 1) := by decide +kernel
theorem dX0_liarsIn_1 : decode cX0_liarsIn 1 = .ok (.iload_n 1, 1) := by decide +kernel
theorem dX0_liarsIn_2 : decode cX0_liarsIn 2 = .ok (.invokevirtual 79, 3) := by decide +kernel
theorem dX0_liarsIn_5 : decode cX0_liarsIn 5 = .ok (.istore_n 2, 1) := by decide +kernel
theorem dX0_liarsIn_6 : decode cX0_liarsIn 6 = .ok (.iconst 0, 1) := by decide +kernel
theorem dX0_liarsIn_7 : decode cX0_liarsIn 7 = .ok (.istore_n 3, 1) := by decide +kernel
theorem dX0_liarsIn_8 : decode cX0_liarsIn 8 = .ok (.iconst 0, 1) := by decide +kernel
theorem dX0_liarsIn_9 : decode cX0_liarsIn 9 = .ok (.istore 4, 2) := by decide +kernel
theorem dX0_liarsIn_11 : decode cX0_liarsIn 11 = .ok (.iload 4, 2) := by decide +kernel
theorem dX0_liarsIn_13 : decode cX0_liarsIn 13 = .ok (.aload_n 0, 1) := by decide +kernel
theorem dX0_liarsIn_14 : decode cX0_liarsIn 14 = .ok (.getfield 38, 3) := by decide +kernel
theorem dX0_liarsIn_17 : decode cX0_liarsIn 17 = .ok (.if_icmp .ge 39, 3) := by decide +kernel
theorem dX0_liarsIn_20 : decode cX0_liarsIn 20 = .ok (.aload_n 0, 1) := by decide +kernel
theorem dX0_liarsIn_21 : decode cX0_liarsIn 21 = .ok (.iload 4, 2) := by decide +kernel
theorem dX0_liarsIn_23 : decode cX0_liarsIn 23 = .ok (.invokevirtual 51, 3) := by decide +kernel
theorem dX0_liarsIn_26 : decode cX0_liarsIn 26 = .ok (.ifCond .eq 24, 3) := by decide +kernel
theorem dX0_liarsIn_29 : decode cX0_liarsIn 29 = .ok (.iload_n 2, 1) := by decide +kernel
theorem dX0_liarsIn_30 : decode cX0_liarsIn 30 = .ok (.iload 4, 2) := by decide +kernel
theorem dX0_liarsIn_32 : decode cX0_liarsIn 32 = .ok (.invokestatic 88, 3) := by decide +kernel
theorem dX0_liarsIn_35 : decode cX0_liarsIn 35 = .ok (.ifCond .eq 15, 3) := by decide +kernel
theorem dX0_liarsIn_38 : decode cX0_liarsIn 38 = .ok (.iload_n 3, 1) := by decide +kernel
theorem dX0_liarsIn_39 : decode cX0_liarsIn 39 = .ok (.iconst 1, 1) := by decide +kernel
theorem dX0_liarsIn_40 : decode cX0_liarsIn 40 = .ok (.aload_n 0, 1) := by decide +kernel
theorem dX0_liarsIn_41 : decode cX0_liarsIn 41 = .ok (.getfield 25, 3) := by decide +kernel
theorem dX0_liarsIn_44 : decode cX0_liarsIn 44 = .ok (.iload 4, 2) := by decide +kernel
theorem dX0_liarsIn_46 : decode cX0_liarsIn 46 = .ok (.iaload, 1) := by decide +kernel
theorem dX0_liarsIn_47 : decode cX0_liarsIn 47 = .ok (.ishl, 1) := by decide +kernel
theorem dX0_liarsIn_48 : decode cX0_liarsIn 48 = .ok (.ior, 1) := by decide +kernel
theorem dX0_liarsIn_49 : decode cX0_liarsIn 49 = .ok (.istore_n 3, 1) := by decide +kernel
theorem dX0_liarsIn_50 : decode cX0_liarsIn 50 = .ok (.iinc 4 1, 3) := by decide +kernel
theorem dX0_liarsIn_53 : decode cX0_liarsIn 53 = .ok (.goto (-42), 3) := by decide +kernel
theorem dX0_liarsIn_56 : decode cX0_liarsIn 56 = .ok (.iload_n 3, 1) := by decide +kernel
theorem dX0_liarsIn_57 : decode cX0_liarsIn 57 = .ok (.invokestatic 83, 3) := by decide +kernel
theorem dX0_liarsIn_60 : decode cX0_liarsIn 60 = .ok (.ireturn, 1) := by decide +kernel
set_option maxRecDepth 20000 in
theorem ggX0_policedWorlds_X0_isThere : GoodIn wsX0_policedWorlds wsX0_isThere := goodIn_r _ [7, 8, 14, 15, 16, 17, 18, 19, 20, 21, 22, 23, 24] (by decide +kernel) (by decide +kernel)
set_option maxRecDepth 20000 in
theorem gX0_policedWorlds_X0_isThere : GoodIn wsX0_policedWorlds (wsV RX0 51 RX0 yX0_isThere wsX0_isThere) := goodIn_app (goodIn_of _ (by decide +kernel)) ggX0_policedWorlds_X0_isThere
set_option maxRecDepth 20000 in
theorem ggX0_policedWorlds_X0_isWithdrawn : GoodIn wsX0_policedWorlds wsX0_isWithdrawn := goodIn_r _ [12, 13, 14, 15, 16, 17, 18, 19, 20, 21, 22, 23, 24] (by decide +kernel) (by decide +kernel)
set_option maxRecDepth 20000 in
theorem gX0_policedWorlds_X0_isWithdrawn : GoodIn wsX0_policedWorlds (wsV RX0 59 RX0 yX0_isWithdrawn wsX0_isWithdrawn) := goodIn_app (goodIn_of _ (by decide +kernel)) ggX0_policedWorlds_X0_isWithdrawn
theorem dX0_policedWorlds_0 : decode cX0_policedWorlds 0 = .ok (.aload_n 0, 1) := by decide +kernel
theorem dX0_policedWorlds_1 : decode cX0_policedWorlds 1 = .ok (.iload_n 1, 1) := by decide +kernel
theorem dX0_policedWorlds_2 : decode cX0_policedWorlds 2 = .ok (.invokevirtual 51, 3) := by decide +kernel
theorem dX0_policedWorlds_5 : decode cX0_policedWorlds 5 = .ok (.ifCond .eq 11, 3) := by decide +kernel
theorem dX0_policedWorlds_8 : decode cX0_policedWorlds 8 = .ok (.aload_n 0, 1) := by decide +kernel
theorem dX0_policedWorlds_9 : decode cX0_policedWorlds 9 = .ok (.iload_n 1, 1) := by decide +kernel
theorem dX0_policedWorlds_10 : decode cX0_policedWorlds 10 = .ok (.invokevirtual 59, 3) := by decide +kernel
theorem dX0_policedWorlds_13 : decode cX0_policedWorlds 13 = .ok (.ifCond .eq 7, 3) := by decide +kernel
theorem dX0_policedWorlds_16 : decode cX0_policedWorlds 16 = .ok (.lconst 0, 1) := by decide +kernel
theorem dX0_policedWorlds_17 : decode cX0_policedWorlds 17 = .ok (.goto 13, 3) := by decide +kernel
theorem dX0_policedWorlds_20 : decode cX0_policedWorlds 20 = .ok (.aload_n 0, 1) := by decide +kernel
theorem dX0_policedWorlds_21 : decode cX0_policedWorlds 21 = .ok (.getfield 31, 3) := by decide +kernel
theorem dX0_policedWorlds_24 : decode cX0_policedWorlds 24 = .ok (.iload_n 1, 1) := by decide +kernel
theorem dX0_policedWorlds_25 : decode cX0_policedWorlds 25 = .ok (.laload, 1) := by decide +kernel
theorem dX0_policedWorlds_26 : decode cX0_policedWorlds 26 = .ok (.ldc2_w 91, 3) := by decide +kernel
theorem dX0_policedWorlds_29 : decode cX0_policedWorlds 29 = .ok (.lxor, 1) := by decide +kernel
theorem dX0_policedWorlds_30 : decode cX0_policedWorlds 30 = .ok (.lreturn, 1) := by decide +kernel
set_option maxRecDepth 20000 in
theorem ggX0_policemen_X0_liesIn : GoodIn wsX0_policemen wsX0_liesIn := goodIn_r _ [6, 7, 8, 9, 10, 5, 11, 12, 13, 14, 15, 16, 17, 18, 19, 20, 21, 22, 23, 24, 32, 33, 34, 35, 36, 37, 38, 39, 40, 41, 42] (by decide +kernel) (by decide +kernel)
set_option maxRecDepth 20000 in
theorem gX0_policemen_X0_liesIn : GoodIn wsX0_policemen (wsV RX0 79 RX0 yX0_liesIn wsX0_liesIn) := goodIn_app (goodIn_of _ (by decide +kernel)) ggX0_policemen_X0_liesIn
set_option maxRecDepth 20000 in
theorem ggX0_policemen_J6_bitCount_0f7a4 : GoodIn wsX0_policemen wsJ6_bitCount_0f7a4 := goodIn_r _ [28, 29, 30, 31] (by decide +kernel) (by decide +kernel)
set_option maxRecDepth 20000 in
theorem gX0_policemen_J6_bitCount_0f7a4 : GoodIn wsX0_policemen (va_wsS RX0 83 yJ6_bitCount_0f7a4 wsJ6_bitCount_0f7a4) := goodIn_app (goodIn_of _ (by decide +kernel)) ggX0_policemen_J6_bitCount_0f7a4
theorem dX0_policemen_0 : decode cX0_policemen 0 = .ok (.aload_n 0, 1) := by decide +kernel
theorem dX0_policemen_1 : decode cX0_policemen 1 = .ok (.aload_n 0, 1) := by decide +kernel
theorem dX0_policemen_2 : decode cX0_policemen 2 = .ok (.getfield 35, 3) := by decide +kernel
theorem dX0_policemen_5 : decode cX0_policemen 5 = .ok (.invokevirtual 79, 3) := by decide +kernel
theorem dX0_policemen_8 : decode cX0_policemen 8 = .ok (.invokestatic 83, 3) := by decide +kernel
theorem dX0_policemen_11 : decode cX0_policemen 11 = .ok (.ireturn, 1) := by decide +kernel
set_option maxRecDepth 20000 in
theorem ggX0_policemenWhoServed_X0_hasServed : GoodIn wsX0_policemenWhoServed wsX0_hasServed := goodIn_r _ [6, 7, 8, 9, 10, 11, 5, 12, 1, 13, 14, 15, 16, 17, 18, 19, 20, 21, 22, 23, 24, 25, 26, 29, 30, 31, 32, 33, 34, 35, 36, 37, 38, 39] (by decide +kernel) (by decide +kernel)
set_option maxRecDepth 20000 in
theorem gX0_policemenWhoServed_X0_hasServed : GoodIn wsX0_policemenWhoServed (wsV RX0 65 RX0 yX0_hasServed wsX0_hasServed) := goodIn_app (goodIn_of _ (by decide +kernel)) ggX0_policemenWhoServed_X0_hasServed
set_option maxRecDepth 20000 in
theorem ggX0_policemenWhoServed_X5_asNumber : GoodIn wsX0_policemenWhoServed wsX5_asNumber := goodIn_r _ [28] (by decide +kernel) (by decide +kernel)
set_option maxRecDepth 20000 in
theorem gX0_policemenWhoServed_X5_asNumber_n93 : GoodIn wsX0_policemenWhoServed (wsX5_asNumber) := ggX0_policemenWhoServed_X5_asNumber
theorem dX0_policemenWhoServed_0 : decode cX0_policemenWhoServed 0 = .ok (.iconst 0, 1) := by decide +kernel
theorem dX0_policemenWhoServed_1 : decode cX0_policemenWhoServed 1 = .ok (.istore_n 1, 1) := by decide +kernel
theorem dX0_policemenWhoServed_2 : decode cX0_policemenWhoServed 2 = .ok (.iconst 0, 1) := by decide +kernel
theorem dX0_policemenWhoServed_3 : decode cX0_policemenWhoServed 3 = .ok (.istore_n 2, 1) := by decide +kernel
theorem dX0_policemenWhoServed_4 : decode cX0_policemenWhoServed 4 = .ok (.iload_n 2, 1) := by decide +kernel
theorem dX0_policemenWhoServed_5 : decode cX0_policemenWhoServed 5 = .ok (.aload_n 0, 1) := by decide +kernel
theorem dX0_policemenWhoServed_6 : decode cX0_policemenWhoServed 6 = .ok (.getfield 38, 3) := by decide +kernel
theorem dX0_policemenWhoServed_9 : decode cX0_policemenWhoServed 9 = .ok (.if_icmp .ge 20, 3) := by decide +kernel
theorem dX0_policemenWhoServed_12 : decode cX0_policemenWhoServed 12 = .ok (.iload_n 1, 1) := by decide +kernel
theorem dX0_policemenWhoServed_13 : decode cX0_policemenWhoServed 13 = .ok (.aload_n 0, 1) := by decide +kernel
theorem dX0_policemenWhoServed_14 : decode cX0_policemenWhoServed 14 = .ok (.iload_n 2, 1) := by decide +kernel
theorem dX0_policemenWhoServed_15 : decode cX0_policemenWhoServed 15 = .ok (.invokevirtual 65, 3) := by decide +kernel
theorem dX0_policemenWhoServed_18 : decode cX0_policemenWhoServed 18 = .ok (.invokestatic 93, 3) := by decide +kernel
theorem dX0_policemenWhoServed_21 : decode cX0_policemenWhoServed 21 = .ok (.iadd, 1) := by decide +kernel
theorem dX0_policemenWhoServed_22 : decode cX0_policemenWhoServed 22 = .ok (.istore_n 1, 1) := by decide +kernel
theorem dX0_policemenWhoServed_23 : decode cX0_policemenWhoServed 23 = .ok (.iinc 2 1, 3) := by decide +kernel
theorem dX0_policemenWhoServed_26 : decode cX0_policemenWhoServed 26 = .ok (.goto (-22), 3) := by decide +kernel
theorem dX0_policemenWhoServed_29 : decode cX0_policemenWhoServed 29 = .ok (.iload_n 1, 1) := by decide +kernel
theorem dX0_policemenWhoServed_30 : decode cX0_policemenWhoServed 30 = .ok (.ireturn, 1) := by decide +kernel
set_option maxRecDepth 20000 in
theorem ggX0_takeOut_X0_isThere : GoodIn wsX0_takeOut wsX0_isThere := goodIn_r _ [7, 8, 9, 10, 11, 12, 13, 14, 15, 16, 17, 18, 19] (by decide +kernel) (by decide +kernel)
set_option maxRecDepth 20000 in
theorem gX0_takeOut_X0_isThere : GoodIn wsX0_takeOut (wsV RX0 51 RX0 yX0_isThere wsX0_isThere) := goodIn_app (goodIn_of _ (by decide +kernel)) ggX0_takeOut_X0_isThere
theorem dX0_takeOut_0 : decode cX0_takeOut 0 = .ok (.aload_n 0, 1) := by decide +kernel
theorem dX0_takeOut_1 : decode cX0_takeOut 1 = .ok (.iload_n 1, 1) := by decide +kernel
theorem dX0_takeOut_2 : decode cX0_takeOut 2 = .ok (.invokevirtual 51, 3) := by decide +kernel
theorem dX0_takeOut_5 : decode cX0_takeOut 5 = .ok (.ifCond .ne 4, 3) := by decide +kernel
theorem dX0_takeOut_8 : decode cX0_takeOut 8 = .ok (.return_, 1) := by decide +kernel
theorem dX0_takeOut_9 : decode cX0_takeOut 9 = .ok (.aload_n 0, 1) := by decide +kernel
theorem dX0_takeOut_10 : decode cX0_takeOut 10 = .ok (.dup, 1) := by decide +kernel
theorem dX0_takeOut_11 : decode cX0_takeOut 11 = .ok (.getfield 41, 3) := by decide +kernel
theorem dX0_takeOut_14 : decode cX0_takeOut 14 = .ok (.iconst 1, 1) := by decide +kernel
theorem dX0_takeOut_15 : decode cX0_takeOut 15 = .ok (.iload_n 1, 1) := by decide +kernel
theorem dX0_takeOut_16 : decode cX0_takeOut 16 = .ok (.ishl, 1) := by decide +kernel
theorem dX0_takeOut_17 : decode cX0_takeOut 17 = .ok (.ior, 1) := by decide +kernel
theorem dX0_takeOut_18 : decode cX0_takeOut 18 = .ok (.putfield 41, 3) := by decide +kernel
theorem dX0_takeOut_21 : decode cX0_takeOut 21 = .ok (.aload_n 0, 1) := by decide +kernel
theorem dX0_takeOut_22 : decode cX0_takeOut 22 = .ok (.getfield 28, 3) := by decide +kernel
theorem dX0_takeOut_25 : decode cX0_takeOut 25 = .ok (.iload_n 1, 1) := by decide +kernel
theorem dX0_takeOut_26 : decode cX0_takeOut 26 = .ok (.iconst 0, 1) := by decide +kernel
theorem dX0_takeOut_27 : decode cX0_takeOut 27 = .ok (.iastore, 1) := by decide +kernel
theorem dX0_takeOut_28 : decode cX0_takeOut 28 = .ok (.return_, 1) := by decide +kernel
set_option maxRecDepth 20000 in
theorem ggX0_turnFact_X5_isFact : GoodIn wsX0_turnFact wsX5_isFact := goodIn_r _ [6, 7, 8, 5, 9] (by decide +kernel) (by decide +kernel)
set_option maxRecDepth 20000 in
theorem gX0_turnFact_X5_isFact_n97 : GoodIn wsX0_turnFact (wsX5_isFact) := ggX0_turnFact_X5_isFact
set_option maxRecDepth 20000 in
theorem ggX0_turnFact_X0_isThere : GoodIn wsX0_turnFact wsX0_isThere := goodIn_r _ [14, 2, 27, 28, 29, 30, 31, 32, 33, 34, 35, 36, 37] (by decide +kernel) (by decide +kernel)
set_option maxRecDepth 20000 in
theorem gX0_turnFact_X0_isThere : GoodIn wsX0_turnFact (wsV RX0 51 RX0 yX0_isThere wsX0_isThere) := goodIn_app (goodIn_of _ (by decide +kernel)) ggX0_turnFact_X0_isThere
set_option maxRecDepth 20000 in
theorem ggX0_turnFact_X0_hasPoliceman : GoodIn wsX0_turnFact wsX0_hasPoliceman := goodIn_r _ [18, 19, 1, 10, 11, 12, 13, 14, 2, 20, 21, 22, 23, 24, 25, 5, 26, 27, 28, 29, 30, 31, 32, 33, 34, 35, 36, 37] (by decide +kernel) (by decide +kernel)
set_option maxRecDepth 20000 in
theorem gX0_turnFact_X0_hasPoliceman : GoodIn wsX0_turnFact (wsV RX0 62 RX0 yX0_hasPoliceman wsX0_hasPoliceman) := goodIn_app (goodIn_of _ (by decide +kernel)) ggX0_turnFact_X0_hasPoliceman
theorem dX0_turnFact_0 : decode cX0_turnFact 0 = .ok (.iload_n 1, 1) := by decide +kernel
theorem dX0_turnFact_1 : decode cX0_turnFact 1 = .ok (.invokestatic 97, 3) := by decide +kernel
theorem dX0_turnFact_4 : decode cX0_turnFact 4 = .ok (.ifCond .ne 4, 3) := by decide +kernel
theorem dX0_turnFact_7 : decode cX0_turnFact 7 = .ok (.return_, 1) := by decide +kernel
theorem dX0_turnFact_8 : decode cX0_turnFact 8 = .ok (.aload_n 0, 1) := by decide +kernel
theorem dX0_turnFact_9 : decode cX0_turnFact 9 = .ok (.dup, 1) := by decide +kernel
theorem dX0_turnFact_10 : decode cX0_turnFact 10 = .ok (.getfield 35, 3) := by decide +kernel
theorem dX0_turnFact_13 : decode cX0_turnFact 13 = .ok (.iconst 1, 1) := by decide +kernel
theorem dX0_turnFact_14 : decode cX0_turnFact 14 = .ok (.iload_n 1, 1) := by decide +kernel
theorem dX0_turnFact_15 : decode cX0_turnFact 15 = .ok (.ishl, 1) := by decide +kernel
theorem dX0_turnFact_16 : decode cX0_turnFact 16 = .ok (.ixor, 1) := by decide +kernel
theorem dX0_turnFact_17 : decode cX0_turnFact 17 = .ok (.putfield 35, 3) := by decide +kernel
theorem dX0_turnFact_20 : decode cX0_turnFact 20 = .ok (.iconst 0, 1) := by decide +kernel
theorem dX0_turnFact_21 : decode cX0_turnFact 21 = .ok (.istore_n 2, 1) := by decide +kernel
theorem dX0_turnFact_22 : decode cX0_turnFact 22 = .ok (.iload_n 2, 1) := by decide +kernel
theorem dX0_turnFact_23 : decode cX0_turnFact 23 = .ok (.aload_n 0, 1) := by decide +kernel
theorem dX0_turnFact_24 : decode cX0_turnFact 24 = .ok (.getfield 38, 3) := by decide +kernel
theorem dX0_turnFact_27 : decode cX0_turnFact 27 = .ok (.if_icmp .ge 32, 3) := by decide +kernel
theorem dX0_turnFact_30 : decode cX0_turnFact 30 = .ok (.aload_n 0, 1) := by decide +kernel
theorem dX0_turnFact_31 : decode cX0_turnFact 31 = .ok (.iload_n 2, 1) := by decide +kernel
theorem dX0_turnFact_32 : decode cX0_turnFact 32 = .ok (.invokevirtual 51, 3) := by decide +kernel
theorem dX0_turnFact_35 : decode cX0_turnFact 35 = .ok (.ifCond .eq 18, 3) := by decide +kernel
theorem dX0_turnFact_38 : decode cX0_turnFact 38 = .ok (.aload_n 0, 1) := by decide +kernel
theorem dX0_turnFact_39 : decode cX0_turnFact 39 = .ok (.iload_n 2, 1) := by decide +kernel
theorem dX0_turnFact_40 : decode cX0_turnFact 40 = .ok (.invokevirtual 62, 3) := by decide +kernel
theorem dX0_turnFact_43 : decode cX0_turnFact 43 = .ok (.ifCond .ne 10, 3) := by decide +kernel
theorem dX0_turnFact_46 : decode cX0_turnFact 46 = .ok (.aload_n 0, 1) := by decide +kernel
theorem dX0_turnFact_47 : decode cX0_turnFact 47 = .ok (.getfield 28, 3) := by decide +kernel
theorem dX0_turnFact_50 : decode cX0_turnFact 50 = .ok (.iload_n 2, 1) := by decide +kernel
theorem dX0_turnFact_51 : decode cX0_turnFact 51 = .ok (.iconst 0, 1) := by decide +kernel
theorem dX0_turnFact_52 : decode cX0_turnFact 52 = .ok (.iastore, 1) := by decide +kernel
theorem dX0_turnFact_53 : decode cX0_turnFact 53 = .ok (.iinc 2 1, 3) := by decide +kernel
theorem dX0_turnFact_56 : decode cX0_turnFact 56 = .ok (.goto (-34), 3) := by decide +kernel
theorem dX0_turnFact_59 : decode cX0_turnFact 59 = .ok (.return_, 1) := by decide +kernel
set_option maxRecDepth 20000 in
theorem ggX0_serveDay_X0_isThere : GoodIn wsX0_serveDay wsX0_isThere := goodIn_r _ [8, 2, 23, 24, 25, 26, 27, 28, 29, 30, 31, 32, 33] (by decide +kernel) (by decide +kernel)
set_option maxRecDepth 20000 in
theorem gX0_serveDay_X0_isThere : GoodIn wsX0_serveDay (wsV RX0 51 RX0 yX0_isThere wsX0_isThere) := goodIn_app (goodIn_of _ (by decide +kernel)) ggX0_serveDay_X0_isThere
set_option maxRecDepth 20000 in
theorem ggX0_serveDay_X0_hasPoliceman : GoodIn wsX0_serveDay wsX0_hasPoliceman := goodIn_r _ [12, 13, 14, 4, 5, 6, 7, 8, 2, 15, 16, 17, 18, 19, 20, 21, 22, 23, 24, 25, 26, 27, 28, 29, 30, 31, 32, 33] (by decide +kernel) (by decide +kernel)
set_option maxRecDepth 20000 in
theorem gX0_serveDay_X0_hasPoliceman : GoodIn wsX0_serveDay (wsV RX0 62 RX0 yX0_hasPoliceman wsX0_hasPoliceman) := goodIn_app (goodIn_of _ (by decide +kernel)) ggX0_serveDay_X0_hasPoliceman
theorem dX0_serveDay_0 : decode cX0_serveDay 0 = .ok (.aload_n 0, 1) := by decide +kernel
theorem dX0_serveDay_1 : decode cX0_serveDay 1 = .ok (.dup, 1) := by decide +kernel
theorem dX0_serveDay_2 : decode cX0_serveDay 2 = .ok (.getfield 44, 3) := by decide +kernel
theorem dX0_serveDay_5 : decode cX0_serveDay 5 = .ok (.iconst 1, 1) := by decide +kernel
theorem dX0_serveDay_6 : decode cX0_serveDay 6 = .ok (.iadd, 1) := by decide +kernel
theorem dX0_serveDay_7 : decode cX0_serveDay 7 = .ok (.putfield 44, 3) := by decide +kernel
theorem dX0_serveDay_10 : decode cX0_serveDay 10 = .ok (.iconst 0, 1) := by decide +kernel
theorem dX0_serveDay_11 : decode cX0_serveDay 11 = .ok (.istore_n 1, 1) := by decide +kernel
theorem dX0_serveDay_12 : decode cX0_serveDay 12 = .ok (.iload_n 1, 1) := by decide +kernel
theorem dX0_serveDay_13 : decode cX0_serveDay 13 = .ok (.aload_n 0, 1) := by decide +kernel
theorem dX0_serveDay_14 : decode cX0_serveDay 14 = .ok (.getfield 38, 3) := by decide +kernel
theorem dX0_serveDay_17 : decode cX0_serveDay 17 = .ok (.if_icmp .ge 35, 3) := by decide +kernel
theorem dX0_serveDay_20 : decode cX0_serveDay 20 = .ok (.aload_n 0, 1) := by decide +kernel
theorem dX0_serveDay_21 : decode cX0_serveDay 21 = .ok (.iload_n 1, 1) := by decide +kernel
theorem dX0_serveDay_22 : decode cX0_serveDay 22 = .ok (.invokevirtual 51, 3) := by decide +kernel
theorem dX0_serveDay_25 : decode cX0_serveDay 25 = .ok (.ifCond .eq 21, 3) := by decide +kernel
theorem dX0_serveDay_28 : decode cX0_serveDay 28 = .ok (.aload_n 0, 1) := by decide +kernel
theorem dX0_serveDay_29 : decode cX0_serveDay 29 = .ok (.iload_n 1, 1) := by decide +kernel
theorem dX0_serveDay_30 : decode cX0_serveDay 30 = .ok (.invokevirtual 62, 3) := by decide +kernel
theorem dX0_serveDay_33 : decode cX0_serveDay 33 = .ok (.ifCond .eq 13, 3) := by decide +kernel
theorem dX0_serveDay_36 : decode cX0_serveDay 36 = .ok (.aload_n 0, 1) := by decide +kernel
theorem dX0_serveDay_37 : decode cX0_serveDay 37 = .ok (.getfield 28, 3) := by decide +kernel
theorem dX0_serveDay_40 : decode cX0_serveDay 40 = .ok (.iload_n 1, 1) := by decide +kernel
theorem dX0_serveDay_41 : decode cX0_serveDay 41 = .ok (.dup2, 1) := by decide +kernel
theorem dX0_serveDay_42 : decode cX0_serveDay 42 = .ok (.iaload, 1) := by decide +kernel
theorem dX0_serveDay_43 : decode cX0_serveDay 43 = .ok (.iconst 1, 1) := by decide +kernel
theorem dX0_serveDay_44 : decode cX0_serveDay 44 = .ok (.iadd, 1) := by decide +kernel
theorem dX0_serveDay_45 : decode cX0_serveDay 45 = .ok (.iastore, 1) := by decide +kernel
theorem dX0_serveDay_46 : decode cX0_serveDay 46 = .ok (.iinc 1 1, 3) := by decide +kernel
theorem dX0_serveDay_49 : decode cX0_serveDay 49 = .ok (.goto (-37), 3) := by decide +kernel
theorem dX0_serveDay_52 : decode cX0_serveDay 52 = .ok (.return_, 1) := by decide +kernel
set_option maxRecDepth 20000 in
theorem ggX0_mateOf_X0_hasServed : GoodIn wsX0_mateOf wsX0_hasServed := goodIn_r _ [6, 7, 8, 9, 10, 11, 5, 12, 1, 13, 14, 15, 16, 17, 18, 19, 20, 21, 22, 23, 24, 25, 26, 31, 32, 33, 34, 35, 36, 37, 38, 39, 40, 41] (by decide +kernel) (by decide +kernel)
set_option maxRecDepth 20000 in
theorem gX0_mateOf_X0_hasServed : GoodIn wsX0_mateOf (wsV RX0 65 RX0 yX0_hasServed wsX0_hasServed) := goodIn_app (goodIn_of _ (by decide +kernel)) ggX0_mateOf_X0_hasServed
set_option maxRecDepth 20000 in
theorem ggX0_mateOf_X0_areClashing : GoodIn wsX0_mateOf wsX0_areClashing := goodIn_r _ [30, 17, 9, 10, 11, 5, 12, 1, 31, 32, 33, 34, 35, 36, 37, 38, 39, 40, 41] (by decide +kernel) (by decide +kernel)
set_option maxRecDepth 20000 in
theorem gX0_mateOf_X0_areClashing : GoodIn wsX0_mateOf (wsV RX0 68 RX0 yX0_areClashing wsX0_areClashing) := goodIn_app (goodIn_of _ (by decide +kernel)) ggX0_mateOf_X0_areClashing
theorem dX0_mateOf_0 : decode cX0_mateOf 0 = .ok (.aload_n 0, 1) := by decide +kernel
theorem dX0_mateOf_1 : decode cX0_mateOf 1 = .ok (.iload_n 1, 1) := by decide +kernel
theorem dX0_mateOf_2 : decode cX0_mateOf 2 = .ok (.invokevirtual 65, 3) := by decide +kernel
theorem dX0_mateOf_5 : decode cX0_mateOf 5 = .ok (.ifCond .ne 6, 3) := by decide +kernel
theorem dX0_mateOf_8 : decode cX0_mateOf 8 = .ok (.bipush (-4), 2) := by decide +kernel
theorem dX0_mateOf_10 : decode cX0_mateOf 10 = .ok (.ireturn, 1) := by decide +kernel
theorem dX0_mateOf_11 : decode cX0_mateOf 11 = .ok (.iload_n 1, 1) := by decide +kernel
theorem dX0_mateOf_12 : decode cX0_mateOf 12 = .ok (.iconst 1, 1) := by decide +kernel
theorem dX0_mateOf_13 : decode cX0_mateOf 13 = .ok (.iadd, 1) := by decide +kernel
theorem dX0_mateOf_14 : decode cX0_mateOf 14 = .ok (.istore_n 2, 1) := by decide +kernel
theorem dX0_mateOf_15 : decode cX0_mateOf 15 = .ok (.iload_n 2, 1) := by decide +kernel
theorem dX0_mateOf_16 : decode cX0_mateOf 16 = .ok (.aload_n 0, 1) := by decide +kernel
theorem dX0_mateOf_17 : decode cX0_mateOf 17 = .ok (.getfield 38, 3) := by decide +kernel
theorem dX0_mateOf_20 : decode cX0_mateOf 20 = .ok (.if_icmp .ge 28, 3) := by decide +kernel
theorem dX0_mateOf_23 : decode cX0_mateOf 23 = .ok (.aload_n 0, 1) := by decide +kernel
theorem dX0_mateOf_24 : decode cX0_mateOf 24 = .ok (.iload_n 2, 1) := by decide +kernel
theorem dX0_mateOf_25 : decode cX0_mateOf 25 = .ok (.invokevirtual 65, 3) := by decide +kernel
theorem dX0_mateOf_28 : decode cX0_mateOf 28 = .ok (.ifCond .eq 14, 3) := by decide +kernel
theorem dX0_mateOf_31 : decode cX0_mateOf 31 = .ok (.aload_n 0, 1) := by decide +kernel
theorem dX0_mateOf_32 : decode cX0_mateOf 32 = .ok (.iload_n 1, 1) := by decide +kernel
theorem dX0_mateOf_33 : decode cX0_mateOf 33 = .ok (.iload_n 2, 1) := by decide +kernel
theorem dX0_mateOf_34 : decode cX0_mateOf 34 = .ok (.invokevirtual 68, 3) := by decide +kernel
theorem dX0_mateOf_37 : decode cX0_mateOf 37 = .ok (.ifCond .eq 5, 3) := by decide +kernel
theorem dX0_mateOf_40 : decode cX0_mateOf 40 = .ok (.iload_n 2, 1) := by decide +kernel
theorem dX0_mateOf_41 : decode cX0_mateOf 41 = .ok (.ireturn, 1) := by decide +kernel
theorem dX0_mateOf_42 : decode cX0_mateOf 42 = .ok (.iinc 2 1, 3) := by decide +kernel
theorem dX0_mateOf_45 : decode cX0_mateOf 45 = .ok (.goto (-30), 3) := by decide +kernel
theorem dX0_mateOf_48 : decode cX0_mateOf 48 = .ok (.bipush (-4), 2) := by decide +kernel
theorem dX0_mateOf_50 : decode cX0_mateOf 50 = .ok (.ireturn, 1) := by decide +kernel
set_option maxRecDepth 20000 in
theorem ggX0_firstToFall_X0_mateOf : GoodIn wsX0_firstToFall wsX0_mateOf := goodIn_r _ [6, 1, 7, 8, 9, 5, 10, 11, 12, 13, 14, 15, 16, 17, 18, 19, 20, 21, 22, 23, 24, 25, 26, 27, 28, 29, 30, 31, 32, 33, 34, 35, 36, 37, 38, 39, 40, 41, 42, 43, 44, 45] (by decide +kernel) (by decide +kernel)
set_option maxRecDepth 20000 in
theorem gX0_firstToFall_X0_mateOf : GoodIn wsX0_firstToFall (wsV RX0 100 RX0 yX0_mateOf wsX0_mateOf) := goodIn_app (goodIn_of _ (by decide +kernel)) ggX0_firstToFall_X0_mateOf
theorem dX0_firstToFall_0 : decode cX0_firstToFall 0 = .ok (.iconst 0, 1) := by decide +kernel
theorem dX0_firstToFall_1 : decode cX0_firstToFall 1 = .ok (.istore_n 1, 1) := by decide +kernel
theorem dX0_firstToFall_2 : decode cX0_firstToFall 2 = .ok (.iload_n 1, 1) := by decide +kernel
theorem dX0_firstToFall_3 : decode cX0_firstToFall 3 = .ok (.aload_n 0, 1) := by decide +kernel
theorem dX0_firstToFall_4 : decode cX0_firstToFall 4 = .ok (.getfield 38, 3) := by decide +kernel
theorem dX0_firstToFall_7 : decode cX0_firstToFall 7 = .ok (.if_icmp .ge 21, 3) := by decide +kernel
theorem dX0_firstToFall_10 : decode cX0_firstToFall 10 = .ok (.aload_n 0, 1) := by decide +kernel
theorem dX0_firstToFall_11 : decode cX0_firstToFall 11 = .ok (.iload_n 1, 1) := by decide +kernel
theorem dX0_firstToFall_12 : decode cX0_firstToFall 12 = .ok (.invokevirtual 100, 3) := by decide +kernel
theorem dX0_firstToFall_15 : decode cX0_firstToFall 15 = .ok (.bipush (-4), 2) := by decide +kernel
theorem dX0_firstToFall_17 : decode cX0_firstToFall 17 = .ok (.if_icmp .eq 5, 3) := by decide +kernel
theorem dX0_firstToFall_20 : decode cX0_firstToFall 20 = .ok (.iload_n 1, 1) := by decide +kernel
theorem dX0_firstToFall_21 : decode cX0_firstToFall 21 = .ok (.ireturn, 1) := by decide +kernel
theorem dX0_firstToFall_22 : decode cX0_firstToFall 22 = .ok (.iinc 1 1, 3) := by decide +kernel
theorem dX0_firstToFall_25 : decode cX0_firstToFall 25 = .ok (.goto (-23), 3) := by decide +kernel
theorem dX0_firstToFall_28 : decode cX0_firstToFall 28 = .ok (.bipush (-4), 2) := by decide +kernel
theorem dX0_firstToFall_30 : decode cX0_firstToFall 30 = .ok (.ireturn, 1) := by decide +kernel
set_option maxRecDepth 20000 in
theorem ggX0_passDay_X0_serveDay : GoodIn wsX0_passDay wsX0_serveDay := goodIn_r _ [6, 7, 1, 8, 9, 10, 11, 5, 12, 13, 14, 15, 16, 17, 18, 19, 20, 21, 22, 23, 24, 25, 26, 44, 45, 46, 47, 48, 49, 50, 51, 52, 53, 54] (by decide +kernel) (by decide +kernel)
set_option maxRecDepth 20000 in
theorem gX0_passDay_X0_serveDay : GoodIn wsX0_passDay (wsV RX0 103 RX0 yX0_serveDay wsX0_serveDay) := goodIn_app (goodIn_of _ (by decide +kernel)) ggX0_passDay_X0_serveDay
set_option maxRecDepth 20000 in
theorem ggX0_passDay_X0_mateOf : GoodIn wsX0_passDay wsX0_mateOf := goodIn_r _ [30, 1, 31, 32, 33, 5, 34, 8, 35, 9, 10, 11, 12, 13, 14, 15, 16, 17, 18, 19, 20, 21, 22, 23, 24, 25, 26, 36, 37, 38, 39, 44, 45, 46, 47, 48, 49, 50, 51, 52, 53, 54] (by decide +kernel) (by decide +kernel)
set_option maxRecDepth 20000 in
theorem gX0_passDay_X0_mateOf : GoodIn wsX0_passDay (wsV RX0 100 RX0 yX0_mateOf wsX0_mateOf) := goodIn_app (goodIn_of _ (by decide +kernel)) ggX0_passDay_X0_mateOf
set_option maxRecDepth 20000 in
theorem ggX0_passDay_X0_takeOut : GoodIn wsX0_passDay wsX0_takeOut := goodIn_r _ [43, 23, 8, 9, 10, 11, 5, 12, 1, 44, 45, 46, 47, 48, 49, 50, 51, 52, 53, 54] (by decide +kernel) (by decide +kernel)
set_option maxRecDepth 20000 in
theorem gX0_passDay_X0_takeOut : GoodIn wsX0_passDay (wsV RX0 106 RX0 yX0_takeOut wsX0_takeOut) := goodIn_app (goodIn_of _ (by decide +kernel)) ggX0_passDay_X0_takeOut
theorem dX0_passDay_0 : decode cX0_passDay 0 = .ok (.aload_n 0, 1) := by decide +kernel
theorem dX0_passDay_1 : decode cX0_passDay 1 = .ok (.invokevirtual 103, 3) := by decide +kernel
theorem dX0_passDay_4 : decode cX0_passDay 4 = .ok (.iconst 0, 1) := by decide +kernel
theorem dX0_passDay_5 : decode cX0_passDay 5 = .ok (.istore_n 1, 1) := by decide +kernel
theorem dX0_passDay_6 : decode cX0_passDay 6 = .ok (.iconst 0, 1) := by decide +kernel
theorem dX0_passDay_7 : decode cX0_passDay 7 = .ok (.istore_n 2, 1) := by decide +kernel
theorem dX0_passDay_8 : decode cX0_passDay 8 = .ok (.iload_n 2, 1) := by decide +kernel
theorem dX0_passDay_9 : decode cX0_passDay 9 = .ok (.aload_n 0, 1) := by decide +kernel
theorem dX0_passDay_10 : decode cX0_passDay 10 = .ok (.getfield 38, 3) := by decide +kernel
theorem dX0_passDay_13 : decode cX0_passDay 13 = .ok (.if_icmp .ge 34, 3) := by decide +kernel
theorem dX0_passDay_16 : decode cX0_passDay 16 = .ok (.aload_n 0, 1) := by decide +kernel
theorem dX0_passDay_17 : decode cX0_passDay 17 = .ok (.iload_n 2, 1) := by decide +kernel
theorem dX0_passDay_18 : decode cX0_passDay 18 = .ok (.invokevirtual 100, 3) := by decide +kernel
theorem dX0_passDay_21 : decode cX0_passDay 21 = .ok (.istore_n 3, 1) := by decide +kernel
theorem dX0_passDay_22 : decode cX0_passDay 22 = .ok (.iload_n 3, 1) := by decide +kernel
theorem dX0_passDay_23 : decode cX0_passDay 23 = .ok (.bipush (-4), 2) := by decide +kernel
theorem dX0_passDay_25 : decode cX0_passDay 25 = .ok (.if_icmp .eq 16, 3) := by decide +kernel
theorem dX0_passDay_28 : decode cX0_passDay 28 = .ok (.aload_n 0, 1) := by decide +kernel
theorem dX0_passDay_29 : decode cX0_passDay 29 = .ok (.iload_n 2, 1) := by decide +kernel
theorem dX0_passDay_30 : decode cX0_passDay 30 = .ok (.invokevirtual 106, 3) := by decide +kernel
theorem dX0_passDay_33 : decode cX0_passDay 33 = .ok (.aload_n 0, 1) := by decide +kernel
theorem dX0_passDay_34 : decode cX0_passDay 34 = .ok (.iload_n 3, 1) := by decide +kernel
theorem dX0_passDay_35 : decode cX0_passDay 35 = .ok (.invokevirtual 106, 3) := by decide +kernel
theorem dX0_passDay_38 : decode cX0_passDay 38 = .ok (.iinc 1 2, 3) := by decide +kernel
theorem dX0_passDay_41 : decode cX0_passDay 41 = .ok (.iinc 2 1, 3) := by decide +kernel
theorem dX0_passDay_44 : decode cX0_passDay 44 = .ok (.goto (-36), 3) := by decide +kernel
theorem dX0_passDay_47 : decode cX0_passDay 47 = .ok (.iload_n 1, 1) := by decide +kernel
theorem dX0_passDay_48 : decode cX0_passDay 48 = .ok (.ireturn, 1) := by decide +kernel
set_option maxRecDepth 20000 in
theorem ggX0_takeDraw_X0_turnFact : GoodIn wsX0_takeDraw wsX0_turnFact := goodIn_r _ [6, 7, 1, 8, 9, 10, 11, 12, 13, 14, 15, 16, 17, 5, 18, 19, 20, 21, 22, 23, 24, 25, 26, 27, 28, 29, 30, 44, 45, 46, 47, 48, 49, 50, 51, 52, 53, 54] (by decide +kernel) (by decide +kernel)
set_option maxRecDepth 20000 in
theorem gX0_takeDraw_X0_turnFact : GoodIn wsX0_takeDraw (wsV RX0 110 RX0 yX0_turnFact wsX0_turnFact) := goodIn_app (goodIn_of _ (by decide +kernel)) ggX0_takeDraw_X0_turnFact
set_option maxRecDepth 20000 in
theorem ggX0_takeDraw_X0_canBeWithdrawn : GoodIn wsX0_takeDraw wsX0_canBeWithdrawn := goodIn_r _ [34, 15, 16, 17, 5, 18, 1, 24, 25, 26, 27, 28, 35, 36, 37, 38, 8, 39, 19, 20, 21, 22, 23, 7, 29, 10, 30, 44, 45, 46, 47, 48, 49, 50, 51, 52, 53, 54] (by decide +kernel) (by decide +kernel)
set_option maxRecDepth 20000 in
theorem gX0_takeDraw_X0_canBeWithdrawn : GoodIn wsX0_takeDraw (wsV RX0 113 RX0 yX0_canBeWithdrawn wsX0_canBeWithdrawn) := goodIn_app (goodIn_of _ (by decide +kernel)) ggX0_takeDraw_X0_canBeWithdrawn
set_option maxRecDepth 20000 in
theorem ggX0_takeDraw_X0_takeOut : GoodIn wsX0_takeDraw wsX0_takeOut := goodIn_r _ [43, 28, 8, 15, 16, 17, 5, 18, 1, 44, 45, 46, 47, 48, 49, 50, 51, 52, 53, 54] (by decide +kernel) (by decide +kernel)
set_option maxRecDepth 20000 in
theorem gX0_takeDraw_X0_takeOut : GoodIn wsX0_takeDraw (wsV RX0 106 RX0 yX0_takeOut wsX0_takeOut) := goodIn_app (goodIn_of _ (by decide +kernel)) ggX0_takeDraw_X0_takeOut
theorem dX0_takeDraw_0 : decode cX0_takeDraw 0 = .ok (.iload_n 1, 1) := by decide +kernel
theorem dX0_takeDraw_1 : decode cX0_takeDraw 1 = .ok (.bipush 8, 2) := by decide +kernel
theorem dX0_takeDraw_3 : decode cX0_takeDraw 3 = .ok (.idiv, 1) := by decide +kernel
theorem dX0_takeDraw_4 : decode cX0_takeDraw 4 = .ok (.iconst 3, 1) := by decide +kernel
theorem dX0_takeDraw_5 : decode cX0_takeDraw 5 = .ok (.irem, 1) := by decide +kernel
theorem dX0_takeDraw_6 : decode cX0_takeDraw 6 = .ok (.ifCond .ne 11, 3) := by decide +kernel
theorem dX0_takeDraw_9 : decode cX0_takeDraw 9 = .ok (.aload_n 0, 1) := by decide +kernel
theorem dX0_takeDraw_10 : decode cX0_takeDraw 10 = .ok (.iload_n 1, 1) := by decide +kernel
theorem dX0_takeDraw_11 : decode cX0_takeDraw 11 = .ok (.bipush 6, 2) := by decide +kernel
theorem dX0_takeDraw_13 : decode cX0_takeDraw 13 = .ok (.irem, 1) := by decide +kernel
theorem dX0_takeDraw_14 : decode cX0_takeDraw 14 = .ok (.invokevirtual 110, 3) := by decide +kernel
theorem dX0_takeDraw_17 : decode cX0_takeDraw 17 = .ok (.aload_n 0, 1) := by decide +kernel
theorem dX0_takeDraw_18 : decode cX0_takeDraw 18 = .ok (.getfield 38, 3) := by decide +kernel
theorem dX0_takeDraw_21 : decode cX0_takeDraw 21 = .ok (.ifCond .gt 4, 3) := by decide +kernel
theorem dX0_takeDraw_24 : decode cX0_takeDraw 24 = .ok (.return_, 1) := by decide +kernel
theorem dX0_takeDraw_25 : decode cX0_takeDraw 25 = .ok (.iload_n 1, 1) := by decide +kernel
theorem dX0_takeDraw_26 : decode cX0_takeDraw 26 = .ok (.bipush 64, 2) := by decide +kernel
theorem dX0_takeDraw_28 : decode cX0_takeDraw 28 = .ok (.idiv, 1) := by decide +kernel
theorem dX0_takeDraw_29 : decode cX0_takeDraw 29 = .ok (.aload_n 0, 1) := by decide +kernel
theorem dX0_takeDraw_30 : decode cX0_takeDraw 30 = .ok (.getfield 38, 3) := by decide +kernel
theorem dX0_takeDraw_33 : decode cX0_takeDraw 33 = .ok (.irem, 1) := by decide +kernel
theorem dX0_takeDraw_34 : decode cX0_takeDraw 34 = .ok (.istore_n 2, 1) := by decide +kernel
theorem dX0_takeDraw_35 : decode cX0_takeDraw 35 = .ok (.iload_n 1, 1) := by decide +kernel
theorem dX0_takeDraw_36 : decode cX0_takeDraw 36 = .ok (.sipush 1024, 3) := by decide +kernel
theorem dX0_takeDraw_39 : decode cX0_takeDraw 39 = .ok (.idiv, 1) := by decide +kernel
theorem dX0_takeDraw_40 : decode cX0_takeDraw 40 = .ok (.iconst 5, 1) := by decide +kernel
theorem dX0_takeDraw_41 : decode cX0_takeDraw 41 = .ok (.irem, 1) := by decide +kernel
theorem dX0_takeDraw_42 : decode cX0_takeDraw 42 = .ok (.ifCond .ne 16, 3) := by decide +kernel
theorem dX0_takeDraw_45 : decode cX0_takeDraw 45 = .ok (.aload_n 0, 1) := by decide +kernel
theorem dX0_takeDraw_46 : decode cX0_takeDraw 46 = .ok (.iload_n 2, 1) := by decide +kernel
theorem dX0_takeDraw_47 : decode cX0_takeDraw 47 = .ok (.invokevirtual 113, 3) := by decide +kernel
theorem dX0_takeDraw_50 : decode cX0_takeDraw 50 = .ok (.ifCond .eq 8, 3) := by decide +kernel
theorem dX0_takeDraw_53 : decode cX0_takeDraw 53 = .ok (.aload_n 0, 1) := by decide +kernel
theorem dX0_takeDraw_54 : decode cX0_takeDraw 54 = .ok (.iload_n 2, 1) := by decide +kernel
theorem dX0_takeDraw_55 : decode cX0_takeDraw 55 = .ok (.invokevirtual 106, 3) := by decide +kernel
theorem dX0_takeDraw_58 : decode cX0_takeDraw 58 = .ok (.return_, 1) := by decide +kernel
set_option maxRecDepth 20000 in
theorem ggX0_couldAllBeSo_X0_isThere : GoodIn wsX0_couldAllBeSo wsX0_isThere := goodIn_r _ [8, 2, 12, 13, 14, 15, 16, 17, 18, 19, 20, 21, 22] (by decide +kernel) (by decide +kernel)
set_option maxRecDepth 20000 in
theorem gX0_couldAllBeSo_X0_isThere : GoodIn wsX0_couldAllBeSo (wsV RX0 51 RX0 yX0_isThere wsX0_isThere) := goodIn_app (goodIn_of _ (by decide +kernel)) ggX0_couldAllBeSo_X0_isThere
set_option maxRecDepth 20000 in
theorem ggX0_couldAllBeSo_X5_isBitOf : GoodIn wsX0_couldAllBeSo wsX5_isBitOf := goodIn_r _ [11] (by decide +kernel) (by decide +kernel)
set_option maxRecDepth 20000 in
theorem gX0_couldAllBeSo_X5_isBitOf_n88 : GoodIn wsX0_couldAllBeSo (wsX5_isBitOf) := ggX0_couldAllBeSo_X5_isBitOf
theorem dX0_couldAllBeSo_0 : decode cX0_couldAllBeSo 0 = .ok (.ldc2_w 91, 3) := by decide +kernel
theorem dX0_couldAllBeSo_3 : decode cX0_couldAllBeSo 3 = .ok (.lstore_n 2, 1) := by decide +kernel
theorem dX0_couldAllBeSo_4 : decode cX0_couldAllBeSo 4 = .ok (.iconst 0, 1) := by decide +kernel
theorem dX0_couldAllBeSo_5 : decode cX0_couldAllBeSo 5 = .ok (.istore 4, 2) := by decide +kernel
theorem dX0_couldAllBeSo_7 : decode cX0_couldAllBeSo 7 = .ok (.iload 4, 2) := by decide +kernel
theorem dX0_couldAllBeSo_9 : decode cX0_couldAllBeSo 9 = .ok (.aload_n 0, 1) := by decide +kernel
theorem dX0_couldAllBeSo_10 : decode cX0_couldAllBeSo 10 = .ok (.getfield 38, 3) := by decide +kernel
theorem dX0_couldAllBeSo_13 : decode cX0_couldAllBeSo 13 = .ok (.if_icmp .ge 37, 3) := by decide +kernel
theorem dX0_couldAllBeSo_16 : decode cX0_couldAllBeSo 16 = .ok (.aload_n 0, 1) := by decide +kernel
theorem dX0_couldAllBeSo_17 : decode cX0_couldAllBeSo 17 = .ok (.iload 4, 2) := by decide +kernel
theorem dX0_couldAllBeSo_19 : decode cX0_couldAllBeSo 19 = .ok (.invokevirtual 51, 3) := by decide +kernel
theorem dX0_couldAllBeSo_22 : decode cX0_couldAllBeSo 22 = .ok (.ifCond .eq 22, 3) := by decide +kernel
theorem dX0_couldAllBeSo_25 : decode cX0_couldAllBeSo 25 = .ok (.iload_n 1, 1) := by decide +kernel
theorem dX0_couldAllBeSo_26 : decode cX0_couldAllBeSo 26 = .ok (.iload 4, 2) := by decide +kernel
theorem dX0_couldAllBeSo_28 : decode cX0_couldAllBeSo 28 = .ok (.invokestatic 88, 3) := by decide +kernel
theorem dX0_couldAllBeSo_31 : decode cX0_couldAllBeSo 31 = .ok (.ifCond .eq 13, 3) := by decide +kernel
theorem dX0_couldAllBeSo_34 : decode cX0_couldAllBeSo 34 = .ok (.lload_n 2, 1) := by decide +kernel
theorem dX0_couldAllBeSo_35 : decode cX0_couldAllBeSo 35 = .ok (.aload_n 0, 1) := by decide +kernel
theorem dX0_couldAllBeSo_36 : decode cX0_couldAllBeSo 36 = .ok (.getfield 31, 3) := by decide +kernel
theorem dX0_couldAllBeSo_39 : decode cX0_couldAllBeSo 39 = .ok (.iload 4, 2) := by decide +kernel
theorem dX0_couldAllBeSo_41 : decode cX0_couldAllBeSo 41 = .ok (.laload, 1) := by decide +kernel
theorem dX0_couldAllBeSo_42 : decode cX0_couldAllBeSo 42 = .ok (.land, 1) := by decide +kernel
theorem dX0_couldAllBeSo_43 : decode cX0_couldAllBeSo 43 = .ok (.lstore_n 2, 1) := by decide +kernel
theorem dX0_couldAllBeSo_44 : decode cX0_couldAllBeSo 44 = .ok (.iinc 4 1, 3) := by decide +kernel
theorem dX0_couldAllBeSo_47 : decode cX0_couldAllBeSo 47 = .ok (.goto (-40), 3) := by decide +kernel
theorem dX0_couldAllBeSo_50 : decode cX0_couldAllBeSo 50 = .ok (.lload_n 2, 1) := by decide +kernel
theorem dX0_couldAllBeSo_51 : decode cX0_couldAllBeSo 51 = .ok (.lconst 0, 1) := by decide +kernel
theorem dX0_couldAllBeSo_52 : decode cX0_couldAllBeSo 52 = .ok (.lcmp, 1) := by decide +kernel
theorem dX0_couldAllBeSo_53 : decode cX0_couldAllBeSo 53 = .ok (.ifCond .eq 7, 3) := by decide +kernel
theorem dX0_couldAllBeSo_56 : decode cX0_couldAllBeSo 56 = .ok (.iconst 1, 1) := by decide +kernel
theorem dX0_couldAllBeSo_57 : decode cX0_couldAllBeSo 57 = .ok (.goto 4, 3) := by decide +kernel
theorem dX0_couldAllBeSo_60 : decode cX0_couldAllBeSo 60 = .ok (.iconst 0, 1) := by decide +kernel
theorem dX0_couldAllBeSo_61 : decode cX0_couldAllBeSo 61 = .ok (.ireturn, 1) := by decide +kernel
set_option maxRecDepth 20000 in
theorem ggX0_lowestCore_X0_standing : GoodIn wsX0_lowestCore wsX0_standing := goodIn_r _ [5, 6, 7, 28, 29, 30, 31, 32, 33, 34, 35, 36, 37, 38] (by decide +kernel) (by decide +kernel)
set_option maxRecDepth 20000 in
theorem gX0_lowestCore_X0_standing : GoodIn wsX0_lowestCore (wsV RX0 75 RX0 yX0_standing wsX0_standing) := goodIn_app (goodIn_of _ (by decide +kernel)) ggX0_lowestCore_X0_standing
set_option maxRecDepth 20000 in
theorem ggX0_lowestCore_J6_bitCount_0f7a4 : GoodIn wsX0_lowestCore wsJ6_bitCount_0f7a4 := goodIn_r _ [11, 12, 13, 14] (by decide +kernel) (by decide +kernel)
set_option maxRecDepth 20000 in
theorem gX0_lowestCore_J6_bitCount_0f7a4 : GoodIn wsX0_lowestCore (va_wsS RX0 83 yJ6_bitCount_0f7a4 wsJ6_bitCount_0f7a4) := goodIn_app (goodIn_of _ (by decide +kernel)) ggX0_lowestCore_J6_bitCount_0f7a4
set_option maxRecDepth 20000 in
theorem ggX0_lowestCore_X0_couldAllBeSo : GoodIn wsX0_lowestCore wsX0_couldAllBeSo := goodIn_r _ [18, 19, 6, 20, 21, 22, 23, 4, 24, 25, 26, 27, 28, 29, 30, 31, 32, 33, 34, 35, 36, 37, 38] (by decide +kernel) (by decide +kernel)
set_option maxRecDepth 20000 in
theorem gX0_lowestCore_X0_couldAllBeSo : GoodIn wsX0_lowestCore (wsV RX0 116 RX0 yX0_couldAllBeSo wsX0_couldAllBeSo) := goodIn_app (goodIn_of _ (by decide +kernel)) ggX0_lowestCore_X0_couldAllBeSo
theorem dX0_lowestCore_0 : decode cX0_lowestCore 0 = .ok (.aload_n 0, 1) := by decide +kernel
theorem dX0_lowestCore_1 : decode cX0_lowestCore 1 = .ok (.invokevirtual 75, 3) := by decide +kernel
theorem dX0_lowestCore_4 : decode cX0_lowestCore 4 = .ok (.istore_n 1, 1) := by decide +kernel
theorem dX0_lowestCore_5 : decode cX0_lowestCore 5 = .ok (.bipush (-4), 2) := by decide +kernel
theorem dX0_lowestCore_7 : decode cX0_lowestCore 7 = .ok (.istore_n 2, 1) := by decide +kernel
theorem dX0_lowestCore_8 : decode cX0_lowestCore 8 = .ok (.bipush 10, 2) := by decide +kernel
theorem dX0_lowestCore_10 : decode cX0_lowestCore 10 = .ok (.istore_n 3, 1) := by decide +kernel
theorem dX0_lowestCore_11 : decode cX0_lowestCore 11 = .ok (.iconst 0, 1) := by decide +kernel
theorem dX0_lowestCore_12 : decode cX0_lowestCore 12 = .ok (.istore 4, 2) := by decide +kernel
theorem dX0_lowestCore_14 : decode cX0_lowestCore 14 = .ok (.iload 4, 2) := by decide +kernel
theorem dX0_lowestCore_16 : decode cX0_lowestCore 16 = .ok (.iload_n 1, 1) := by decide +kernel
theorem dX0_lowestCore_17 : decode cX0_lowestCore 17 = .ok (.if_icmp .gt 46, 3) := by decide +kernel
theorem dX0_lowestCore_20 : decode cX0_lowestCore 20 = .ok (.iload 4, 2) := by decide +kernel
theorem dX0_lowestCore_22 : decode cX0_lowestCore 22 = .ok (.invokestatic 83, 3) := by decide +kernel
theorem dX0_lowestCore_25 : decode cX0_lowestCore 25 = .ok (.istore 5, 2) := by decide +kernel
theorem dX0_lowestCore_27 : decode cX0_lowestCore 27 = .ok (.iload 4, 2) := by decide +kernel
theorem dX0_lowestCore_29 : decode cX0_lowestCore 29 = .ok (.iload_n 1, 1) := by decide +kernel
theorem dX0_lowestCore_30 : decode cX0_lowestCore 30 = .ok (.iconst (-1), 1) := by decide +kernel
theorem dX0_lowestCore_31 : decode cX0_lowestCore 31 = .ok (.ixor, 1) := by decide +kernel
theorem dX0_lowestCore_32 : decode cX0_lowestCore 32 = .ok (.iand, 1) := by decide +kernel
theorem dX0_lowestCore_33 : decode cX0_lowestCore 33 = .ok (.ifCond .ne 24, 3) := by decide +kernel
theorem dX0_lowestCore_36 : decode cX0_lowestCore 36 = .ok (.iload 5, 2) := by decide +kernel
theorem dX0_lowestCore_38 : decode cX0_lowestCore 38 = .ok (.iload_n 3, 1) := by decide +kernel
theorem dX0_lowestCore_39 : decode cX0_lowestCore 39 = .ok (.if_icmp .ge 18, 3) := by decide +kernel
theorem dX0_lowestCore_42 : decode cX0_lowestCore 42 = .ok (.aload_n 0, 1) := by decide +kernel
theorem dX0_lowestCore_43 : decode cX0_lowestCore 43 = .ok (.iload 4, 2) := by decide +kernel
theorem dX0_lowestCore_45 : decode cX0_lowestCore 45 = .ok (.invokevirtual 116, 3) := by decide +kernel
theorem dX0_lowestCore_48 : decode cX0_lowestCore 48 = .ok (.ifCond .ne 9, 3) := by decide +kernel
theorem dX0_lowestCore_51 : decode cX0_lowestCore 51 = .ok (.iload 4, 2) := by decide +kernel
theorem dX0_lowestCore_53 : decode cX0_lowestCore 53 = .ok (.istore_n 2, 1) := by decide +kernel
theorem dX0_lowestCore_54 : decode cX0_lowestCore 54 = .ok (.iload 5, 2) := by decide +kernel
theorem dX0_lowestCore_56 : decode cX0_lowestCore 56 = .ok (.istore_n 3, 1) := by decide +kernel
theorem dX0_lowestCore_57 : decode cX0_lowestCore 57 = .ok (.iinc 4 1, 3) := by decide +kernel
theorem dX0_lowestCore_60 : decode cX0_lowestCore 60 = .ok (.goto (-46), 3) := by decide +kernel
theorem dX0_lowestCore_63 : decode cX0_lowestCore 63 = .ok (.iload_n 2, 1) := by decide +kernel
theorem dX0_lowestCore_64 : decode cX0_lowestCore 64 = .ok (.ireturn, 1) := by decide +kernel
set_option maxRecDepth 20000 in
theorem ggX0_lowestCut_X0_standing : GoodIn wsX0_lowestCut wsX0_standing := goodIn_r _ [5, 6, 7, 28, 29, 30, 31, 32, 33, 34, 35, 36, 37, 38] (by decide +kernel) (by decide +kernel)
set_option maxRecDepth 20000 in
theorem gX0_lowestCut_X0_standing : GoodIn wsX0_lowestCut (wsV RX0 75 RX0 yX0_standing wsX0_standing) := goodIn_app (goodIn_of _ (by decide +kernel)) ggX0_lowestCut_X0_standing
set_option maxRecDepth 20000 in
theorem ggX0_lowestCut_J6_bitCount_0f7a4 : GoodIn wsX0_lowestCut wsJ6_bitCount_0f7a4 := goodIn_r _ [11, 12, 13, 14] (by decide +kernel) (by decide +kernel)
set_option maxRecDepth 20000 in
theorem gX0_lowestCut_J6_bitCount_0f7a4 : GoodIn wsX0_lowestCut (va_wsS RX0 83 yJ6_bitCount_0f7a4 wsJ6_bitCount_0f7a4) := goodIn_app (goodIn_of _ (by decide +kernel)) ggX0_lowestCut_J6_bitCount_0f7a4
set_option maxRecDepth 20000 in
theorem ggX0_lowestCut_X0_couldAllBeSo : GoodIn wsX0_lowestCut wsX0_couldAllBeSo := goodIn_r _ [18, 19, 6, 20, 21, 22, 23, 4, 24, 25, 26, 27, 28, 29, 30, 31, 32, 33, 34, 35, 36, 37, 38] (by decide +kernel) (by decide +kernel)
set_option maxRecDepth 20000 in
theorem gX0_lowestCut_X0_couldAllBeSo : GoodIn wsX0_lowestCut (wsV RX0 116 RX0 yX0_couldAllBeSo wsX0_couldAllBeSo) := goodIn_app (goodIn_of _ (by decide +kernel)) ggX0_lowestCut_X0_couldAllBeSo
theorem dX0_lowestCut_0 : decode cX0_lowestCut 0 = .ok (.aload_n 0, 1) := by decide +kernel
theorem dX0_lowestCut_1 : decode cX0_lowestCut 1 = .ok (.invokevirtual 75, 3) := by decide +kernel
theorem dX0_lowestCut_4 : decode cX0_lowestCut 4 = .ok (.istore_n 1, 1) := by decide +kernel
theorem dX0_lowestCut_5 : decode cX0_lowestCut 5 = .ok (.iload_n 1, 1) := by decide +kernel
theorem dX0_lowestCut_6 : decode cX0_lowestCut 6 = .ok (.istore_n 2, 1) := by decide +kernel
theorem dX0_lowestCut_7 : decode cX0_lowestCut 7 = .ok (.bipush 10, 2) := by decide +kernel
theorem dX0_lowestCut_9 : decode cX0_lowestCut 9 = .ok (.istore_n 3, 1) := by decide +kernel
theorem dX0_lowestCut_10 : decode cX0_lowestCut 10 = .ok (.iconst 0, 1) := by decide +kernel
theorem dX0_lowestCut_11 : decode cX0_lowestCut 11 = .ok (.istore 4, 2) := by decide +kernel
theorem dX0_lowestCut_13 : decode cX0_lowestCut 13 = .ok (.iload 4, 2) := by decide +kernel
theorem dX0_lowestCut_15 : decode cX0_lowestCut 15 = .ok (.iload_n 1, 1) := by decide +kernel
theorem dX0_lowestCut_16 : decode cX0_lowestCut 16 = .ok (.if_icmp .gt 50, 3) := by decide +kernel
theorem dX0_lowestCut_19 : decode cX0_lowestCut 19 = .ok (.iload 4, 2) := by decide +kernel
theorem dX0_lowestCut_21 : decode cX0_lowestCut 21 = .ok (.invokestatic 83, 3) := by decide +kernel
theorem dX0_lowestCut_24 : decode cX0_lowestCut 24 = .ok (.istore 5, 2) := by decide +kernel
theorem dX0_lowestCut_26 : decode cX0_lowestCut 26 = .ok (.iload 4, 2) := by decide +kernel
theorem dX0_lowestCut_28 : decode cX0_lowestCut 28 = .ok (.iload_n 1, 1) := by decide +kernel
theorem dX0_lowestCut_29 : decode cX0_lowestCut 29 = .ok (.iconst (-1), 1) := by decide +kernel
theorem dX0_lowestCut_30 : decode cX0_lowestCut 30 = .ok (.ixor, 1) := by decide +kernel
theorem dX0_lowestCut_31 : decode cX0_lowestCut 31 = .ok (.iand, 1) := by decide +kernel
theorem dX0_lowestCut_32 : decode cX0_lowestCut 32 = .ok (.ifCond .ne 28, 3) := by decide +kernel
theorem dX0_lowestCut_35 : decode cX0_lowestCut 35 = .ok (.iload 5, 2) := by decide +kernel
theorem dX0_lowestCut_37 : decode cX0_lowestCut 37 = .ok (.iload_n 3, 1) := by decide +kernel
theorem dX0_lowestCut_38 : decode cX0_lowestCut 38 = .ok (.if_icmp .ge 22, 3) := by decide +kernel
theorem dX0_lowestCut_41 : decode cX0_lowestCut 41 = .ok (.aload_n 0, 1) := by decide +kernel
theorem dX0_lowestCut_42 : decode cX0_lowestCut 42 = .ok (.iload_n 1, 1) := by decide +kernel
theorem dX0_lowestCut_43 : decode cX0_lowestCut 43 = .ok (.iload 4, 2) := by decide +kernel
theorem dX0_lowestCut_45 : decode cX0_lowestCut 45 = .ok (.iconst (-1), 1) := by decide +kernel
theorem dX0_lowestCut_46 : decode cX0_lowestCut 46 = .ok (.ixor, 1) := by decide +kernel
theorem dX0_lowestCut_47 : decode cX0_lowestCut 47 = .ok (.iand, 1) := by decide +kernel
theorem dX0_lowestCut_48 : decode cX0_lowestCut 48 = .ok (.invokevirtual 116, 3) := by decide +kernel
theorem dX0_lowestCut_51 : decode cX0_lowestCut 51 = .ok (.ifCond .eq 9, 3) := by decide +kernel
theorem dX0_lowestCut_54 : decode cX0_lowestCut 54 = .ok (.iload 4, 2) := by decide +kernel
theorem dX0_lowestCut_56 : decode cX0_lowestCut 56 = .ok (.istore_n 2, 1) := by decide +kernel
theorem dX0_lowestCut_57 : decode cX0_lowestCut 57 = .ok (.iload 5, 2) := by decide +kernel
theorem dX0_lowestCut_59 : decode cX0_lowestCut 59 = .ok (.istore_n 3, 1) := by decide +kernel
theorem dX0_lowestCut_60 : decode cX0_lowestCut 60 = .ok (.iinc 4 1, 3) := by decide +kernel
theorem dX0_lowestCut_63 : decode cX0_lowestCut 63 = .ok (.goto (-50), 3) := by decide +kernel
theorem dX0_lowestCut_66 : decode cX0_lowestCut 66 = .ok (.iload_n 2, 1) := by decide +kernel
theorem dX0_lowestCut_67 : decode cX0_lowestCut 67 = .ok (.ireturn, 1) := by decide +kernel
set_option maxRecDepth 20000 in
theorem ggX0_mostPairs_X0_mostPairs : GoodIn wsX0_mostPairs wsX0_mostPairs := goodIn_r _ [0, 1, 2, 3, 4, 5, 6, 7, 8, 9, 10, 11, 12, 13, 14, 15, 16, 17, 18, 19, 20, 21, 22, 23, 24, 25, 26, 27, 28, 29, 30, 31, 32, 33, 34, 35, 36, 37] (by decide +kernel) (by decide +kernel)
set_option maxRecDepth 20000 in
theorem gX0_mostPairs_X0_mostPairs : GoodIn wsX0_mostPairs (wsV RX0 119 RX0 yX0_mostPairs wsX0_mostPairs) := goodIn_app (goodIn_of _ (by decide +kernel)) ggX0_mostPairs_X0_mostPairs
set_option maxRecDepth 20000 in
theorem ggX0_mostPairs_X5_isBitOf : GoodIn wsX0_mostPairs wsX5_isBitOf := goodIn_r _ [12] (by decide +kernel) (by decide +kernel)
set_option maxRecDepth 20000 in
theorem gX0_mostPairs_X5_isBitOf_n88 : GoodIn wsX0_mostPairs (wsX5_isBitOf) := ggX0_mostPairs_X5_isBitOf
set_option maxRecDepth 20000 in
theorem ggX0_mostPairs_X0_mayMarry : GoodIn wsX0_mostPairs wsX0_mayMarry := goodIn_r _ [16, 17, 18, 19, 20, 9, 21, 1, 22, 23, 24, 25, 26, 27, 28, 29, 30, 31, 32, 33, 34, 35, 36, 37] (by decide +kernel) (by decide +kernel)
set_option maxRecDepth 20000 in
theorem gX0_mostPairs_X0_mayMarry : GoodIn wsX0_mostPairs (wsV RX0 123 RX0 yX0_mayMarry wsX0_mayMarry) := goodIn_app (goodIn_of _ (by decide +kernel)) ggX0_mostPairs_X0_mayMarry
theorem dX0_mostPairs_0 : decode cX0_mostPairs 0 = .ok (.iload_n 2, 1) := by decide +kernel
theorem dX0_mostPairs_1 : decode cX0_mostPairs 1 = .ok (.aload_n 0, 1) := by decide +kernel
theorem dX0_mostPairs_2 : decode cX0_mostPairs 2 = .ok (.getfield 38, 3) := by decide +kernel
theorem dX0_mostPairs_5 : decode cX0_mostPairs 5 = .ok (.if_icmp .lt 5, 3) := by decide +kernel
theorem dX0_mostPairs_8 : decode cX0_mostPairs 8 = .ok (.iconst 0, 1) := by decide +kernel
theorem dX0_mostPairs_9 : decode cX0_mostPairs 9 = .ok (.ireturn, 1) := by decide +kernel
theorem dX0_mostPairs_10 : decode cX0_mostPairs 10 = .ok (.aload_n 0, 1) := by decide +kernel
theorem dX0_mostPairs_11 : decode cX0_mostPairs 11 = .ok (.iload_n 1, 1) := by decide +kernel
theorem dX0_mostPairs_12 : decode cX0_mostPairs 12 = .ok (.iload_n 2, 1) := by decide +kernel
theorem dX0_mostPairs_13 : decode cX0_mostPairs 13 = .ok (.iconst 1, 1) := by decide +kernel
theorem dX0_mostPairs_14 : decode cX0_mostPairs 14 = .ok (.iadd, 1) := by decide +kernel
theorem dX0_mostPairs_15 : decode cX0_mostPairs 15 = .ok (.invokevirtual 119, 3) := by decide +kernel
theorem dX0_mostPairs_18 : decode cX0_mostPairs 18 = .ok (.istore_n 3, 1) := by decide +kernel
theorem dX0_mostPairs_19 : decode cX0_mostPairs 19 = .ok (.iload_n 1, 1) := by decide +kernel
theorem dX0_mostPairs_20 : decode cX0_mostPairs 20 = .ok (.iload_n 2, 1) := by decide +kernel
theorem dX0_mostPairs_21 : decode cX0_mostPairs 21 = .ok (.invokestatic 88, 3) := by decide +kernel
theorem dX0_mostPairs_24 : decode cX0_mostPairs 24 = .ok (.ifCond .ne 5, 3) := by decide +kernel
theorem dX0_mostPairs_27 : decode cX0_mostPairs 27 = .ok (.iload_n 3, 1) := by decide +kernel
theorem dX0_mostPairs_28 : decode cX0_mostPairs 28 = .ok (.ireturn, 1) := by decide +kernel
theorem dX0_mostPairs_29 : decode cX0_mostPairs 29 = .ok (.iload_n 2, 1) := by decide +kernel
theorem dX0_mostPairs_30 : decode cX0_mostPairs 30 = .ok (.iconst 1, 1) := by decide +kernel
theorem dX0_mostPairs_31 : decode cX0_mostPairs 31 = .ok (.iadd, 1) := by decide +kernel
theorem dX0_mostPairs_32 : decode cX0_mostPairs 32 = .ok (.istore 4, 2) := by decide +kernel
theorem dX0_mostPairs_34 : decode cX0_mostPairs 34 = .ok (.iload 4, 2) := by decide +kernel
theorem dX0_mostPairs_36 : decode cX0_mostPairs 36 = .ok (.aload_n 0, 1) := by decide +kernel
theorem dX0_mostPairs_37 : decode cX0_mostPairs 37 = .ok (.getfield 38, 3) := by decide +kernel
theorem dX0_mostPairs_40 : decode cX0_mostPairs 40 = .ok (.if_icmp .ge 50, 3) := by decide +kernel
theorem dX0_mostPairs_43 : decode cX0_mostPairs 43 = .ok (.iload_n 1, 1) := by decide +kernel
theorem dX0_mostPairs_44 : decode cX0_mostPairs 44 = .ok (.iload 4, 2) := by decide +kernel
theorem dX0_mostPairs_46 : decode cX0_mostPairs 46 = .ok (.invokestatic 88, 3) := by decide +kernel
theorem dX0_mostPairs_49 : decode cX0_mostPairs 49 = .ok (.ifCond .eq 35, 3) := by decide +kernel
theorem dX0_mostPairs_52 : decode cX0_mostPairs 52 = .ok (.aload_n 0, 1) := by decide +kernel
theorem dX0_mostPairs_53 : decode cX0_mostPairs 53 = .ok (.iload_n 2, 1) := by decide +kernel
theorem dX0_mostPairs_54 : decode cX0_mostPairs 54 = .ok (.iload 4, 2) := by decide +kernel
theorem dX0_mostPairs_56 : decode cX0_mostPairs 56 = .ok (.invokevirtual 123, 3) := by decide +kernel
theorem dX0_mostPairs_59 : decode cX0_mostPairs 59 = .ok (.ifCond .eq 25, 3) := by decide +kernel
theorem dX0_mostPairs_62 : decode cX0_mostPairs 62 = .ok (.iload_n 3, 1) := by decide +kernel
theorem dX0_mostPairs_63 : decode cX0_mostPairs 63 = .ok (.iconst 1, 1) := by decide +kernel
theorem dX0_mostPairs_64 : decode cX0_mostPairs 64 = .ok (.aload_n 0, 1) := by decide +kernel
theorem dX0_mostPairs_65 : decode cX0_mostPairs 65 = .ok (.iload_n 1, 1) := by decide +kernel
theorem dX0_mostPairs_66 : decode cX0_mostPairs 66 = .ok (.iconst 1, 1) := by decide +kernel
theorem dX0_mostPairs_67 : decode cX0_mostPairs 67 = .ok (.iload 4, 2) := by decide +kernel
theorem dX0_mostPairs_69 : decode cX0_mostPairs 69 = .ok (.ishl, 1) := by decide +kernel
theorem dX0_mostPairs_70 : decode cX0_mostPairs 70 = .ok (.iconst (-1), 1) := by decide +kernel
theorem dX0_mostPairs_71 : decode cX0_mostPairs 71 = .ok (.ixor, 1) := by decide +kernel
theorem dX0_mostPairs_72 : decode cX0_mostPairs 72 = .ok (.iand, 1) := by decide +kernel
theorem dX0_mostPairs_73 : decode cX0_mostPairs 73 = .ok (.iload_n 2, 1) := by decide +kernel
theorem dX0_mostPairs_74 : decode cX0_mostPairs 74 = .ok (.iconst 1, 1) := by decide +kernel
theorem dX0_mostPairs_75 : decode cX0_mostPairs 75 = .ok (.iadd, 1) := by decide +kernel
theorem dX0_mostPairs_76 : decode cX0_mostPairs 76 = .ok (.invokevirtual 119, 3) := by decide +kernel
theorem dX0_mostPairs_79 : decode cX0_mostPairs 79 = .ok (.iadd, 1) := by decide +kernel
theorem dX0_mostPairs_80 : decode cX0_mostPairs 80 = .ok (.invokestatic 126, 3) := by decide +kernel
theorem dX0_mostPairs_83 : decode cX0_mostPairs 83 = .ok (.istore_n 3, 1) := by decide +kernel
theorem dX0_mostPairs_84 : decode cX0_mostPairs 84 = .ok (.iinc 4 1, 3) := by decide +kernel
theorem dX0_mostPairs_87 : decode cX0_mostPairs 87 = .ok (.goto (-53), 3) := by decide +kernel
theorem dX0_mostPairs_90 : decode cX0_mostPairs 90 = .ok (.iload_n 3, 1) := by decide +kernel
theorem dX0_mostPairs_91 : decode cX0_mostPairs 91 = .ok (.ireturn, 1) := by decide +kernel
theorem dX1_init_0 : decode cX1_init 0 = .ok (.aload_n 0, 1) := by decide +kernel
theorem dX1_init_1 : decode cX1_init 1 = .ok (.invokespecial 3, 3) := by decide +kernel
theorem dX1_init_4 : decode cX1_init 4 = .ok (.aload_n 0, 1) := by decide +kernel
theorem dX1_init_5 : decode cX1_init 5 = .ok (.bipush 64, 2) := by decide +kernel
theorem dX1_init_7 : decode cX1_init 7 = .ok (.newarray .int, 2) := by decide +kernel
theorem dX1_init_9 : decode cX1_init 9 = .ok (.putfield 9, 3) := by decide +kernel
theorem dX1_init_12 : decode cX1_init 12 = .ok (.aload_n 0, 1) := by decide +kernel
theorem dX1_init_13 : decode cX1_init 13 = .ok (.bipush 64, 2) := by decide +kernel
theorem dX1_init_15 : decode cX1_init 15 = .ok (.newarray .int, 2) := by decide +kernel
theorem dX1_init_17 : decode cX1_init 17 = .ok (.putfield 15, 3) := by decide +kernel
theorem dX1_init_20 : decode cX1_init 20 = .ok (.return_, 1) := by decide +kernel
set_option maxRecDepth 20000 in
theorem ggX1_lookAhead_X0_liesIn : GoodIn wsX1_lookAhead wsX0_liesIn := goodIn_r _ [7, 8, 9, 10, 11, 6, 12, 13, 14, 15, 16, 17, 18, 19, 20, 21, 22, 23, 24, 25, 53, 54, 55, 56, 57, 58, 59, 60, 61, 62, 63] (by decide +kernel) (by decide +kernel)
set_option maxRecDepth 20000 in
theorem gX1_lookAhead_X0_liesIn : GoodIn wsX1_lookAhead (wsV RX1 18 RX0 yX0_liesIn wsX0_liesIn) := goodIn_app (goodIn_of _ (by decide +kernel)) ggX1_lookAhead_X0_liesIn
set_option maxRecDepth 20000 in
theorem ggX1_lookAhead_J6_bitCount_0f7a4 : GoodIn wsX1_lookAhead wsJ6_bitCount_0f7a4 := goodIn_r _ [29, 30, 31, 32] (by decide +kernel) (by decide +kernel)
set_option maxRecDepth 20000 in
theorem gX1_lookAhead_J6_bitCount_0f7a4 : GoodIn wsX1_lookAhead (va_wsS RX1 24 yJ6_bitCount_0f7a4 wsJ6_bitCount_0f7a4) := goodIn_app (goodIn_of _ (by decide +kernel)) ggX1_lookAhead_J6_bitCount_0f7a4
set_option maxRecDepth 20000 in
theorem ggX1_lookAhead_X1_bestOf : GoodIn wsX1_lookAhead wsX1_bestOf := goodIn_r _ [37, 38, 39, 40, 41, 42, 43, 44, 45, 46, 47, 36, 48, 2, 49, 24, 50, 51, 52] (by decide +kernel) (by decide +kernel)
set_option maxRecDepth 20000 in
theorem gX1_lookAhead_X1_bestOf : GoodIn wsX1_lookAhead (wsV RX1 29 RX1 yX1_bestOf wsX1_bestOf) := goodIn_app (goodIn_of _ (by decide +kernel)) ggX1_lookAhead_X1_bestOf
theorem dX1_lookAhead_0 : decode cX1_lookAhead 0 = .ok (.iconst 0, 1) := by decide +kernel
theorem dX1_lookAhead_1 : decode cX1_lookAhead 1 = .ok (.istore_n 3, 1) := by decide +kernel
theorem dX1_lookAhead_2 : decode cX1_lookAhead 2 = .ok (.iload_n 3, 1) := by decide +kernel
theorem dX1_lookAhead_3 : decode cX1_lookAhead 3 = .ok (.bipush 64, 2) := by decide +kernel
theorem dX1_lookAhead_5 : decode cX1_lookAhead 5 = .ok (.if_icmp .ge 23, 3) := by decide +kernel
theorem dX1_lookAhead_8 : decode cX1_lookAhead 8 = .ok (.aload_n 0, 1) := by decide +kernel
theorem dX1_lookAhead_9 : decode cX1_lookAhead 9 = .ok (.getfield 15, 3) := by decide +kernel
theorem dX1_lookAhead_12 : decode cX1_lookAhead 12 = .ok (.iload_n 3, 1) := by decide +kernel
theorem dX1_lookAhead_13 : decode cX1_lookAhead 13 = .ok (.aload_n 1, 1) := by decide +kernel
theorem dX1_lookAhead_14 : decode cX1_lookAhead 14 = .ok (.iload_n 3, 1) := by decide +kernel
theorem dX1_lookAhead_15 : decode cX1_lookAhead 15 = .ok (.invokevirtual 18, 3) := by decide +kernel
theorem dX1_lookAhead_18 : decode cX1_lookAhead 18 = .ok (.invokestatic 24, 3) := by decide +kernel
theorem dX1_lookAhead_21 : decode cX1_lookAhead 21 = .ok (.iastore, 1) := by decide +kernel
theorem dX1_lookAhead_22 : decode cX1_lookAhead 22 = .ok (.iinc 3 1, 3) := by decide +kernel
theorem dX1_lookAhead_25 : decode cX1_lookAhead 25 = .ok (.goto (-23), 3) := by decide +kernel
theorem dX1_lookAhead_28 : decode cX1_lookAhead 28 = .ok (.iconst 1, 1) := by decide +kernel
theorem dX1_lookAhead_29 : decode cX1_lookAhead 29 = .ok (.istore_n 3, 1) := by decide +kernel
theorem dX1_lookAhead_30 : decode cX1_lookAhead 30 = .ok (.iload_n 3, 1) := by decide +kernel
theorem dX1_lookAhead_31 : decode cX1_lookAhead 31 = .ok (.iload_n 2, 1) := by decide +kernel
theorem dX1_lookAhead_32 : decode cX1_lookAhead 32 = .ok (.if_icmp .gt 85, 3) := by decide +kernel
theorem dX1_lookAhead_35 : decode cX1_lookAhead 35 = .ok (.iconst 0, 1) := by decide +kernel
theorem dX1_lookAhead_36 : decode cX1_lookAhead 36 = .ok (.istore 4, 2) := by decide +kernel
theorem dX1_lookAhead_38 : decode cX1_lookAhead 38 = .ok (.iload 4, 2) := by decide +kernel
theorem dX1_lookAhead_40 : decode cX1_lookAhead 40 = .ok (.bipush 64, 2) := by decide +kernel
theorem dX1_lookAhead_42 : decode cX1_lookAhead 42 = .ok (.if_icmp .ge 23, 3) := by decide +kernel
theorem dX1_lookAhead_45 : decode cX1_lookAhead 45 = .ok (.aload_n 0, 1) := by decide +kernel
theorem dX1_lookAhead_46 : decode cX1_lookAhead 46 = .ok (.getfield 9, 3) := by decide +kernel
theorem dX1_lookAhead_49 : decode cX1_lookAhead 49 = .ok (.iload 4, 2) := by decide +kernel
theorem dX1_lookAhead_51 : decode cX1_lookAhead 51 = .ok (.aload_n 0, 1) := by decide +kernel
theorem dX1_lookAhead_52 : decode cX1_lookAhead 52 = .ok (.getfield 15, 3) := by decide +kernel
theorem dX1_lookAhead_55 : decode cX1_lookAhead 55 = .ok (.iload 4, 2) := by decide +kernel
theorem dX1_lookAhead_57 : decode cX1_lookAhead 57 = .ok (.iaload, 1) := by decide +kernel
theorem dX1_lookAhead_58 : decode cX1_lookAhead 58 = .ok (.iastore, 1) := by decide +kernel
theorem dX1_lookAhead_59 : decode cX1_lookAhead 59 = .ok (.iinc 4 1, 3) := by decide +kernel
theorem dX1_lookAhead_62 : decode cX1_lookAhead 62 = .ok (.goto (-24), 3) := by decide +kernel
theorem dX1_lookAhead_65 : decode cX1_lookAhead 65 = .ok (.iload_n 2, 1) := by decide +kernel
theorem dX1_lookAhead_66 : decode cX1_lookAhead 66 = .ok (.iload_n 3, 1) := by decide +kernel
theorem dX1_lookAhead_67 : decode cX1_lookAhead 67 = .ok (.isub, 1) := by decide +kernel
theorem dX1_lookAhead_68 : decode cX1_lookAhead 68 = .ok (.iconst 2, 1) := by decide +kernel
theorem dX1_lookAhead_69 : decode cX1_lookAhead 69 = .ok (.irem, 1) := by decide +kernel
theorem dX1_lookAhead_70 : decode cX1_lookAhead 70 = .ok (.ifCond .ne 7, 3) := by decide +kernel
theorem dX1_lookAhead_73 : decode cX1_lookAhead 73 = .ok (.iconst 1, 1) := by decide +kernel
theorem dX1_lookAhead_74 : decode cX1_lookAhead 74 = .ok (.goto 4, 3) := by decide +kernel
theorem dX1_lookAhead_77 : decode cX1_lookAhead 77 = .ok (.iconst 0, 1) := by decide +kernel
theorem dX1_lookAhead_78 : decode cX1_lookAhead 78 = .ok (.istore 4, 2) := by decide +kernel
theorem dX1_lookAhead_80 : decode cX1_lookAhead 80 = .ok (.iconst 0, 1) := by decide +kernel
theorem dX1_lookAhead_81 : decode cX1_lookAhead 81 = .ok (.istore 5, 2) := by decide +kernel
theorem dX1_lookAhead_83 : decode cX1_lookAhead 83 = .ok (.iload 5, 2) := by decide +kernel
theorem dX1_lookAhead_85 : decode cX1_lookAhead 85 = .ok (.bipush 64, 2) := by decide +kernel
theorem dX1_lookAhead_87 : decode cX1_lookAhead 87 = .ok (.if_icmp .ge 24, 3) := by decide +kernel
theorem dX1_lookAhead_90 : decode cX1_lookAhead 90 = .ok (.aload_n 0, 1) := by decide +kernel
theorem dX1_lookAhead_91 : decode cX1_lookAhead 91 = .ok (.getfield 15, 3) := by decide +kernel
theorem dX1_lookAhead_94 : decode cX1_lookAhead 94 = .ok (.iload 5, 2) := by decide +kernel
theorem dX1_lookAhead_96 : decode cX1_lookAhead 96 = .ok (.aload_n 0, 1) := by decide +kernel
theorem dX1_lookAhead_97 : decode cX1_lookAhead 97 = .ok (.iload 5, 2) := by decide +kernel
theorem dX1_lookAhead_99 : decode cX1_lookAhead 99 = .ok (.iload 4, 2) := by decide +kernel
theorem dX1_lookAhead_101 : decode cX1_lookAhead 101 = .ok (.invokevirtual 29, 3) := by decide +kernel
theorem dX1_lookAhead_104 : decode cX1_lookAhead 104 = .ok (.iastore, 1) := by decide +kernel
theorem dX1_lookAhead_105 : decode cX1_lookAhead 105 = .ok (.iinc 5 1, 3) := by decide +kernel
theorem dX1_lookAhead_108 : decode cX1_lookAhead 108 = .ok (.goto (-25), 3) := by decide +kernel
theorem dX1_lookAhead_111 : decode cX1_lookAhead 111 = .ok (.iinc 3 1, 3) := by decide +kernel
theorem dX1_lookAhead_114 : decode cX1_lookAhead 114 = .ok (.goto (-84), 3) := by decide +kernel
theorem dX1_lookAhead_117 : decode cX1_lookAhead 117 = .ok (.return_, 1) := by decide +kernel
set_option maxRecDepth 20000 in
theorem ggX1_bestOf_X1_worth : GoodIn wsX1_bestOf wsX1_worth := goodIn_r _ [12, 13, 14, 15, 16, 17, 18] (by decide +kernel) (by decide +kernel)
set_option maxRecDepth 20000 in
theorem gX1_bestOf_X1_worth : GoodIn wsX1_bestOf (wsV RX1 33 RX1 yX1_worth wsX1_worth) := goodIn_app (goodIn_of _ (by decide +kernel)) ggX1_bestOf_X1_worth
theorem dX1_bestOf_0 : decode cX1_bestOf 0 = .ok (.aload_n 0, 1) := by decide +kernel
theorem dX1_bestOf_1 : decode cX1_bestOf 1 = .ok (.iload_n 1, 1) := by decide +kernel
theorem dX1_bestOf_2 : decode cX1_bestOf 2 = .ok (.invokevirtual 33, 3) := by decide +kernel
theorem dX1_bestOf_5 : decode cX1_bestOf 5 = .ok (.istore_n 3, 1) := by decide +kernel
theorem dX1_bestOf_6 : decode cX1_bestOf 6 = .ok (.iconst 0, 1) := by decide +kernel
theorem dX1_bestOf_7 : decode cX1_bestOf 7 = .ok (.istore 4, 2) := by decide +kernel
theorem dX1_bestOf_9 : decode cX1_bestOf 9 = .ok (.iload 4, 2) := by decide +kernel
theorem dX1_bestOf_11 : decode cX1_bestOf 11 = .ok (.bipush 6, 2) := by decide +kernel
theorem dX1_bestOf_13 : decode cX1_bestOf 13 = .ok (.if_icmp .ge 41, 3) := by decide +kernel
theorem dX1_bestOf_16 : decode cX1_bestOf 16 = .ok (.aload_n 0, 1) := by decide +kernel
theorem dX1_bestOf_17 : decode cX1_bestOf 17 = .ok (.iload_n 1, 1) := by decide +kernel
theorem dX1_bestOf_18 : decode cX1_bestOf 18 = .ok (.iconst 1, 1) := by decide +kernel
theorem dX1_bestOf_19 : decode cX1_bestOf 19 = .ok (.iload 4, 2) := by decide +kernel
theorem dX1_bestOf_21 : decode cX1_bestOf 21 = .ok (.ishl, 1) := by decide +kernel
theorem dX1_bestOf_22 : decode cX1_bestOf 22 = .ok (.ixor, 1) := by decide +kernel
theorem dX1_bestOf_23 : decode cX1_bestOf 23 = .ok (.invokevirtual 33, 3) := by decide +kernel
theorem dX1_bestOf_26 : decode cX1_bestOf 26 = .ok (.istore 5, 2) := by decide +kernel
theorem dX1_bestOf_28 : decode cX1_bestOf 28 = .ok (.iload_n 2, 1) := by decide +kernel
theorem dX1_bestOf_29 : decode cX1_bestOf 29 = .ok (.ifCond .eq 12, 3) := by decide +kernel
theorem dX1_bestOf_32 : decode cX1_bestOf 32 = .ok (.iload_n 3, 1) := by decide +kernel
theorem dX1_bestOf_33 : decode cX1_bestOf 33 = .ok (.iload 5, 2) := by decide +kernel
theorem dX1_bestOf_35 : decode cX1_bestOf 35 = .ok (.invokestatic 36, 3) := by decide +kernel
theorem dX1_bestOf_38 : decode cX1_bestOf 38 = .ok (.goto 9, 3) := by decide +kernel
theorem dX1_bestOf_41 : decode cX1_bestOf 41 = .ok (.iload_n 3, 1) := by decide +kernel
theorem dX1_bestOf_42 : decode cX1_bestOf 42 = .ok (.iload 5, 2) := by decide +kernel
theorem dX1_bestOf_44 : decode cX1_bestOf 44 = .ok (.invokestatic 42, 3) := by decide +kernel
theorem dX1_bestOf_47 : decode cX1_bestOf 47 = .ok (.istore_n 3, 1) := by decide +kernel
theorem dX1_bestOf_48 : decode cX1_bestOf 48 = .ok (.iinc 4 1, 3) := by decide +kernel
theorem dX1_bestOf_51 : decode cX1_bestOf 51 = .ok (.goto (-42), 3) := by decide +kernel
theorem dX1_bestOf_54 : decode cX1_bestOf 54 = .ok (.iload_n 3, 1) := by decide +kernel
theorem dX1_bestOf_55 : decode cX1_bestOf 55 = .ok (.ireturn, 1) := by decide +kernel
set_option maxRecDepth 20000 in
theorem ggX1_worth_X5_isWithin : GoodIn wsX1_worth wsX5_isWithin := goodIn_r _ [4] (by decide +kernel) (by decide +kernel)
set_option maxRecDepth 20000 in
theorem gX1_worth_X5_isWithin_n45 : GoodIn wsX1_worth (wsX5_isWithin) := ggX1_worth_X5_isWithin
theorem dX1_worth_0 : decode cX1_worth 0 = .ok (.iload_n 1, 1) := by decide +kernel
theorem dX1_worth_1 : decode cX1_worth 1 = .ok (.iconst 0, 1) := by decide +kernel
theorem dX1_worth_2 : decode cX1_worth 2 = .ok (.bipush 63, 2) := by decide +kernel
theorem dX1_worth_4 : decode cX1_worth 4 = .ok (.invokestatic 45, 3) := by decide +kernel
theorem dX1_worth_7 : decode cX1_worth 7 = .ok (.ifCond .eq 12, 3) := by decide +kernel
theorem dX1_worth_10 : decode cX1_worth 10 = .ok (.aload_n 0, 1) := by decide +kernel
theorem dX1_worth_11 : decode cX1_worth 11 = .ok (.getfield 9, 3) := by decide +kernel
theorem dX1_worth_14 : decode cX1_worth 14 = .ok (.iload_n 1, 1) := by decide +kernel
theorem dX1_worth_15 : decode cX1_worth 15 = .ok (.iaload, 1) := by decide +kernel
theorem dX1_worth_16 : decode cX1_worth 16 = .ok (.goto 4, 3) := by decide +kernel
theorem dX1_worth_19 : decode cX1_worth 19 = .ok (.iconst 0, 1) := by decide +kernel
theorem dX1_worth_20 : decode cX1_worth 20 = .ok (.ireturn, 1) := by decide +kernel
set_option maxRecDepth 20000 in
theorem ggX1_outcome_X5_isWithin : GoodIn wsX1_outcome wsX5_isWithin := goodIn_r _ [4] (by decide +kernel) (by decide +kernel)
set_option maxRecDepth 20000 in
theorem gX1_outcome_X5_isWithin_n45 : GoodIn wsX1_outcome (wsX5_isWithin) := ggX1_outcome_X5_isWithin
theorem dX1_outcome_0 : decode cX1_outcome 0 = .ok (.iload_n 1, 1) := by decide +kernel
theorem dX1_outcome_1 : decode cX1_outcome 1 = .ok (.iconst 0, 1) := by decide +kernel
theorem dX1_outcome_2 : decode cX1_outcome 2 = .ok (.bipush 63, 2) := by decide +kernel
theorem dX1_outcome_4 : decode cX1_outcome 4 = .ok (.invokestatic 45, 3) := by decide +kernel
theorem dX1_outcome_7 : decode cX1_outcome 7 = .ok (.ifCond .eq 12, 3) := by decide +kernel
theorem dX1_outcome_10 : decode cX1_outcome 10 = .ok (.aload_n 0, 1) := by decide +kernel
theorem dX1_outcome_11 : decode cX1_outcome 11 = .ok (.getfield 15, 3) := by decide +kernel
theorem dX1_outcome_14 : decode cX1_outcome 14 = .ok (.iload_n 1, 1) := by decide +kernel
theorem dX1_outcome_15 : decode cX1_outcome 15 = .ok (.iaload, 1) := by decide +kernel
theorem dX1_outcome_16 : decode cX1_outcome 16 = .ok (.goto 4, 3) := by decide +kernel
theorem dX1_outcome_19 : decode cX1_outcome 19 = .ok (.iconst 0, 1) := by decide +kernel
theorem dX1_outcome_20 : decode cX1_outcome 20 = .ok (.ireturn, 1) := by decide +kernel
set_option maxRecDepth 20000 in
theorem ggX1_firstMove_X1_outcome : GoodIn wsX1_firstMove wsX1_outcome := goodIn_r _ [5, 6, 7, 8, 9, 15, 16] (by decide +kernel) (by decide +kernel)
set_option maxRecDepth 20000 in
theorem gX1_firstMove_X1_outcome : GoodIn wsX1_firstMove (wsV RX1 49 RX1 yX1_outcome wsX1_outcome) := goodIn_app (goodIn_of _ (by decide +kernel)) ggX1_firstMove_X1_outcome
set_option maxRecDepth 20000 in
theorem ggX1_firstMove_X1_worth : GoodIn wsX1_firstMove wsX1_worth := goodIn_r _ [13, 14, 7, 8, 9, 15, 16] (by decide +kernel) (by decide +kernel)
set_option maxRecDepth 20000 in
theorem gX1_firstMove_X1_worth : GoodIn wsX1_firstMove (wsV RX1 33 RX1 yX1_worth wsX1_worth) := goodIn_app (goodIn_of _ (by decide +kernel)) ggX1_firstMove_X1_worth
theorem dX1_firstMove_0 : decode cX1_firstMove 0 = .ok (.aload_n 0, 1) := by decide +kernel
theorem dX1_firstMove_1 : decode cX1_firstMove 1 = .ok (.iload_n 1, 1) := by decide +kernel
theorem dX1_firstMove_2 : decode cX1_firstMove 2 = .ok (.invokevirtual 49, 3) := by decide +kernel
theorem dX1_firstMove_5 : decode cX1_firstMove 5 = .ok (.istore_n 2, 1) := by decide +kernel
theorem dX1_firstMove_6 : decode cX1_firstMove 6 = .ok (.aload_n 0, 1) := by decide +kernel
theorem dX1_firstMove_7 : decode cX1_firstMove 7 = .ok (.iload_n 1, 1) := by decide +kernel
theorem dX1_firstMove_8 : decode cX1_firstMove 8 = .ok (.invokevirtual 33, 3) := by decide +kernel
theorem dX1_firstMove_11 : decode cX1_firstMove 11 = .ok (.iload_n 2, 1) := by decide +kernel
theorem dX1_firstMove_12 : decode cX1_firstMove 12 = .ok (.if_icmp .ne 6, 3) := by decide +kernel
theorem dX1_firstMove_15 : decode cX1_firstMove 15 = .ok (.bipush (-4), 2) := by decide +kernel
theorem dX1_firstMove_17 : decode cX1_firstMove 17 = .ok (.ireturn, 1) := by decide +kernel
theorem dX1_firstMove_18 : decode cX1_firstMove 18 = .ok (.iconst 0, 1) := by decide +kernel
theorem dX1_firstMove_19 : decode cX1_firstMove 19 = .ok (.istore_n 3, 1) := by decide +kernel
theorem dX1_firstMove_20 : decode cX1_firstMove 20 = .ok (.iload_n 3, 1) := by decide +kernel
theorem dX1_firstMove_21 : decode cX1_firstMove 21 = .ok (.bipush 6, 2) := by decide +kernel
theorem dX1_firstMove_23 : decode cX1_firstMove 23 = .ok (.if_icmp .ge 24, 3) := by decide +kernel
theorem dX1_firstMove_26 : decode cX1_firstMove 26 = .ok (.aload_n 0, 1) := by decide +kernel
theorem dX1_firstMove_27 : decode cX1_firstMove 27 = .ok (.iload_n 1, 1) := by decide +kernel
theorem dX1_firstMove_28 : decode cX1_firstMove 28 = .ok (.iconst 1, 1) := by decide +kernel
theorem dX1_firstMove_29 : decode cX1_firstMove 29 = .ok (.iload_n 3, 1) := by decide +kernel
theorem dX1_firstMove_30 : decode cX1_firstMove 30 = .ok (.ishl, 1) := by decide +kernel
theorem dX1_firstMove_31 : decode cX1_firstMove 31 = .ok (.ixor, 1) := by decide +kernel
theorem dX1_firstMove_32 : decode cX1_firstMove 32 = .ok (.invokevirtual 33, 3) := by decide +kernel
theorem dX1_firstMove_35 : decode cX1_firstMove 35 = .ok (.iload_n 2, 1) := by decide +kernel
theorem dX1_firstMove_36 : decode cX1_firstMove 36 = .ok (.if_icmp .ne 5, 3) := by decide +kernel
theorem dX1_firstMove_39 : decode cX1_firstMove 39 = .ok (.iload_n 3, 1) := by decide +kernel
theorem dX1_firstMove_40 : decode cX1_firstMove 40 = .ok (.ireturn, 1) := by decide +kernel
theorem dX1_firstMove_41 : decode cX1_firstMove 41 = .ok (.iinc 3 1, 3) := by decide +kernel
theorem dX1_firstMove_44 : decode cX1_firstMove 44 = .ok (.goto (-24), 3) := by decide +kernel
theorem dX1_firstMove_47 : decode cX1_firstMove 47 = .ok (.bipush (-4), 2) := by decide +kernel
theorem dX1_firstMove_49 : decode cX1_firstMove 49 = .ok (.ireturn, 1) := by decide +kernel
set_option maxRecDepth 20000 in
theorem ggX2_init_X0_init : GoodIn wsX2_init wsX0_init := goodIn_r _ [9, 10, 2, 3, 11, 12, 13, 14, 15, 16, 17, 18, 19, 22, 23, 24, 25, 26, 27, 28, 29, 30, 31, 32] (by decide +kernel) (by decide +kernel)
set_option maxRecDepth 20000 in
theorem gX2_init_X0_init_n15 : GoodIn wsX2_init (wsX0_init) := ggX2_init_X0_init
theorem dX2_init_0 : decode cX2_init 0 = .ok (.aload_n 0, 1) := by decide +kernel
theorem dX2_init_1 : decode cX2_init 1 = .ok (.invokespecial 1, 3) := by decide +kernel
theorem dX2_init_4 : decode cX2_init 4 = .ok (.aload_n 0, 1) := by decide +kernel
theorem dX2_init_5 : decode cX2_init 5 = .ok (.iload_n 1, 1) := by decide +kernel
theorem dX2_init_6 : decode cX2_init 6 = .ok (.ifCond .ge 7, 3) := by decide +kernel
theorem dX2_init_9 : decode cX2_init 9 = .ok (.iconst 0, 1) := by decide +kernel
theorem dX2_init_10 : decode cX2_init 10 = .ok (.goto 4, 3) := by decide +kernel
theorem dX2_init_13 : decode cX2_init 13 = .ok (.iload_n 1, 1) := by decide +kernel
theorem dX2_init_14 : decode cX2_init 14 = .ok (.anewarray 7, 3) := by decide +kernel
theorem dX2_init_17 : decode cX2_init 17 = .ok (.putfield 9, 3) := by decide +kernel
theorem dX2_init_20 : decode cX2_init 20 = .ok (.iconst 0, 1) := by decide +kernel
theorem dX2_init_21 : decode cX2_init 21 = .ok (.istore_n 2, 1) := by decide +kernel
theorem dX2_init_22 : decode cX2_init 22 = .ok (.iload_n 2, 1) := by decide +kernel
theorem dX2_init_23 : decode cX2_init 23 = .ok (.aload_n 0, 1) := by decide +kernel
theorem dX2_init_24 : decode cX2_init 24 = .ok (.getfield 9, 3) := by decide +kernel
theorem dX2_init_27 : decode cX2_init 27 = .ok (.arraylength, 1) := by decide +kernel
theorem dX2_init_28 : decode cX2_init 28 = .ok (.if_icmp .ge 22, 3) := by decide +kernel
theorem dX2_init_31 : decode cX2_init 31 = .ok (.aload_n 0, 1) := by decide +kernel
theorem dX2_init_32 : decode cX2_init 32 = .ok (.getfield 9, 3) := by decide +kernel
theorem dX2_init_35 : decode cX2_init 35 = .ok (.iload_n 2, 1) := by decide +kernel
theorem dX2_init_36 : decode cX2_init 36 = .ok (.new 7, 3) := by decide +kernel
theorem dX2_init_39 : decode cX2_init 39 = .ok (.dup, 1) := by decide +kernel
theorem dX2_init_40 : decode cX2_init 40 = .ok (.invokespecial 15, 3) := by decide +kernel
theorem dX2_init_43 : decode cX2_init 43 = .ok (.aastore, 1) := by decide +kernel
theorem dX2_init_44 : decode cX2_init 44 = .ok (.iinc 2 1, 3) := by decide +kernel
theorem dX2_init_47 : decode cX2_init 47 = .ok (.goto (-25), 3) := by decide +kernel
theorem dX2_init_50 : decode cX2_init 50 = .ok (.return_, 1) := by decide +kernel
theorem dX2_clear_0 : decode cX2_clear 0 = .ok (.aload_n 0, 1) := by decide +kernel
theorem dX2_clear_1 : decode cX2_clear 1 = .ok (.iconst 0, 1) := by decide +kernel
theorem dX2_clear_2 : decode cX2_clear 2 = .ok (.putfield 16, 3) := by decide +kernel
theorem dX2_clear_5 : decode cX2_clear 5 = .ok (.return_, 1) := by decide +kernel
set_option maxRecDepth 20000 in
theorem ggX2_add_X2_dropOldest : GoodIn wsX2_add wsX2_dropOldest := goodIn_r _ [7, 1, 2, 24, 25] (by decide +kernel) (by decide +kernel)
set_option maxRecDepth 20000 in
theorem gX2_add_X2_dropOldest : GoodIn wsX2_add (wsV RX2 20 RX2 yX2_dropOldest wsX2_dropOldest) := goodIn_app (goodIn_of _ (by decide +kernel)) ggX2_add_X2_dropOldest
set_option maxRecDepth 20000 in
theorem ggX2_add_X0_copy : GoodIn wsX2_add wsX0_copy := goodIn_r _ [12, 13, 14, 15, 16, 17, 18, 19, 20, 21, 22, 23, 26, 27, 28, 29, 30, 31, 32, 33, 34, 35, 36] (by decide +kernel) (by decide +kernel)
set_option maxRecDepth 20000 in
theorem gX2_add_X0_copy : GoodIn wsX2_add (wsV RX2 23 RX0 yX0_copy wsX0_copy) := goodIn_app (goodIn_of _ (by decide +kernel)) ggX2_add_X0_copy
theorem dX2_add_0 : decode cX2_add 0 = .ok (.aload_n 0, 1) := by decide +kernel
theorem dX2_add_1 : decode cX2_add 1 = .ok (.getfield 9, 3) := by decide +kernel
theorem dX2_add_4 : decode cX2_add 4 = .ok (.arraylength, 1) := by decide +kernel
theorem dX2_add_5 : decode cX2_add 5 = .ok (.ifCond .ne 4, 3) := by decide +kernel
theorem dX2_add_8 : decode cX2_add 8 = .ok (.return_, 1) := by decide +kernel
theorem dX2_add_9 : decode cX2_add 9 = .ok (.aload_n 0, 1) := by decide +kernel
theorem dX2_add_10 : decode cX2_add 10 = .ok (.getfield 16, 3) := by decide +kernel
theorem dX2_add_13 : decode cX2_add 13 = .ok (.aload_n 0, 1) := by decide +kernel
theorem dX2_add_14 : decode cX2_add 14 = .ok (.getfield 9, 3) := by decide +kernel
theorem dX2_add_17 : decode cX2_add 17 = .ok (.arraylength, 1) := by decide +kernel
theorem dX2_add_18 : decode cX2_add 18 = .ok (.if_icmp .lt 7, 3) := by decide +kernel
theorem dX2_add_21 : decode cX2_add 21 = .ok (.aload_n 0, 1) := by decide +kernel
theorem dX2_add_22 : decode cX2_add 22 = .ok (.invokevirtual 20, 3) := by decide +kernel
theorem dX2_add_25 : decode cX2_add 25 = .ok (.aload_n 0, 1) := by decide +kernel
theorem dX2_add_26 : decode cX2_add 26 = .ok (.getfield 9, 3) := by decide +kernel
theorem dX2_add_29 : decode cX2_add 29 = .ok (.aload_n 0, 1) := by decide +kernel
theorem dX2_add_30 : decode cX2_add 30 = .ok (.getfield 16, 3) := by decide +kernel
theorem dX2_add_33 : decode cX2_add 33 = .ok (.aaload, 1) := by decide +kernel
theorem dX2_add_34 : decode cX2_add 34 = .ok (.aload_n 1, 1) := by decide +kernel
theorem dX2_add_35 : decode cX2_add 35 = .ok (.invokevirtual 23, 3) := by decide +kernel
theorem dX2_add_38 : decode cX2_add 38 = .ok (.aload_n 0, 1) := by decide +kernel
theorem dX2_add_39 : decode cX2_add 39 = .ok (.dup, 1) := by decide +kernel
theorem dX2_add_40 : decode cX2_add 40 = .ok (.getfield 16, 3) := by decide +kernel
theorem dX2_add_43 : decode cX2_add 43 = .ok (.iconst 1, 1) := by decide +kernel
theorem dX2_add_44 : decode cX2_add 44 = .ok (.iadd, 1) := by decide +kernel
theorem dX2_add_45 : decode cX2_add 45 = .ok (.putfield 16, 3) := by decide +kernel
theorem dX2_add_48 : decode cX2_add 48 = .ok (.return_, 1) := by decide +kernel
theorem dX2_dropOldest_0 : decode cX2_dropOldest 0 = .ok (.aload_n 0, 1) := by decide +kernel
theorem dX2_dropOldest_1 : decode cX2_dropOldest 1 = .ok (.getfield 9, 3) := by decide +kernel
theorem dX2_dropOldest_4 : decode cX2_dropOldest 4 = .ok (.iconst 0, 1) := by decide +kernel
theorem dX2_dropOldest_5 : decode cX2_dropOldest 5 = .ok (.aaload, 1) := by decide +kernel
theorem dX2_dropOldest_6 : decode cX2_dropOldest 6 = .ok (.astore_n 1, 1) := by decide +kernel
theorem dX2_dropOldest_7 : decode cX2_dropOldest 7 = .ok (.iconst 1, 1) := by decide +kernel
theorem dX2_dropOldest_8 : decode cX2_dropOldest 8 = .ok (.istore_n 2, 1) := by decide +kernel
theorem dX2_dropOldest_9 : decode cX2_dropOldest 9 = .ok (.iload_n 2, 1) := by decide +kernel
theorem dX2_dropOldest_10 : decode cX2_dropOldest 10 = .ok (.aload_n 0, 1) := by decide +kernel
theorem dX2_dropOldest_11 : decode cX2_dropOldest 11 = .ok (.getfield 9, 3) := by decide +kernel
theorem dX2_dropOldest_14 : decode cX2_dropOldest 14 = .ok (.arraylength, 1) := by decide +kernel
theorem dX2_dropOldest_15 : decode cX2_dropOldest 15 = .ok (.if_icmp .ge 23, 3) := by decide +kernel
theorem dX2_dropOldest_18 : decode cX2_dropOldest 18 = .ok (.aload_n 0, 1) := by decide +kernel
theorem dX2_dropOldest_19 : decode cX2_dropOldest 19 = .ok (.getfield 9, 3) := by decide +kernel
theorem dX2_dropOldest_22 : decode cX2_dropOldest 22 = .ok (.iload_n 2, 1) := by decide +kernel
theorem dX2_dropOldest_23 : decode cX2_dropOldest 23 = .ok (.iconst 1, 1) := by decide +kernel
theorem dX2_dropOldest_24 : decode cX2_dropOldest 24 = .ok (.isub, 1) := by decide +kernel
theorem dX2_dropOldest_25 : decode cX2_dropOldest 25 = .ok (.aload_n 0, 1) := by decide +kernel
theorem dX2_dropOldest_26 : decode cX2_dropOldest 26 = .ok (.getfield 9, 3) := by decide +kernel
theorem dX2_dropOldest_29 : decode cX2_dropOldest 29 = .ok (.iload_n 2, 1) := by decide +kernel
theorem dX2_dropOldest_30 : decode cX2_dropOldest 30 = .ok (.aaload, 1) := by decide +kernel
theorem dX2_dropOldest_31 : decode cX2_dropOldest 31 = .ok (.aastore, 1) := by decide +kernel
theorem dX2_dropOldest_32 : decode cX2_dropOldest 32 = .ok (.iinc 2 1, 3) := by decide +kernel
theorem dX2_dropOldest_35 : decode cX2_dropOldest 35 = .ok (.goto (-26), 3) := by decide +kernel
theorem dX2_dropOldest_38 : decode cX2_dropOldest 38 = .ok (.aload_n 0, 1) := by decide +kernel
theorem dX2_dropOldest_39 : decode cX2_dropOldest 39 = .ok (.getfield 9, 3) := by decide +kernel
theorem dX2_dropOldest_42 : decode cX2_dropOldest 42 = .ok (.aload_n 0, 1) := by decide +kernel
theorem dX2_dropOldest_43 : decode cX2_dropOldest 43 = .ok (.getfield 9, 3) := by decide +kernel
theorem dX2_dropOldest_46 : decode cX2_dropOldest 46 = .ok (.arraylength, 1) := by decide +kernel
theorem dX2_dropOldest_47 : decode cX2_dropOldest 47 = .ok (.iconst 1, 1) := by decide +kernel
theorem dX2_dropOldest_48 : decode cX2_dropOldest 48 = .ok (.isub, 1) := by decide +kernel
theorem dX2_dropOldest_49 : decode cX2_dropOldest 49 = .ok (.aload_n 1, 1) := by decide +kernel
theorem dX2_dropOldest_50 : decode cX2_dropOldest 50 = .ok (.aastore, 1) := by decide +kernel
theorem dX2_dropOldest_51 : decode cX2_dropOldest 51 = .ok (.aload_n 0, 1) := by decide +kernel
theorem dX2_dropOldest_52 : decode cX2_dropOldest 52 = .ok (.aload_n 0, 1) := by decide +kernel
theorem dX2_dropOldest_53 : decode cX2_dropOldest 53 = .ok (.getfield 9, 3) := by decide +kernel
theorem dX2_dropOldest_56 : decode cX2_dropOldest 56 = .ok (.arraylength, 1) := by decide +kernel
theorem dX2_dropOldest_57 : decode cX2_dropOldest 57 = .ok (.iconst 1, 1) := by decide +kernel
theorem dX2_dropOldest_58 : decode cX2_dropOldest 58 = .ok (.isub, 1) := by decide +kernel
theorem dX2_dropOldest_59 : decode cX2_dropOldest 59 = .ok (.putfield 16, 3) := by decide +kernel
theorem dX2_dropOldest_62 : decode cX2_dropOldest 62 = .ok (.return_, 1) := by decide +kernel
set_option maxRecDepth 20000 in
theorem ggX2_takeLast_X0_copy : GoodIn wsX2_takeLast wsX0_copy := goodIn_r _ [7, 8, 9, 10, 11, 12, 13, 14, 15, 16, 17, 18, 21, 22, 23, 24, 25, 26, 27, 28, 29, 30, 31] (by decide +kernel) (by decide +kernel)
set_option maxRecDepth 20000 in
theorem gX2_takeLast_X0_copy : GoodIn wsX2_takeLast (wsV RX2 23 RX0 yX0_copy wsX0_copy) := goodIn_app (goodIn_of _ (by decide +kernel)) ggX2_takeLast_X0_copy
theorem dX2_takeLast_0 : decode cX2_takeLast 0 = .ok (.aload_n 0, 1) := by decide +kernel
theorem dX2_takeLast_1 : decode cX2_takeLast 1 = .ok (.getfield 16, 3) := by decide +kernel
theorem dX2_takeLast_4 : decode cX2_takeLast 4 = .ok (.ifCond .le 15, 3) := by decide +kernel
theorem dX2_takeLast_7 : decode cX2_takeLast 7 = .ok (.aload_n 0, 1) := by decide +kernel
theorem dX2_takeLast_8 : decode cX2_takeLast 8 = .ok (.getfield 16, 3) := by decide +kernel
theorem dX2_takeLast_11 : decode cX2_takeLast 11 = .ok (.aload_n 0, 1) := by decide +kernel
theorem dX2_takeLast_12 : decode cX2_takeLast 12 = .ok (.getfield 9, 3) := by decide +kernel
theorem dX2_takeLast_15 : decode cX2_takeLast 15 = .ok (.arraylength, 1) := by decide +kernel
theorem dX2_takeLast_16 : decode cX2_takeLast 16 = .ok (.if_icmp .le 5, 3) := by decide +kernel
theorem dX2_takeLast_19 : decode cX2_takeLast 19 = .ok (.iconst 0, 1) := by decide +kernel
theorem dX2_takeLast_20 : decode cX2_takeLast 20 = .ok (.ireturn, 1) := by decide +kernel
theorem dX2_takeLast_21 : decode cX2_takeLast 21 = .ok (.aload_n 0, 1) := by decide +kernel
theorem dX2_takeLast_22 : decode cX2_takeLast 22 = .ok (.dup, 1) := by decide +kernel
theorem dX2_takeLast_23 : decode cX2_takeLast 23 = .ok (.getfield 16, 3) := by decide +kernel
theorem dX2_takeLast_26 : decode cX2_takeLast 26 = .ok (.iconst 1, 1) := by decide +kernel
theorem dX2_takeLast_27 : decode cX2_takeLast 27 = .ok (.isub, 1) := by decide +kernel
theorem dX2_takeLast_28 : decode cX2_takeLast 28 = .ok (.putfield 16, 3) := by decide +kernel
theorem dX2_takeLast_31 : decode cX2_takeLast 31 = .ok (.aload_n 1, 1) := by decide +kernel
theorem dX2_takeLast_32 : decode cX2_takeLast 32 = .ok (.aload_n 0, 1) := by decide +kernel
theorem dX2_takeLast_33 : decode cX2_takeLast 33 = .ok (.getfield 9, 3) := by decide +kernel
theorem dX2_takeLast_36 : decode cX2_takeLast 36 = .ok (.aload_n 0, 1) := by decide +kernel
theorem dX2_takeLast_37 : decode cX2_takeLast 37 = .ok (.getfield 16, 3) := by decide +kernel
theorem dX2_takeLast_40 : decode cX2_takeLast 40 = .ok (.aaload, 1) := by decide +kernel
theorem dX2_takeLast_41 : decode cX2_takeLast 41 = .ok (.invokevirtual 23, 3) := by decide +kernel
theorem dX2_takeLast_44 : decode cX2_takeLast 44 = .ok (.iconst 1, 1) := by decide +kernel
theorem dX2_takeLast_45 : decode cX2_takeLast 45 = .ok (.ireturn, 1) := by decide +kernel
theorem dX3_init_0 : decode cX3_init 0 = .ok (.aload_n 0, 1) := by decide +kernel
theorem dX3_init_1 : decode cX3_init 1 = .ok (.invokespecial 3, 3) := by decide +kernel
theorem dX3_init_4 : decode cX3_init 4 = .ok (.aload_n 0, 1) := by decide +kernel
theorem dX3_init_5 : decode cX3_init 5 = .ok (.iconst 4, 1) := by decide +kernel
theorem dX3_init_6 : decode cX3_init 6 = .ok (.newarray .int, 2) := by decide +kernel
theorem dX3_init_8 : decode cX3_init 8 = .ok (.putfield 11, 3) := by decide +kernel
theorem dX3_init_11 : decode cX3_init 11 = .ok (.return_, 1) := by decide +kernel
set_option maxRecDepth 20000 in
theorem ggX3_read_X0_empty : GoodIn wsX3_read wsX0_empty := goodIn_r _ [5, 6, 7, 8, 9, 10, 83, 84, 85, 86, 87, 88, 89, 90, 91, 92, 93] (by decide +kernel) (by decide +kernel)
set_option maxRecDepth 20000 in
theorem gX3_read_X0_empty : GoodIn wsX3_read (wsV RX3 15 RX0 yX0_empty wsX0_empty) := goodIn_app (goodIn_of _ (by decide +kernel)) ggX3_read_X0_empty
set_option maxRecDepth 20000 in
theorem ggX3_read_X3_letterAt : GoodIn wsX3_read wsX3_letterAt := goodIn_r _ [14] (by decide +kernel) (by decide +kernel)
set_option maxRecDepth 20000 in
theorem gX3_read_X3_letterAt : GoodIn wsX3_read (va_wsS RX3 20 yX3_letterAt wsX3_letterAt) := goodIn_app (goodIn_of _ (by decide +kernel)) ggX3_read_X3_letterAt
set_option maxRecDepth 20000 in
theorem ggX3_read_X3_numbersOf : GoodIn wsX3_read wsX3_numbersOf := goodIn_r _ [17] (by decide +kernel) (by decide +kernel)
set_option maxRecDepth 20000 in
theorem gX3_read_X3_numbersOf : GoodIn wsX3_read (va_wsS RX3 24 yX3_numbersOf wsX3_numbersOf) := goodIn_app (goodIn_of _ (by decide +kernel)) ggX3_read_X3_numbersOf
set_option maxRecDepth 20000 in
theorem ggX3_read_X3_readNumbers : GoodIn wsX3_read wsX3_readNumbers := goodIn_r _ [21, 22, 23, 24, 13, 25, 11, 12, 14, 26, 27, 28, 29, 30, 31, 94] (by decide +kernel) (by decide +kernel)
set_option maxRecDepth 20000 in
theorem gX3_read_X3_readNumbers : GoodIn wsX3_read (wsV RX3 28 RX3 yX3_readNumbers wsX3_readNumbers) := goodIn_app (goodIn_of _ (by decide +kernel)) ggX3_read_X3_readNumbers
set_option maxRecDepth 20000 in
theorem ggX3_read_X3_putItem : GoodIn wsX3_read wsX3_putItem := goodIn_r _ [35, 22, 36, 37, 38, 39, 4, 40, 6, 7, 41, 42, 43, 44, 45, 46, 47, 48, 49, 50, 51, 52, 53, 54, 55, 56, 57, 58, 59, 60, 8, 61, 62, 63, 64, 65, 66, 67, 68, 69, 70, 71, 72, 73, 74, 75, 76, 77, 78, 79, 80, 81, 82, 94, 83, 84, 85, 86, 87, 88, 89, 90, 91, 92, 93] (by decide +kernel) (by decide +kernel)
set_option maxRecDepth 20000 in
theorem gX3_read_X3_putItem : GoodIn wsX3_read (wsV RX3 32 RX3 yX3_putItem wsX3_putItem) := goodIn_app (goodIn_of _ (by decide +kernel)) ggX3_read_X3_putItem
theorem dX3_read_0 : decode cX3_read 0 = .ok (.aload_n 3, 1) := by decide +kernel
theorem dX3_read_1 : decode cX3_read 1 = .ok (.invokevirtual 15, 3) := by decide +kernel
theorem dX3_read_4 : decode cX3_read 4 = .ok (.iconst 0, 1) := by decide +kernel
theorem dX3_read_5 : decode cX3_read 5 = .ok (.istore 4, 2) := by decide +kernel
theorem dX3_read_7 : decode cX3_read 7 = .ok (.iconst 0, 1) := by decide +kernel
theorem dX3_read_8 : decode cX3_read 8 = .ok (.istore 5, 2) := by decide +kernel
theorem dX3_read_10 : decode cX3_read 10 = .ok (.iload 5, 2) := by decide +kernel
theorem dX3_read_12 : decode cX3_read 12 = .ok (.sipush 200, 3) := by decide +kernel
theorem dX3_read_15 : decode cX3_read 15 = .ok (.if_icmp .ge 65, 3) := by decide +kernel
theorem dX3_read_18 : decode cX3_read 18 = .ok (.iload 4, 2) := by decide +kernel
theorem dX3_read_20 : decode cX3_read 20 = .ok (.iload_n 2, 1) := by decide +kernel
theorem dX3_read_21 : decode cX3_read 21 = .ok (.if_icmp .ge 59, 3) := by decide +kernel
theorem dX3_read_24 : decode cX3_read 24 = .ok (.aload_n 1, 1) := by decide +kernel
theorem dX3_read_25 : decode cX3_read 25 = .ok (.iload_n 2, 1) := by decide +kernel
theorem dX3_read_26 : decode cX3_read 26 = .ok (.iload 4, 2) := by decide +kernel
theorem dX3_read_28 : decode cX3_read 28 = .ok (.invokestatic 20, 3) := by decide +kernel
theorem dX3_read_31 : decode cX3_read 31 = .ok (.istore 6, 2) := by decide +kernel
theorem dX3_read_33 : decode cX3_read 33 = .ok (.aload_n 0, 1) := by decide +kernel
theorem dX3_read_34 : decode cX3_read 34 = .ok (.aload_n 1, 1) := by decide +kernel
theorem dX3_read_35 : decode cX3_read 35 = .ok (.iload_n 2, 1) := by decide +kernel
theorem dX3_read_36 : decode cX3_read 36 = .ok (.iload 4, 2) := by decide +kernel
theorem dX3_read_38 : decode cX3_read 38 = .ok (.iconst 1, 1) := by decide +kernel
theorem dX3_read_39 : decode cX3_read 39 = .ok (.iadd, 1) := by decide +kernel
theorem dX3_read_40 : decode cX3_read 40 = .ok (.iload 6, 2) := by decide +kernel
theorem dX3_read_42 : decode cX3_read 42 = .ok (.invokestatic 24, 3) := by decide +kernel
theorem dX3_read_45 : decode cX3_read 45 = .ok (.invokevirtual 28, 3) := by decide +kernel
theorem dX3_read_48 : decode cX3_read 48 = .ok (.istore 7, 2) := by decide +kernel
theorem dX3_read_50 : decode cX3_read 50 = .ok (.iload 7, 2) := by decide +kernel
theorem dX3_read_52 : decode cX3_read 52 = .ok (.bipush (-4), 2) := by decide +kernel
theorem dX3_read_54 : decode cX3_read 54 = .ok (.if_icmp .eq 13, 3) := by decide +kernel
theorem dX3_read_57 : decode cX3_read 57 = .ok (.aload_n 0, 1) := by decide +kernel
theorem dX3_read_58 : decode cX3_read 58 = .ok (.iload 6, 2) := by decide +kernel
theorem dX3_read_60 : decode cX3_read 60 = .ok (.aload_n 3, 1) := by decide +kernel
theorem dX3_read_61 : decode cX3_read 61 = .ok (.invokevirtual 32, 3) := by decide +kernel
theorem dX3_read_64 : decode cX3_read 64 = .ok (.ifCond .ne 6, 3) := by decide +kernel
theorem dX3_read_67 : decode cX3_read 67 = .ok (.iload 4, 2) := by decide +kernel
theorem dX3_read_69 : decode cX3_read 69 = .ok (.ireturn, 1) := by decide +kernel
theorem dX3_read_70 : decode cX3_read 70 = .ok (.iload 7, 2) := by decide +kernel
theorem dX3_read_72 : decode cX3_read 72 = .ok (.istore 4, 2) := by decide +kernel
theorem dX3_read_74 : decode cX3_read 74 = .ok (.iinc 5 1, 3) := by decide +kernel
theorem dX3_read_77 : decode cX3_read 77 = .ok (.goto (-67), 3) := by decide +kernel
theorem dX3_read_80 : decode cX3_read 80 = .ok (.bipush (-4), 2) := by decide +kernel
theorem dX3_read_82 : decode cX3_read 82 = .ok (.ireturn, 1) := by decide +kernel
set_option maxRecDepth 20000 in
theorem ggX3_readNumbers_X3_figuresAt : GoodIn wsX3_readNumbers wsX3_figuresAt := goodIn_r _ [5, 6, 7, 4, 8, 9, 10, 11] (by decide +kernel) (by decide +kernel)
set_option maxRecDepth 20000 in
theorem gX3_readNumbers_X3_figuresAt : GoodIn wsX3_readNumbers (va_wsS RX3 36 yX3_figuresAt wsX3_figuresAt) := goodIn_app (goodIn_of _ (by decide +kernel)) ggX3_readNumbers_X3_figuresAt
set_option maxRecDepth 20000 in
theorem ggX3_readNumbers_X3_numberOf : GoodIn wsX3_readNumbers wsX3_numberOf := goodIn_r _ [14, 6, 7, 4, 8] (by decide +kernel) (by decide +kernel)
set_option maxRecDepth 20000 in
theorem gX3_readNumbers_X3_numberOf : GoodIn wsX3_readNumbers (va_wsS RX3 39 yX3_numberOf wsX3_numberOf) := goodIn_app (goodIn_of _ (by decide +kernel)) ggX3_readNumbers_X3_numberOf
set_option maxRecDepth 20000 in
theorem ggX3_readNumbers_X3_letterAt : GoodIn wsX3_readNumbers wsX3_letterAt := goodIn_r _ [8] (by decide +kernel) (by decide +kernel)
set_option maxRecDepth 20000 in
theorem gX3_readNumbers_X3_letterAt : GoodIn wsX3_readNumbers (va_wsS RX3 20 yX3_letterAt wsX3_letterAt) := goodIn_app (goodIn_of _ (by decide +kernel)) ggX3_readNumbers_X3_letterAt
theorem dX3_readNumbers_0 : decode cX3_readNumbers 0 = .ok (.iload_n 3, 1) := by decide +kernel
theorem dX3_readNumbers_1 : decode cX3_readNumbers 1 = .ok (.istore 5, 2) := by decide +kernel
theorem dX3_readNumbers_3 : decode cX3_readNumbers 3 = .ok (.iconst 0, 1) := by decide +kernel
theorem dX3_readNumbers_4 : decode cX3_readNumbers 4 = .ok (.istore 6, 2) := by decide +kernel
theorem dX3_readNumbers_6 : decode cX3_readNumbers 6 = .ok (.iload 6, 2) := by decide +kernel
theorem dX3_readNumbers_8 : decode cX3_readNumbers 8 = .ok (.iload 4, 2) := by decide +kernel
theorem dX3_readNumbers_10 : decode cX3_readNumbers 10 = .ok (.if_icmp .ge 87, 3) := by decide +kernel
theorem dX3_readNumbers_13 : decode cX3_readNumbers 13 = .ok (.iload 6, 2) := by decide +kernel
theorem dX3_readNumbers_15 : decode cX3_readNumbers 15 = .ok (.iconst 4, 1) := by decide +kernel
theorem dX3_readNumbers_16 : decode cX3_readNumbers 16 = .ok (.if_icmp .ge 81, 3) := by decide +kernel
theorem dX3_readNumbers_19 : decode cX3_readNumbers 19 = .ok (.aload_n 1, 1) := by decide +kernel
theorem dX3_readNumbers_20 : decode cX3_readNumbers 20 = .ok (.iload_n 2, 1) := by decide +kernel
theorem dX3_readNumbers_21 : decode cX3_readNumbers 21 = .ok (.iload 5, 2) := by decide +kernel
theorem dX3_readNumbers_23 : decode cX3_readNumbers 23 = .ok (.invokestatic 36, 3) := by decide +kernel
theorem dX3_readNumbers_26 : decode cX3_readNumbers 26 = .ok (.istore 7, 2) := by decide +kernel
theorem dX3_readNumbers_28 : decode cX3_readNumbers 28 = .ok (.iload 7, 2) := by decide +kernel
theorem dX3_readNumbers_30 : decode cX3_readNumbers 30 = .ok (.ifCond .ne 6, 3) := by decide +kernel
theorem dX3_readNumbers_33 : decode cX3_readNumbers 33 = .ok (.bipush (-4), 2) := by decide +kernel
theorem dX3_readNumbers_35 : decode cX3_readNumbers 35 = .ok (.ireturn, 1) := by decide +kernel
theorem dX3_readNumbers_36 : decode cX3_readNumbers 36 = .ok (.aload_n 0, 1) := by decide +kernel
theorem dX3_readNumbers_37 : decode cX3_readNumbers 37 = .ok (.getfield 11, 3) := by decide +kernel
theorem dX3_readNumbers_40 : decode cX3_readNumbers 40 = .ok (.iload 6, 2) := by decide +kernel
theorem dX3_readNumbers_42 : decode cX3_readNumbers 42 = .ok (.aload_n 1, 1) := by decide +kernel
theorem dX3_readNumbers_43 : decode cX3_readNumbers 43 = .ok (.iload_n 2, 1) := by decide +kernel
theorem dX3_readNumbers_44 : decode cX3_readNumbers 44 = .ok (.iload 5, 2) := by decide +kernel
theorem dX3_readNumbers_46 : decode cX3_readNumbers 46 = .ok (.iload 7, 2) := by decide +kernel
theorem dX3_readNumbers_48 : decode cX3_readNumbers 48 = .ok (.invokestatic 39, 3) := by decide +kernel
theorem dX3_readNumbers_51 : decode cX3_readNumbers 51 = .ok (.iastore, 1) := by decide +kernel
theorem dX3_readNumbers_52 : decode cX3_readNumbers 52 = .ok (.iload 5, 2) := by decide +kernel
theorem dX3_readNumbers_54 : decode cX3_readNumbers 54 = .ok (.iload 7, 2) := by decide +kernel
theorem dX3_readNumbers_56 : decode cX3_readNumbers 56 = .ok (.iadd, 1) := by decide +kernel
theorem dX3_readNumbers_57 : decode cX3_readNumbers 57 = .ok (.istore 5, 2) := by decide +kernel
theorem dX3_readNumbers_59 : decode cX3_readNumbers 59 = .ok (.aload_n 1, 1) := by decide +kernel
theorem dX3_readNumbers_60 : decode cX3_readNumbers 60 = .ok (.iload_n 2, 1) := by decide +kernel
theorem dX3_readNumbers_61 : decode cX3_readNumbers 61 = .ok (.iload 5, 2) := by decide +kernel
theorem dX3_readNumbers_63 : decode cX3_readNumbers 63 = .ok (.invokestatic 20, 3) := by decide +kernel
theorem dX3_readNumbers_66 : decode cX3_readNumbers 66 = .ok (.iload 6, 2) := by decide +kernel
theorem dX3_readNumbers_68 : decode cX3_readNumbers 68 = .ok (.iconst 1, 1) := by decide +kernel
theorem dX3_readNumbers_69 : decode cX3_readNumbers 69 = .ok (.iadd, 1) := by decide +kernel
theorem dX3_readNumbers_70 : decode cX3_readNumbers 70 = .ok (.iload 4, 2) := by decide +kernel
theorem dX3_readNumbers_72 : decode cX3_readNumbers 72 = .ok (.if_icmp .ge 8, 3) := by decide +kernel
theorem dX3_readNumbers_75 : decode cX3_readNumbers 75 = .ok (.bipush 44, 2) := by decide +kernel
theorem dX3_readNumbers_77 : decode cX3_readNumbers 77 = .ok (.goto 5, 3) := by decide +kernel
theorem dX3_readNumbers_80 : decode cX3_readNumbers 80 = .ok (.bipush 59, 2) := by decide +kernel
theorem dX3_readNumbers_82 : decode cX3_readNumbers 82 = .ok (.if_icmp .eq 6, 3) := by decide +kernel
theorem dX3_readNumbers_85 : decode cX3_readNumbers 85 = .ok (.bipush (-4), 2) := by decide +kernel
theorem dX3_readNumbers_87 : decode cX3_readNumbers 87 = .ok (.ireturn, 1) := by decide +kernel
theorem dX3_readNumbers_88 : decode cX3_readNumbers 88 = .ok (.iinc 5 1, 3) := by decide +kernel
theorem dX3_readNumbers_91 : decode cX3_readNumbers 91 = .ok (.iinc 6 1, 3) := by decide +kernel
theorem dX3_readNumbers_94 : decode cX3_readNumbers 94 = .ok (.goto (-88), 3) := by decide +kernel
theorem dX3_readNumbers_97 : decode cX3_readNumbers 97 = .ok (.iload 4, 2) := by decide +kernel
theorem dX3_readNumbers_99 : decode cX3_readNumbers 99 = .ok (.ifCond .ne 8, 3) := by decide +kernel
theorem dX3_readNumbers_102 : decode cX3_readNumbers 102 = .ok (.bipush (-4), 2) := by decide +kernel
theorem dX3_readNumbers_104 : decode cX3_readNumbers 104 = .ok (.goto 5, 3) := by decide +kernel
theorem dX3_readNumbers_107 : decode cX3_readNumbers 107 = .ok (.iload 5, 2) := by decide +kernel
theorem dX3_readNumbers_109 : decode cX3_readNumbers 109 = .ok (.ireturn, 1) := by decide +kernel
theorem dX3_numbersOf_0 : decode cX3_numbersOf 0 = .ok (.iload_n 0, 1) := by decide +kernel
theorem dX3_numbersOf_1 : decode cX3_numbersOf 1 = .ok (.bipush 115, 2) := by decide +kernel
theorem dX3_numbersOf_3 : decode cX3_numbersOf 3 = .ok (.if_icmp .ne 5, 3) := by decide +kernel
theorem dX3_numbersOf_6 : decode cX3_numbersOf 6 = .ok (.iconst 4, 1) := by decide +kernel
theorem dX3_numbersOf_7 : decode cX3_numbersOf 7 = .ok (.ireturn, 1) := by decide +kernel
theorem dX3_numbersOf_8 : decode cX3_numbersOf 8 = .ok (.iload_n 0, 1) := by decide +kernel
theorem dX3_numbersOf_9 : decode cX3_numbersOf 9 = .ok (.bipush 102, 2) := by decide +kernel
theorem dX3_numbersOf_11 : decode cX3_numbersOf 11 = .ok (.if_icmp .eq 9, 3) := by decide +kernel
theorem dX3_numbersOf_14 : decode cX3_numbersOf 14 = .ok (.iload_n 0, 1) := by decide +kernel
theorem dX3_numbersOf_15 : decode cX3_numbersOf 15 = .ok (.bipush 114, 2) := by decide +kernel
theorem dX3_numbersOf_17 : decode cX3_numbersOf 17 = .ok (.if_icmp .ne 7, 3) := by decide +kernel
theorem dX3_numbersOf_20 : decode cX3_numbersOf 20 = .ok (.iconst 1, 1) := by decide +kernel
theorem dX3_numbersOf_21 : decode cX3_numbersOf 21 = .ok (.goto 4, 3) := by decide +kernel
theorem dX3_numbersOf_24 : decode cX3_numbersOf 24 = .ok (.iconst 0, 1) := by decide +kernel
theorem dX3_numbersOf_25 : decode cX3_numbersOf 25 = .ok (.ireturn, 1) := by decide +kernel
theorem dX3_letterAt_0 : decode cX3_letterAt 0 = .ok (.iload_n 2, 1) := by decide +kernel
theorem dX3_letterAt_1 : decode cX3_letterAt 1 = .ok (.ifCond .lt 20, 3) := by decide +kernel
theorem dX3_letterAt_4 : decode cX3_letterAt 4 = .ok (.iload_n 2, 1) := by decide +kernel
theorem dX3_letterAt_5 : decode cX3_letterAt 5 = .ok (.iload_n 1, 1) := by decide +kernel
theorem dX3_letterAt_6 : decode cX3_letterAt 6 = .ok (.if_icmp .ge 15, 3) := by decide +kernel
theorem dX3_letterAt_9 : decode cX3_letterAt 9 = .ok (.iload_n 2, 1) := by decide +kernel
theorem dX3_letterAt_10 : decode cX3_letterAt 10 = .ok (.aload_n 0, 1) := by decide +kernel
theorem dX3_letterAt_11 : decode cX3_letterAt 11 = .ok (.arraylength, 1) := by decide +kernel
theorem dX3_letterAt_12 : decode cX3_letterAt 12 = .ok (.if_icmp .ge 9, 3) := by decide +kernel
theorem dX3_letterAt_15 : decode cX3_letterAt 15 = .ok (.aload_n 0, 1) := by decide +kernel
theorem dX3_letterAt_16 : decode cX3_letterAt 16 = .ok (.iload_n 2, 1) := by decide +kernel
theorem dX3_letterAt_17 : decode cX3_letterAt 17 = .ok (.caload, 1) := by decide +kernel
theorem dX3_letterAt_18 : decode cX3_letterAt 18 = .ok (.goto 5, 3) := by decide +kernel
theorem dX3_letterAt_21 : decode cX3_letterAt 21 = .ok (.bipush (-4), 2) := by decide +kernel
theorem dX3_letterAt_23 : decode cX3_letterAt 23 = .ok (.ireturn, 1) := by decide +kernel
theorem dX3_isFigure_0 : decode cX3_isFigure 0 = .ok (.iload_n 0, 1) := by decide +kernel
theorem dX3_isFigure_1 : decode cX3_isFigure 1 = .ok (.bipush 48, 2) := by decide +kernel
theorem dX3_isFigure_3 : decode cX3_isFigure 3 = .ok (.if_icmp .lt 13, 3) := by decide +kernel
theorem dX3_isFigure_6 : decode cX3_isFigure 6 = .ok (.iload_n 0, 1) := by decide +kernel
theorem dX3_isFigure_7 : decode cX3_isFigure 7 = .ok (.bipush 57, 2) := by decide +kernel
theorem dX3_isFigure_9 : decode cX3_isFigure 9 = .ok (.if_icmp .gt 7, 3) := by decide +kernel
theorem dX3_isFigure_12 : decode cX3_isFigure 12 = .ok (.iconst 1, 1) := by decide +kernel
theorem dX3_isFigure_13 : decode cX3_isFigure 13 = .ok (.goto 4, 3) := by decide +kernel
theorem dX3_isFigure_16 : decode cX3_isFigure 16 = .ok (.iconst 0, 1) := by decide +kernel
theorem dX3_isFigure_17 : decode cX3_isFigure 17 = .ok (.ireturn, 1) := by decide +kernel
set_option maxRecDepth 20000 in
theorem ggX3_figuresAt_X3_letterAt : GoodIn wsX3_figuresAt wsX3_letterAt := goodIn_r _ [4] (by decide +kernel) (by decide +kernel)
set_option maxRecDepth 20000 in
theorem gX3_figuresAt_X3_letterAt : GoodIn wsX3_figuresAt (va_wsS RX3 20 yX3_letterAt wsX3_letterAt) := goodIn_app (goodIn_of _ (by decide +kernel)) ggX3_figuresAt_X3_letterAt
set_option maxRecDepth 20000 in
theorem ggX3_figuresAt_X3_isFigure : GoodIn wsX3_figuresAt wsX3_isFigure := goodIn_r _ [7] (by decide +kernel) (by decide +kernel)
set_option maxRecDepth 20000 in
theorem gX3_figuresAt_X3_isFigure : GoodIn wsX3_figuresAt (va_wsS RX3 42 yX3_isFigure wsX3_isFigure) := goodIn_app (goodIn_of _ (by decide +kernel)) ggX3_figuresAt_X3_isFigure
theorem dX3_figuresAt_0 : decode cX3_figuresAt 0 = .ok (.aload_n 0, 1) := by decide +kernel
theorem dX3_figuresAt_1 : decode cX3_figuresAt 1 = .ok (.iload_n 1, 1) := by decide +kernel
theorem dX3_figuresAt_2 : decode cX3_figuresAt 2 = .ok (.iload_n 2, 1) := by decide +kernel
theorem dX3_figuresAt_3 : decode cX3_figuresAt 3 = .ok (.invokestatic 20, 3) := by decide +kernel
theorem dX3_figuresAt_6 : decode cX3_figuresAt 6 = .ok (.invokestatic 42, 3) := by decide +kernel
theorem dX3_figuresAt_9 : decode cX3_figuresAt 9 = .ok (.ifCond .ne 5, 3) := by decide +kernel
theorem dX3_figuresAt_12 : decode cX3_figuresAt 12 = .ok (.iconst 0, 1) := by decide +kernel
theorem dX3_figuresAt_13 : decode cX3_figuresAt 13 = .ok (.ireturn, 1) := by decide +kernel
theorem dX3_figuresAt_14 : decode cX3_figuresAt 14 = .ok (.aload_n 0, 1) := by decide +kernel
theorem dX3_figuresAt_15 : decode cX3_figuresAt 15 = .ok (.iload_n 1, 1) := by decide +kernel
theorem dX3_figuresAt_16 : decode cX3_figuresAt 16 = .ok (.iload_n 2, 1) := by decide +kernel
theorem dX3_figuresAt_17 : decode cX3_figuresAt 17 = .ok (.iconst 1, 1) := by decide +kernel
theorem dX3_figuresAt_18 : decode cX3_figuresAt 18 = .ok (.iadd, 1) := by decide +kernel
theorem dX3_figuresAt_19 : decode cX3_figuresAt 19 = .ok (.invokestatic 20, 3) := by decide +kernel
theorem dX3_figuresAt_22 : decode cX3_figuresAt 22 = .ok (.invokestatic 42, 3) := by decide +kernel
theorem dX3_figuresAt_25 : decode cX3_figuresAt 25 = .ok (.ifCond .eq 7, 3) := by decide +kernel
theorem dX3_figuresAt_28 : decode cX3_figuresAt 28 = .ok (.iconst 2, 1) := by decide +kernel
theorem dX3_figuresAt_29 : decode cX3_figuresAt 29 = .ok (.goto 4, 3) := by decide +kernel
theorem dX3_figuresAt_32 : decode cX3_figuresAt 32 = .ok (.iconst 1, 1) := by decide +kernel
theorem dX3_figuresAt_33 : decode cX3_figuresAt 33 = .ok (.ireturn, 1) := by decide +kernel
set_option maxRecDepth 20000 in
theorem ggX3_numberOf_X3_letterAt : GoodIn wsX3_numberOf wsX3_letterAt := goodIn_r _ [4] (by decide +kernel) (by decide +kernel)
set_option maxRecDepth 20000 in
theorem gX3_numberOf_X3_letterAt : GoodIn wsX3_numberOf (va_wsS RX3 20 yX3_letterAt wsX3_letterAt) := goodIn_app (goodIn_of _ (by decide +kernel)) ggX3_numberOf_X3_letterAt
theorem dX3_numberOf_0 : decode cX3_numberOf 0 = .ok (.aload_n 0, 1) := by decide +kernel
theorem dX3_numberOf_1 : decode cX3_numberOf 1 = .ok (.iload_n 1, 1) := by decide +kernel
theorem dX3_numberOf_2 : decode cX3_numberOf 2 = .ok (.iload_n 2, 1) := by decide +kernel
theorem dX3_numberOf_3 : decode cX3_numberOf 3 = .ok (.invokestatic 20, 3) := by decide +kernel
theorem dX3_numberOf_6 : decode cX3_numberOf 6 = .ok (.bipush 48, 2) := by decide +kernel
theorem dX3_numberOf_8 : decode cX3_numberOf 8 = .ok (.isub, 1) := by decide +kernel
theorem dX3_numberOf_9 : decode cX3_numberOf 9 = .ok (.istore 4, 2) := by decide +kernel
theorem dX3_numberOf_11 : decode cX3_numberOf 11 = .ok (.iload_n 3, 1) := by decide +kernel
theorem dX3_numberOf_12 : decode cX3_numberOf 12 = .ok (.iconst 1, 1) := by decide +kernel
theorem dX3_numberOf_13 : decode cX3_numberOf 13 = .ok (.if_icmp .ne 8, 3) := by decide +kernel
theorem dX3_numberOf_16 : decode cX3_numberOf 16 = .ok (.iload 4, 2) := by decide +kernel
theorem dX3_numberOf_18 : decode cX3_numberOf 18 = .ok (.goto 20, 3) := by decide +kernel
theorem dX3_numberOf_21 : decode cX3_numberOf 21 = .ok (.bipush 10, 2) := by decide +kernel
theorem dX3_numberOf_23 : decode cX3_numberOf 23 = .ok (.iload 4, 2) := by decide +kernel
theorem dX3_numberOf_25 : decode cX3_numberOf 25 = .ok (.imul, 1) := by decide +kernel
theorem dX3_numberOf_26 : decode cX3_numberOf 26 = .ok (.aload_n 0, 1) := by decide +kernel
theorem dX3_numberOf_27 : decode cX3_numberOf 27 = .ok (.iload_n 1, 1) := by decide +kernel
theorem dX3_numberOf_28 : decode cX3_numberOf 28 = .ok (.iload_n 2, 1) := by decide +kernel
theorem dX3_numberOf_29 : decode cX3_numberOf 29 = .ok (.iconst 1, 1) := by decide +kernel
theorem dX3_numberOf_30 : decode cX3_numberOf 30 = .ok (.iadd, 1) := by decide +kernel
theorem dX3_numberOf_31 : decode cX3_numberOf 31 = .ok (.invokestatic 20, 3) := by decide +kernel
theorem dX3_numberOf_34 : decode cX3_numberOf 34 = .ok (.iadd, 1) := by decide +kernel
theorem dX3_numberOf_35 : decode cX3_numberOf 35 = .ok (.bipush 48, 2) := by decide +kernel
theorem dX3_numberOf_37 : decode cX3_numberOf 37 = .ok (.isub, 1) := by decide +kernel
theorem dX3_numberOf_38 : decode cX3_numberOf 38 = .ok (.ireturn, 1) := by decide +kernel
set_option maxRecDepth 20000 in
theorem ggX3_putItem_X0_turnFact : GoodIn wsX3_putItem wsX0_turnFact := goodIn_r _ [7, 8, 9, 10, 11, 12, 13, 14, 15, 16, 17, 18, 19, 6, 20, 21, 22, 23, 24, 25, 26, 27, 28, 29, 30, 31, 32, 54, 55, 56, 57, 58, 59, 60, 61, 62, 63, 64] (by decide +kernel) (by decide +kernel)
set_option maxRecDepth 20000 in
theorem gX3_putItem_X0_turnFact : GoodIn wsX3_putItem (wsV RX3 46 RX0 yX0_turnFact wsX0_turnFact) := goodIn_app (goodIn_of _ (by decide +kernel)) ggX3_putItem_X0_turnFact
set_option maxRecDepth 20000 in
theorem ggX3_putItem_X5_isFact : GoodIn wsX3_putItem wsX5_isFact := goodIn_r _ [13, 14, 15, 12, 16] (by decide +kernel) (by decide +kernel)
set_option maxRecDepth 20000 in
theorem gX3_putItem_X5_isFact_n50 : GoodIn wsX3_putItem (wsX5_isFact) := ggX3_putItem_X5_isFact
set_option maxRecDepth 20000 in
theorem ggX3_putItem_X5_isWithin : GoodIn wsX3_putItem wsX5_isWithin := goodIn_r _ [16] (by decide +kernel) (by decide +kernel)
set_option maxRecDepth 20000 in
theorem gX3_putItem_X5_isWithin_n57 : GoodIn wsX3_putItem (wsX5_isWithin) := ggX3_putItem_X5_isWithin
set_option maxRecDepth 20000 in
theorem ggX3_putItem_X5_isSaying : GoodIn wsX3_putItem wsX5_isSaying := goodIn_r _ [34, 14, 15, 12, 16, 35, 36, 37] (by decide +kernel) (by decide +kernel)
set_option maxRecDepth 20000 in
theorem gX3_putItem_X5_isSaying_n61 : GoodIn wsX3_putItem (wsX5_isSaying) := ggX3_putItem_X5_isSaying
set_option maxRecDepth 20000 in
theorem ggX3_putItem_X0_addSaying : GoodIn wsX3_putItem wsX0_addSaying := goodIn_r _ [41, 9, 42, 43, 44, 45, 10, 25, 46, 12, 47, 48, 49, 50, 51, 52, 54, 55, 56, 57, 58, 59, 60, 61, 62, 63, 64] (by decide +kernel) (by decide +kernel)
set_option maxRecDepth 20000 in
theorem gX3_putItem_X0_addSaying : GoodIn wsX3_putItem (wsV RX3 65 RX0 yX0_addSaying wsX0_addSaying) := goodIn_app (goodIn_of _ (by decide +kernel)) ggX3_putItem_X0_addSaying
theorem dX3_putItem_0 : decode cX3_putItem 0 = .ok (.iload_n 1, 1) := by decide +kernel
theorem dX3_putItem_1 : decode cX3_putItem 1 = .ok (.bipush 102, 2) := by decide +kernel
theorem dX3_putItem_3 : decode cX3_putItem 3 = .ok (.if_icmp .ne 23, 3) := by decide +kernel
theorem dX3_putItem_6 : decode cX3_putItem 6 = .ok (.aload_n 2, 1) := by decide +kernel
theorem dX3_putItem_7 : decode cX3_putItem 7 = .ok (.aload_n 0, 1) := by decide +kernel
theorem dX3_putItem_8 : decode cX3_putItem 8 = .ok (.getfield 11, 3) := by decide +kernel
theorem dX3_putItem_11 : decode cX3_putItem 11 = .ok (.iconst 0, 1) := by decide +kernel
theorem dX3_putItem_12 : decode cX3_putItem 12 = .ok (.iaload, 1) := by decide +kernel
theorem dX3_putItem_13 : decode cX3_putItem 13 = .ok (.invokevirtual 46, 3) := by decide +kernel
theorem dX3_putItem_16 : decode cX3_putItem 16 = .ok (.aload_n 0, 1) := by decide +kernel
theorem dX3_putItem_17 : decode cX3_putItem 17 = .ok (.getfield 11, 3) := by decide +kernel
theorem dX3_putItem_20 : decode cX3_putItem 20 = .ok (.iconst 0, 1) := by decide +kernel
theorem dX3_putItem_21 : decode cX3_putItem 21 = .ok (.iaload, 1) := by decide +kernel
theorem dX3_putItem_22 : decode cX3_putItem 22 = .ok (.invokestatic 50, 3) := by decide +kernel
theorem dX3_putItem_25 : decode cX3_putItem 25 = .ok (.ireturn, 1) := by decide +kernel
theorem dX3_putItem_26 : decode cX3_putItem 26 = .ok (.iload_n 1, 1) := by decide +kernel
theorem dX3_putItem_27 : decode cX3_putItem 27 = .ok (.bipush 114, 2) := by decide +kernel
theorem dX3_putItem_29 : decode cX3_putItem 29 = .ok (.if_icmp .ne 26, 3) := by decide +kernel
theorem dX3_putItem_32 : decode cX3_putItem 32 = .ok (.aload_n 2, 1) := by decide +kernel
theorem dX3_putItem_33 : decode cX3_putItem 33 = .ok (.aload_n 0, 1) := by decide +kernel
theorem dX3_putItem_34 : decode cX3_putItem 34 = .ok (.getfield 11, 3) := by decide +kernel
theorem dX3_putItem_37 : decode cX3_putItem 37 = .ok (.iconst 0, 1) := by decide +kernel
theorem dX3_putItem_38 : decode cX3_putItem 38 = .ok (.iaload, 1) := by decide +kernel
theorem dX3_putItem_39 : decode cX3_putItem 39 = .ok (.putfield 53, 3) := by decide +kernel
theorem dX3_putItem_42 : decode cX3_putItem 42 = .ok (.aload_n 0, 1) := by decide +kernel
theorem dX3_putItem_43 : decode cX3_putItem 43 = .ok (.getfield 11, 3) := by decide +kernel
theorem dX3_putItem_46 : decode cX3_putItem 46 = .ok (.iconst 0, 1) := by decide +kernel
theorem dX3_putItem_47 : decode cX3_putItem 47 = .ok (.iaload, 1) := by decide +kernel
theorem dX3_putItem_48 : decode cX3_putItem 48 = .ok (.iconst 1, 1) := by decide +kernel
theorem dX3_putItem_49 : decode cX3_putItem 49 = .ok (.bipush 20, 2) := by decide +kernel
theorem dX3_putItem_51 : decode cX3_putItem 51 = .ok (.invokestatic 57, 3) := by decide +kernel
theorem dX3_putItem_54 : decode cX3_putItem 54 = .ok (.ireturn, 1) := by decide +kernel
theorem dX3_putItem_55 : decode cX3_putItem 55 = .ok (.aload_n 0, 1) := by decide +kernel
theorem dX3_putItem_56 : decode cX3_putItem 56 = .ok (.getfield 11, 3) := by decide +kernel
theorem dX3_putItem_59 : decode cX3_putItem 59 = .ok (.iconst 0, 1) := by decide +kernel
theorem dX3_putItem_60 : decode cX3_putItem 60 = .ok (.iaload, 1) := by decide +kernel
theorem dX3_putItem_61 : decode cX3_putItem 61 = .ok (.aload_n 0, 1) := by decide +kernel
theorem dX3_putItem_62 : decode cX3_putItem 62 = .ok (.getfield 11, 3) := by decide +kernel
theorem dX3_putItem_65 : decode cX3_putItem 65 = .ok (.iconst 1, 1) := by decide +kernel
theorem dX3_putItem_66 : decode cX3_putItem 66 = .ok (.iaload, 1) := by decide +kernel
theorem dX3_putItem_67 : decode cX3_putItem 67 = .ok (.aload_n 0, 1) := by decide +kernel
theorem dX3_putItem_68 : decode cX3_putItem 68 = .ok (.getfield 11, 3) := by decide +kernel
theorem dX3_putItem_71 : decode cX3_putItem 71 = .ok (.iconst 2, 1) := by decide +kernel
theorem dX3_putItem_72 : decode cX3_putItem 72 = .ok (.iaload, 1) := by decide +kernel
theorem dX3_putItem_73 : decode cX3_putItem 73 = .ok (.aload_n 0, 1) := by decide +kernel
theorem dX3_putItem_74 : decode cX3_putItem 74 = .ok (.getfield 11, 3) := by decide +kernel
theorem dX3_putItem_77 : decode cX3_putItem 77 = .ok (.iconst 3, 1) := by decide +kernel
theorem dX3_putItem_78 : decode cX3_putItem 78 = .ok (.iaload, 1) := by decide +kernel
theorem dX3_putItem_79 : decode cX3_putItem 79 = .ok (.invokestatic 61, 3) := by decide +kernel
theorem dX3_putItem_82 : decode cX3_putItem 82 = .ok (.ifCond .eq 40, 3) := by decide +kernel
theorem dX3_putItem_85 : decode cX3_putItem 85 = .ok (.aload_n 2, 1) := by decide +kernel
theorem dX3_putItem_86 : decode cX3_putItem 86 = .ok (.aload_n 0, 1) := by decide +kernel
theorem dX3_putItem_87 : decode cX3_putItem 87 = .ok (.getfield 11, 3) := by decide +kernel
theorem dX3_putItem_90 : decode cX3_putItem 90 = .ok (.iconst 0, 1) := by decide +kernel
theorem dX3_putItem_91 : decode cX3_putItem 91 = .ok (.iaload, 1) := by decide +kernel
theorem dX3_putItem_92 : decode cX3_putItem 92 = .ok (.aload_n 0, 1) := by decide +kernel
theorem dX3_putItem_93 : decode cX3_putItem 93 = .ok (.getfield 11, 3) := by decide +kernel
theorem dX3_putItem_96 : decode cX3_putItem 96 = .ok (.iconst 1, 1) := by decide +kernel
theorem dX3_putItem_97 : decode cX3_putItem 97 = .ok (.iaload, 1) := by decide +kernel
theorem dX3_putItem_98 : decode cX3_putItem 98 = .ok (.aload_n 0, 1) := by decide +kernel
theorem dX3_putItem_99 : decode cX3_putItem 99 = .ok (.getfield 11, 3) := by decide +kernel
theorem dX3_putItem_102 : decode cX3_putItem 102 = .ok (.iconst 2, 1) := by decide +kernel
theorem dX3_putItem_103 : decode cX3_putItem 103 = .ok (.iaload, 1) := by decide +kernel
theorem dX3_putItem_104 : decode cX3_putItem 104 = .ok (.aload_n 0, 1) := by decide +kernel
theorem dX3_putItem_105 : decode cX3_putItem 105 = .ok (.getfield 11, 3) := by decide +kernel
theorem dX3_putItem_108 : decode cX3_putItem 108 = .ok (.iconst 3, 1) := by decide +kernel
theorem dX3_putItem_109 : decode cX3_putItem 109 = .ok (.iaload, 1) := by decide +kernel
theorem dX3_putItem_110 : decode cX3_putItem 110 = .ok (.invokevirtual 65, 3) := by decide +kernel
theorem dX3_putItem_113 : decode cX3_putItem 113 = .ok (.bipush (-3), 2) := by decide +kernel
theorem dX3_putItem_115 : decode cX3_putItem 115 = .ok (.if_icmp .eq 7, 3) := by decide +kernel
theorem dX3_putItem_118 : decode cX3_putItem 118 = .ok (.iconst 1, 1) := by decide +kernel
theorem dX3_putItem_119 : decode cX3_putItem 119 = .ok (.goto 4, 3) := by decide +kernel
theorem dX3_putItem_122 : decode cX3_putItem 122 = .ok (.iconst 0, 1) := by decide +kernel
theorem dX3_putItem_123 : decode cX3_putItem 123 = .ok (.ireturn, 1) := by decide +kernel
theorem dX4_init_0 : decode cX4_init 0 = .ok (.aload_n 0, 1) := by decide +kernel
theorem dX4_init_1 : decode cX4_init 1 = .ok (.invokespecial 3, 3) := by decide +kernel
theorem dX4_init_4 : decode cX4_init 4 = .ok (.aload_n 0, 1) := by decide +kernel
theorem dX4_init_5 : decode cX4_init 5 = .ok (.bipush 6, 2) := by decide +kernel
theorem dX4_init_7 : decode cX4_init 7 = .ok (.newarray .int, 2) := by decide +kernel
theorem dX4_init_9 : decode cX4_init 9 = .ok (.putfield 9, 3) := by decide +kernel
theorem dX4_init_12 : decode cX4_init 12 = .ok (.aload_n 0, 1) := by decide +kernel
theorem dX4_init_13 : decode cX4_init 13 = .ok (.bipush 6, 2) := by decide +kernel
theorem dX4_init_15 : decode cX4_init 15 = .ok (.newarray .boolean, 2) := by decide +kernel
theorem dX4_init_17 : decode cX4_init 17 = .ok (.putfield 15, 3) := by decide +kernel
theorem dX4_init_20 : decode cX4_init 20 = .ok (.return_, 1) := by decide +kernel
theorem dX4_clear_0 : decode cX4_clear 0 = .ok (.aload_n 0, 1) := by decide +kernel
theorem dX4_clear_1 : decode cX4_clear 1 = .ok (.iconst 0, 1) := by decide +kernel
theorem dX4_clear_2 : decode cX4_clear 2 = .ok (.putfield 19, 3) := by decide +kernel
theorem dX4_clear_5 : decode cX4_clear 5 = .ok (.return_, 1) := by decide +kernel
theorem dX4_add_0 : decode cX4_add 0 = .ok (.aload_n 0, 1) := by decide +kernel
theorem dX4_add_1 : decode cX4_add 1 = .ok (.getfield 19, 3) := by decide +kernel
theorem dX4_add_4 : decode cX4_add 4 = .ok (.bipush 6, 2) := by decide +kernel
theorem dX4_add_6 : decode cX4_add 6 = .ok (.if_icmp .lt 6, 3) := by decide +kernel
theorem dX4_add_9 : decode cX4_add 9 = .ok (.bipush (-3), 2) := by decide +kernel
theorem dX4_add_11 : decode cX4_add 11 = .ok (.ireturn, 1) := by decide +kernel
theorem dX4_add_12 : decode cX4_add 12 = .ok (.aload_n 0, 1) := by decide +kernel
theorem dX4_add_13 : decode cX4_add 13 = .ok (.getfield 9, 3) := by decide +kernel
theorem dX4_add_16 : decode cX4_add 16 = .ok (.aload_n 0, 1) := by decide +kernel
theorem dX4_add_17 : decode cX4_add 17 = .ok (.getfield 19, 3) := by decide +kernel
theorem dX4_add_20 : decode cX4_add 20 = .ok (.iload_n 1, 1) := by decide +kernel
theorem dX4_add_21 : decode cX4_add 21 = .ok (.iastore, 1) := by decide +kernel
theorem dX4_add_22 : decode cX4_add 22 = .ok (.aload_n 0, 1) := by decide +kernel
theorem dX4_add_23 : decode cX4_add 23 = .ok (.getfield 15, 3) := by decide +kernel
theorem dX4_add_26 : decode cX4_add 26 = .ok (.aload_n 0, 1) := by decide +kernel
theorem dX4_add_27 : decode cX4_add 27 = .ok (.getfield 19, 3) := by decide +kernel
theorem dX4_add_30 : decode cX4_add 30 = .ok (.iload_n 2, 1) := by decide +kernel
theorem dX4_add_31 : decode cX4_add 31 = .ok (.bastore, 1) := by decide +kernel
theorem dX4_add_32 : decode cX4_add 32 = .ok (.aload_n 0, 1) := by decide +kernel
theorem dX4_add_33 : decode cX4_add 33 = .ok (.dup, 1) := by decide +kernel
theorem dX4_add_34 : decode cX4_add 34 = .ok (.getfield 19, 3) := by decide +kernel
theorem dX4_add_37 : decode cX4_add 37 = .ok (.iconst 1, 1) := by decide +kernel
theorem dX4_add_38 : decode cX4_add 38 = .ok (.iadd, 1) := by decide +kernel
theorem dX4_add_39 : decode cX4_add 39 = .ok (.putfield 19, 3) := by decide +kernel
theorem dX4_add_42 : decode cX4_add 42 = .ok (.aload_n 0, 1) := by decide +kernel
theorem dX4_add_43 : decode cX4_add 43 = .ok (.getfield 19, 3) := by decide +kernel
theorem dX4_add_46 : decode cX4_add 46 = .ok (.ireturn, 1) := by decide +kernel
set_option maxRecDepth 20000 in
theorem ggX4_worldsAsSeen_X0_policedWorlds : GoodIn wsX4_worldsAsSeen wsX0_policedWorlds := goodIn_r _ [9, 10, 11, 12, 13, 14, 8, 15, 16, 17, 18, 19, 20, 21, 25, 26, 27, 28, 29, 30, 31, 32, 33, 34, 35] (by decide +kernel) (by decide +kernel)
set_option maxRecDepth 20000 in
theorem gX4_worldsAsSeen_X0_policedWorlds : GoodIn wsX4_worldsAsSeen (wsV RX4 25 RX0 yX0_policedWorlds wsX0_policedWorlds) := goodIn_app (goodIn_of _ (by decide +kernel)) ggX4_worldsAsSeen_X0_policedWorlds
theorem dX4_worldsAsSeen_0 : decode cX4_worldsAsSeen 0 = .ok (.ldc2_w 23, 3) := by decide +kernel
theorem dX4_worldsAsSeen_3 : decode cX4_worldsAsSeen 3 = .ok (.lstore_n 2, 1) := by decide +kernel
theorem dX4_worldsAsSeen_4 : decode cX4_worldsAsSeen 4 = .ok (.iconst 0, 1) := by decide +kernel
theorem dX4_worldsAsSeen_5 : decode cX4_worldsAsSeen 5 = .ok (.istore 4, 2) := by decide +kernel
theorem dX4_worldsAsSeen_7 : decode cX4_worldsAsSeen 7 = .ok (.iload 4, 2) := by decide +kernel
theorem dX4_worldsAsSeen_9 : decode cX4_worldsAsSeen 9 = .ok (.aload_n 0, 1) := by decide +kernel
theorem dX4_worldsAsSeen_10 : decode cX4_worldsAsSeen 10 = .ok (.getfield 19, 3) := by decide +kernel
theorem dX4_worldsAsSeen_13 : decode cX4_worldsAsSeen 13 = .ok (.if_icmp .ge 53, 3) := by decide +kernel
theorem dX4_worldsAsSeen_16 : decode cX4_worldsAsSeen 16 = .ok (.iload 4, 2) := by decide +kernel
theorem dX4_worldsAsSeen_18 : decode cX4_worldsAsSeen 18 = .ok (.bipush 6, 2) := by decide +kernel
theorem dX4_worldsAsSeen_20 : decode cX4_worldsAsSeen 20 = .ok (.if_icmp .ge 46, 3) := by decide +kernel
theorem dX4_worldsAsSeen_23 : decode cX4_worldsAsSeen 23 = .ok (.aload_n 1, 1) := by decide +kernel
theorem dX4_worldsAsSeen_24 : decode cX4_worldsAsSeen 24 = .ok (.aload_n 0, 1) := by decide +kernel
theorem dX4_worldsAsSeen_25 : decode cX4_worldsAsSeen 25 = .ok (.getfield 9, 3) := by decide +kernel
theorem dX4_worldsAsSeen_28 : decode cX4_worldsAsSeen 28 = .ok (.iload 4, 2) := by decide +kernel
theorem dX4_worldsAsSeen_30 : decode cX4_worldsAsSeen 30 = .ok (.iaload, 1) := by decide +kernel
theorem dX4_worldsAsSeen_31 : decode cX4_worldsAsSeen 31 = .ok (.invokevirtual 25, 3) := by decide +kernel
theorem dX4_worldsAsSeen_34 : decode cX4_worldsAsSeen 34 = .ok (.lstore 5, 2) := by decide +kernel
theorem dX4_worldsAsSeen_36 : decode cX4_worldsAsSeen 36 = .ok (.lload_n 2, 1) := by decide +kernel
theorem dX4_worldsAsSeen_37 : decode cX4_worldsAsSeen 37 = .ok (.aload_n 0, 1) := by decide +kernel
theorem dX4_worldsAsSeen_38 : decode cX4_worldsAsSeen 38 = .ok (.getfield 15, 3) := by decide +kernel
theorem dX4_worldsAsSeen_41 : decode cX4_worldsAsSeen 41 = .ok (.iload 4, 2) := by decide +kernel
theorem dX4_worldsAsSeen_43 : decode cX4_worldsAsSeen 43 = .ok (.baload, 1) := by decide +kernel
theorem dX4_worldsAsSeen_44 : decode cX4_worldsAsSeen 44 = .ok (.ifCond .eq 8, 3) := by decide +kernel
theorem dX4_worldsAsSeen_47 : decode cX4_worldsAsSeen 47 = .ok (.lload 5, 2) := by decide +kernel
theorem dX4_worldsAsSeen_49 : decode cX4_worldsAsSeen 49 = .ok (.goto 9, 3) := by decide +kernel
theorem dX4_worldsAsSeen_52 : decode cX4_worldsAsSeen 52 = .ok (.lload 5, 2) := by decide +kernel
theorem dX4_worldsAsSeen_54 : decode cX4_worldsAsSeen 54 = .ok (.ldc2_w 23, 3) := by decide +kernel
theorem dX4_worldsAsSeen_57 : decode cX4_worldsAsSeen 57 = .ok (.lxor, 1) := by decide +kernel
theorem dX4_worldsAsSeen_58 : decode cX4_worldsAsSeen 58 = .ok (.land, 1) := by decide +kernel
theorem dX4_worldsAsSeen_59 : decode cX4_worldsAsSeen 59 = .ok (.lstore_n 2, 1) := by decide +kernel
theorem dX4_worldsAsSeen_60 : decode cX4_worldsAsSeen 60 = .ok (.iinc 4 1, 3) := by decide +kernel
theorem dX4_worldsAsSeen_63 : decode cX4_worldsAsSeen 63 = .ok (.goto (-56), 3) := by decide +kernel
theorem dX4_worldsAsSeen_66 : decode cX4_worldsAsSeen 66 = .ok (.lload_n 2, 1) := by decide +kernel
theorem dX4_worldsAsSeen_67 : decode cX4_worldsAsSeen 67 = .ok (.lreturn, 1) := by decide +kernel
set_option maxRecDepth 20000 in
theorem ggX5_init_X3_init : GoodIn wsX5_init wsX3_init := goodIn_r _ [29, 30, 2, 3, 31, 32, 195] (by decide +kernel) (by decide +kernel)
set_option maxRecDepth 20000 in
theorem gX5_init_X3_init_n15 : GoodIn wsX5_init (wsX3_init) := ggX5_init_X3_init
set_option maxRecDepth 20000 in
theorem ggX5_init_X5_firstForce : GoodIn wsX5_init wsX5_firstForce := goodIn_r _ [36, 11, 12, 13, 6, 7, 8, 37, 38, 39, 2, 3, 40, 31, 41, 42, 43, 44, 45, 46, 47, 48, 49, 50, 51, 52, 53, 54, 55, 56, 57, 58, 59, 60, 61, 62, 63, 4, 64, 65, 66, 67, 68, 69, 70, 71, 72, 73, 74, 75, 76, 77, 78, 79, 80, 81, 82, 83, 84, 85, 86, 87, 88, 89, 90, 91, 92, 93, 28, 29, 30, 32, 94, 95, 96, 97, 98, 99, 100, 101, 102, 103, 104, 105, 106, 107, 108, 109, 110, 111, 112, 113, 114, 115, 116, 117, 118, 119, 120, 121, 122, 123, 124, 125, 126, 127, 128, 129, 130, 131, 132, 133, 134, 35, 135, 136, 137, 138, 139, 140, 141, 142, 143, 144, 145, 146, 147, 148, 149, 150, 151, 152, 153, 154, 155, 156, 157, 158, 159, 160, 161, 162, 163, 164, 165, 166, 167, 168, 196, 197, 198, 199, 200, 201, 202, 203, 204, 205, 206, 195] (by decide +kernel) (by decide +kernel)
set_option maxRecDepth 20000 in
theorem gX5_init_X5_firstForce : GoodIn wsX5_init (va_wsS RX5 20 yX5_firstForce wsX5_firstForce) := goodIn_app (goodIn_of _ (by decide +kernel)) ggX5_init_X5_firstForce
set_option maxRecDepth 20000 in
theorem ggX5_init_X0_init : GoodIn wsX5_init wsX0_init := goodIn_r _ [38, 39, 2, 3, 40, 31, 41, 42, 43, 44, 45, 46, 47, 196, 197, 198, 199, 200, 201, 202, 203, 204, 205, 206] (by decide +kernel) (by decide +kernel)
set_option maxRecDepth 20000 in
theorem gX5_init_X0_init_n30 : GoodIn wsX5_init (wsX0_init) := ggX5_init_X0_init
set_option maxRecDepth 20000 in
theorem ggX5_init_X2_init : GoodIn wsX5_init wsX2_init := goodIn_r _ [171, 172, 2, 3, 173, 174, 12, 13, 37, 38, 39, 40, 31, 41, 42, 43, 44, 45, 46, 47, 207, 208, 196, 197, 198, 199, 200, 201, 202, 203, 204, 205, 206] (by decide +kernel) (by decide +kernel)
set_option maxRecDepth 20000 in
theorem gX5_init_X2_init : GoodIn wsX5_init (wsX2_init) := ggX5_init_X2_init
set_option maxRecDepth 20000 in
theorem ggX5_init_X4_init : GoodIn wsX5_init wsX4_init := goodIn_r _ [176, 177, 2, 3, 31, 178, 179, 180, 209, 210, 211] (by decide +kernel) (by decide +kernel)
set_option maxRecDepth 20000 in
theorem gX5_init_X4_init_n48 : GoodIn wsX5_init (wsX4_init) := ggX5_init_X4_init
set_option maxRecDepth 20000 in
theorem ggX5_init_X1_init : GoodIn wsX5_init wsX1_init := goodIn_r _ [182, 183, 2, 3, 31, 184, 185, 212, 213] (by decide +kernel) (by decide +kernel)
set_option maxRecDepth 20000 in
theorem gX5_init_X1_init_n55 : GoodIn wsX5_init (wsX1_init) := ggX5_init_X1_init
theorem dX5_init_0 : decode cX5_init 0 = .ok (.aload_n 0, 1) := by decide +kernel
theorem dX5_init_1 : decode cX5_init 1 = .ok (.invokespecial 1, 3) := by decide +kernel
theorem dX5_init_4 : decode cX5_init 4 = .ok (.aload_n 0, 1) := by decide +kernel
theorem dX5_init_5 : decode cX5_init 5 = .ok (.sipush 200, 3) := by decide +kernel
theorem dX5_init_8 : decode cX5_init 8 = .ok (.newarray .char, 2) := by decide +kernel
theorem dX5_init_10 : decode cX5_init 10 = .ok (.putfield 9, 3) := by decide +kernel
theorem dX5_init_13 : decode cX5_init 13 = .ok (.aload_n 0, 1) := by decide +kernel
theorem dX5_init_14 : decode cX5_init 14 = .ok (.new 13, 3) := by decide +kernel
theorem dX5_init_17 : decode cX5_init 17 = .ok (.dup, 1) := by decide +kernel
theorem dX5_init_18 : decode cX5_init 18 = .ok (.invokespecial 15, 3) := by decide +kernel
theorem dX5_init_21 : decode cX5_init 21 = .ok (.putfield 16, 3) := by decide +kernel
theorem dX5_init_24 : decode cX5_init 24 = .ok (.aload_n 0, 1) := by decide +kernel
theorem dX5_init_25 : decode cX5_init 25 = .ok (.invokestatic 20, 3) := by decide +kernel
theorem dX5_init_28 : decode cX5_init 28 = .ok (.putfield 24, 3) := by decide +kernel
theorem dX5_init_31 : decode cX5_init 31 = .ok (.aload_n 0, 1) := by decide +kernel
theorem dX5_init_32 : decode cX5_init 32 = .ok (.new 28, 3) := by decide +kernel
theorem dX5_init_35 : decode cX5_init 35 = .ok (.dup, 1) := by decide +kernel
theorem dX5_init_36 : decode cX5_init 36 = .ok (.invokespecial 30, 3) := by decide +kernel
theorem dX5_init_39 : decode cX5_init 39 = .ok (.putfield 31, 3) := by decide +kernel
theorem dX5_init_42 : decode cX5_init 42 = .ok (.aload_n 0, 1) := by decide +kernel
theorem dX5_init_43 : decode cX5_init 43 = .ok (.new 34, 3) := by decide +kernel
theorem dX5_init_46 : decode cX5_init 46 = .ok (.dup, 1) := by decide +kernel
theorem dX5_init_47 : decode cX5_init 47 = .ok (.bipush 8, 2) := by decide +kernel
theorem dX5_init_49 : decode cX5_init 49 = .ok (.invokespecial 36, 3) := by decide +kernel
theorem dX5_init_52 : decode cX5_init 52 = .ok (.putfield 39, 3) := by decide +kernel
theorem dX5_init_55 : decode cX5_init 55 = .ok (.aload_n 0, 1) := by decide +kernel
theorem dX5_init_56 : decode cX5_init 56 = .ok (.new 34, 3) := by decide +kernel
theorem dX5_init_59 : decode cX5_init 59 = .ok (.dup, 1) := by decide +kernel
theorem dX5_init_60 : decode cX5_init 60 = .ok (.iconst 2, 1) := by decide +kernel
theorem dX5_init_61 : decode cX5_init 61 = .ok (.invokespecial 36, 3) := by decide +kernel
theorem dX5_init_64 : decode cX5_init 64 = .ok (.putfield 43, 3) := by decide +kernel
theorem dX5_init_67 : decode cX5_init 67 = .ok (.aload_n 0, 1) := by decide +kernel
theorem dX5_init_68 : decode cX5_init 68 = .ok (.new 46, 3) := by decide +kernel
theorem dX5_init_71 : decode cX5_init 71 = .ok (.dup, 1) := by decide +kernel
theorem dX5_init_72 : decode cX5_init 72 = .ok (.invokespecial 48, 3) := by decide +kernel
theorem dX5_init_75 : decode cX5_init 75 = .ok (.putfield 49, 3) := by decide +kernel
theorem dX5_init_78 : decode cX5_init 78 = .ok (.aload_n 0, 1) := by decide +kernel
theorem dX5_init_79 : decode cX5_init 79 = .ok (.new 53, 3) := by decide +kernel
theorem dX5_init_82 : decode cX5_init 82 = .ok (.dup, 1) := by decide +kernel
theorem dX5_init_83 : decode cX5_init 83 = .ok (.invokespecial 55, 3) := by decide +kernel
theorem dX5_init_86 : decode cX5_init 86 = .ok (.putfield 56, 3) := by decide +kernel
theorem dX5_init_89 : decode cX5_init 89 = .ok (.return_, 1) := by decide +kernel
set_option maxRecDepth 20000 in
theorem ggX5_firstForce_X0_init : GoodIn wsX5_firstForce wsX0_init := goodIn_r _ [8, 9, 10, 11, 12, 13, 14, 15, 16, 17, 18, 19, 20, 148, 149, 150, 151, 152, 153, 154, 155, 156, 157, 158] (by decide +kernel) (by decide +kernel)
set_option maxRecDepth 20000 in
theorem gX5_firstForce_X0_init_n30 : GoodIn wsX5_firstForce (wsX0_init) := ggX5_firstForce_X0_init
set_option maxRecDepth 20000 in
theorem ggX5_firstForce_J0_toCharArray_70df3 : GoodIn wsX5_firstForce wsJ0_toCharArray_70df3 := goodIn_r _ [25, 26, 27, 28, 29, 24, 30, 31, 32, 33, 34, 35, 36, 37, 38, 39, 40, 41, 42, 43, 44, 45, 46, 47, 48, 49, 50, 51, 52, 53, 54, 55, 56, 57, 58, 59, 60, 61, 62, 63, 64, 65, 66, 67] (by decide +kernel) (by decide +kernel)
set_option maxRecDepth 20000 in
theorem gX5_firstForce_J0_toCharArray_70df3 : GoodIn wsX5_firstForce (wsV RX5 62 RJ0 yJ0_toCharArray_70df3 wsJ0_toCharArray_70df3) := goodIn_app (goodIn_of _ (by decide +kernel)) ggX5_firstForce_J0_toCharArray_70df3
set_option maxRecDepth 20000 in
theorem ggX5_firstForce_X3_init : GoodIn wsX5_firstForce wsX3_init := goodIn_r _ [69, 70, 10, 11, 13, 71, 159] (by decide +kernel) (by decide +kernel)
set_option maxRecDepth 20000 in
theorem gX5_firstForce_X3_init_n15 : GoodIn wsX5_firstForce (wsX3_init) := ggX5_firstForce_X3_init
set_option maxRecDepth 20000 in
theorem ggX5_firstForce_X3_read : GoodIn wsX5_firstForce wsX3_read := goodIn_r _ [75, 76, 77, 78, 3, 79, 80, 81, 82, 83, 12, 84, 85, 6, 86, 87, 88, 89, 90, 91, 92, 93, 71, 94, 95, 96, 97, 98, 99, 100, 101, 102, 103, 104, 105, 106, 107, 108, 109, 110, 111, 18, 112, 113, 114, 115, 116, 117, 118, 119, 120, 121, 122, 123, 124, 125, 20, 126, 127, 128, 129, 130, 131, 132, 133, 134, 135, 136, 137, 138, 139, 140, 14, 15, 16, 17, 141, 142, 143, 144, 145, 146, 147, 148, 149, 150, 151, 152, 153, 154, 155, 156, 157, 158, 159] (by decide +kernel) (by decide +kernel)
set_option maxRecDepth 20000 in
theorem gX5_firstForce_X3_read : GoodIn wsX5_firstForce (wsV RX5 68 RX3 yX3_read wsX3_read) := goodIn_app (goodIn_of _ (by decide +kernel)) ggX5_firstForce_X3_read
theorem dX5_firstForce_0 : decode cX5_firstForce 0 = .ok (.new 28, 3) := by decide +kernel
theorem dX5_firstForce_3 : decode cX5_firstForce 3 = .ok (.dup, 1) := by decide +kernel
theorem dX5_firstForce_4 : decode cX5_firstForce 4 = .ok (.invokespecial 30, 3) := by decide +kernel
theorem dX5_firstForce_7 : decode cX5_firstForce 7 = .ok (.astore_n 0, 1) := by decide +kernel
theorem dX5_firstForce_8 : decode cX5_firstForce 8 = .ok (.ldc 60, 2) := by decide +kernel
theorem dX5_firstForce_10 : decode cX5_firstForce 10 = .ok (.invokevirtual 62, 3) := by decide +kernel
theorem dX5_firstForce_13 : decode cX5_firstForce 13 = .ok (.astore_n 1, 1) := by decide +kernel
theorem dX5_firstForce_14 : decode cX5_firstForce 14 = .ok (.new 13, 3) := by decide +kernel
theorem dX5_firstForce_17 : decode cX5_firstForce 17 = .ok (.dup, 1) := by decide +kernel
theorem dX5_firstForce_18 : decode cX5_firstForce 18 = .ok (.invokespecial 15, 3) := by decide +kernel
theorem dX5_firstForce_21 : decode cX5_firstForce 21 = .ok (.aload_n 1, 1) := by decide +kernel
theorem dX5_firstForce_22 : decode cX5_firstForce 22 = .ok (.aload_n 1, 1) := by decide +kernel
theorem dX5_firstForce_23 : decode cX5_firstForce 23 = .ok (.arraylength, 1) := by decide +kernel
theorem dX5_firstForce_24 : decode cX5_firstForce 24 = .ok (.aload_n 0, 1) := by decide +kernel
theorem dX5_firstForce_25 : decode cX5_firstForce 25 = .ok (.invokevirtual 68, 3) := by decide +kernel
theorem dX5_firstForce_28 : decode cX5_firstForce 28 = .ok (.pop, 1) := by decide +kernel
theorem dX5_firstForce_29 : decode cX5_firstForce 29 = .ok (.aload_n 0, 1) := by decide +kernel
theorem dX5_firstForce_30 : decode cX5_firstForce 30 = .ok (.areturn, 1) := by decide +kernel
set_option maxRecDepth 20000 in
theorem ggX5_write_X5_isWithin : GoodIn wsX5_write wsX5_isWithin := goodIn_r _ [6] (by decide +kernel) (by decide +kernel)
set_option maxRecDepth 20000 in
theorem gX5_write_X5_isWithin : GoodIn wsX5_write (va_wsS RX5 72 yX5_isWithin wsX5_isWithin) := goodIn_app (goodIn_of _ (by decide +kernel)) ggX5_write_X5_isWithin
theorem dX5_write_0 : decode cX5_write 0 = .ok (.iload_n 1, 1) := by decide +kernel
theorem dX5_write_1 : decode cX5_write 1 = .ok (.bipush 32, 2) := by decide +kernel
theorem dX5_write_3 : decode cX5_write 3 = .ok (.bipush 126, 2) := by decide +kernel
theorem dX5_write_5 : decode cX5_write 5 = .ok (.invokestatic 72, 3) := by decide +kernel
theorem dX5_write_8 : decode cX5_write 8 = .ok (.ifCond .ne 5, 3) := by decide +kernel
theorem dX5_write_11 : decode cX5_write 11 = .ok (.iconst (-1), 1) := by decide +kernel
theorem dX5_write_12 : decode cX5_write 12 = .ok (.ireturn, 1) := by decide +kernel
theorem dX5_write_13 : decode cX5_write 13 = .ok (.aload_n 0, 1) := by decide +kernel
theorem dX5_write_14 : decode cX5_write 14 = .ok (.getfield 76, 3) := by decide +kernel
theorem dX5_write_17 : decode cX5_write 17 = .ok (.sipush 200, 3) := by decide +kernel
theorem dX5_write_20 : decode cX5_write 20 = .ok (.if_icmp .lt 6, 3) := by decide +kernel
theorem dX5_write_23 : decode cX5_write 23 = .ok (.bipush (-3), 2) := by decide +kernel
theorem dX5_write_25 : decode cX5_write 25 = .ok (.ireturn, 1) := by decide +kernel
theorem dX5_write_26 : decode cX5_write 26 = .ok (.aload_n 0, 1) := by decide +kernel
theorem dX5_write_27 : decode cX5_write 27 = .ok (.getfield 9, 3) := by decide +kernel
theorem dX5_write_30 : decode cX5_write 30 = .ok (.aload_n 0, 1) := by decide +kernel
theorem dX5_write_31 : decode cX5_write 31 = .ok (.getfield 76, 3) := by decide +kernel
theorem dX5_write_34 : decode cX5_write 34 = .ok (.iload_n 1, 1) := by decide +kernel
theorem dX5_write_35 : decode cX5_write 35 = .ok (.i2c, 1) := by decide +kernel
theorem dX5_write_36 : decode cX5_write 36 = .ok (.castore, 1) := by decide +kernel
theorem dX5_write_37 : decode cX5_write 37 = .ok (.aload_n 0, 1) := by decide +kernel
theorem dX5_write_38 : decode cX5_write 38 = .ok (.dup, 1) := by decide +kernel
theorem dX5_write_39 : decode cX5_write 39 = .ok (.getfield 76, 3) := by decide +kernel
theorem dX5_write_42 : decode cX5_write 42 = .ok (.iconst 1, 1) := by decide +kernel
theorem dX5_write_43 : decode cX5_write 43 = .ok (.iadd, 1) := by decide +kernel
theorem dX5_write_44 : decode cX5_write 44 = .ok (.putfield 76, 3) := by decide +kernel
theorem dX5_write_47 : decode cX5_write 47 = .ok (.aload_n 0, 1) := by decide +kernel
theorem dX5_write_48 : decode cX5_write 48 = .ok (.getfield 76, 3) := by decide +kernel
theorem dX5_write_51 : decode cX5_write 51 = .ok (.ireturn, 1) := by decide +kernel
theorem dX5_wipe_0 : decode cX5_wipe 0 = .ok (.aload_n 0, 1) := by decide +kernel
theorem dX5_wipe_1 : decode cX5_wipe 1 = .ok (.getfield 76, 3) := by decide +kernel
theorem dX5_wipe_4 : decode cX5_wipe 4 = .ok (.istore_n 1, 1) := by decide +kernel
theorem dX5_wipe_5 : decode cX5_wipe 5 = .ok (.aload_n 0, 1) := by decide +kernel
theorem dX5_wipe_6 : decode cX5_wipe 6 = .ok (.iconst 0, 1) := by decide +kernel
theorem dX5_wipe_7 : decode cX5_wipe 7 = .ok (.putfield 76, 3) := by decide +kernel
theorem dX5_wipe_10 : decode cX5_wipe 10 = .ok (.iload_n 1, 1) := by decide +kernel
theorem dX5_wipe_11 : decode cX5_wipe 11 = .ok (.ireturn, 1) := by decide +kernel
set_option maxRecDepth 20000 in
theorem ggX5_fault_X3_read : GoodIn wsX5_fault wsX3_read := goodIn_r _ [9, 10, 11, 12, 13, 14, 15, 16, 17, 18, 19, 20, 21, 8, 22, 23, 24, 25, 26, 27, 28, 29, 30, 31, 32, 33, 34, 35, 36, 37, 38, 39, 40, 41, 42, 43, 44, 45, 46, 47, 48, 49, 50, 51, 52, 53, 54, 55, 56, 57, 58, 59, 60, 61, 62, 63, 64, 65, 66, 67, 68, 69, 70, 71, 72, 73, 74, 75, 76, 77, 78, 79, 80, 81, 82, 83, 84, 85, 86, 87, 88, 89, 90, 100, 101, 102, 103, 104, 105, 106, 107, 108, 109, 110, 111] (by decide +kernel) (by decide +kernel)
set_option maxRecDepth 20000 in
theorem gX5_fault_X3_read : GoodIn wsX5_fault (wsV RX5 68 RX3 yX3_read wsX3_read) := goodIn_app (goodIn_of _ (by decide +kernel)) ggX5_fault_X3_read
theorem dX5_fault_0 : decode cX5_fault 0 = .ok (.aload_n 0, 1) := by decide +kernel
theorem dX5_fault_1 : decode cX5_fault 1 = .ok (.getfield 16, 3) := by decide +kernel
theorem dX5_fault_4 : decode cX5_fault 4 = .ok (.aload_n 0, 1) := by decide +kernel
theorem dX5_fault_5 : decode cX5_fault 5 = .ok (.getfield 9, 3) := by decide +kernel
theorem dX5_fault_8 : decode cX5_fault 8 = .ok (.aload_n 0, 1) := by decide +kernel
theorem dX5_fault_9 : decode cX5_fault 9 = .ok (.getfield 76, 3) := by decide +kernel
theorem dX5_fault_12 : decode cX5_fault 12 = .ok (.aload_n 0, 1) := by decide +kernel
theorem dX5_fault_13 : decode cX5_fault 13 = .ok (.getfield 31, 3) := by decide +kernel
theorem dX5_fault_16 : decode cX5_fault 16 = .ok (.invokevirtual 68, 3) := by decide +kernel
theorem dX5_fault_19 : decode cX5_fault 19 = .ok (.ireturn, 1) := by decide +kernel
set_option maxRecDepth 20000 in
theorem ggX5_lay_X3_read : GoodIn wsX5_lay wsX3_read := goodIn_r _ [14, 15, 16, 17, 18, 19, 20, 21, 22, 23, 24, 25, 26, 13, 27, 28, 29, 30, 31, 32, 33, 34, 35, 36, 37, 38, 39, 40, 41, 42, 43, 44, 45, 46, 47, 48, 49, 50, 51, 52, 53, 54, 55, 56, 57, 58, 59, 60, 61, 62, 63, 64, 65, 66, 67, 68, 69, 70, 71, 72, 73, 74, 75, 76, 77, 78, 79, 80, 81, 82, 83, 84, 85, 86, 87, 88, 89, 90, 91, 92, 93, 94, 95, 121, 122, 123, 124, 125, 126, 127, 128, 129, 130, 131, 132] (by decide +kernel) (by decide +kernel)
set_option maxRecDepth 20000 in
theorem gX5_lay_X3_read : GoodIn wsX5_lay (wsV RX5 68 RX3 yX3_read wsX3_read) := goodIn_app (goodIn_of _ (by decide +kernel)) ggX5_lay_X3_read
set_option maxRecDepth 20000 in
theorem ggX5_lay_X0_copy : GoodIn wsX5_lay wsX0_copy := goodIn_r _ [99, 20, 21, 22, 23, 24, 85, 86, 87, 88, 54, 69, 121, 122, 123, 124, 125, 126, 127, 128, 129, 130, 131] (by decide +kernel) (by decide +kernel)
set_option maxRecDepth 20000 in
theorem gX5_lay_X0_copy : GoodIn wsX5_lay (wsV RX5 83 RX0 yX0_copy wsX0_copy) := goodIn_app (goodIn_of _ (by decide +kernel)) ggX5_lay_X0_copy
set_option maxRecDepth 20000 in
theorem ggX5_lay_X2_clear : GoodIn wsX5_lay wsX2_clear := goodIn_r _ [104, 105, 133, 134] (by decide +kernel) (by decide +kernel)
set_option maxRecDepth 20000 in
theorem gX5_lay_X2_clear : GoodIn wsX5_lay (wsV RX5 87 RX2 yX2_clear wsX2_clear) := goodIn_app (goodIn_of _ (by decide +kernel)) ggX5_lay_X2_clear
set_option maxRecDepth 20000 in
theorem ggX5_lay_X4_clear : GoodIn wsX5_lay wsX4_clear := goodIn_r _ [110, 111, 135, 136, 137] (by decide +kernel) (by decide +kernel)
set_option maxRecDepth 20000 in
theorem gX5_lay_X4_clear : GoodIn wsX5_lay (wsV RX5 90 RX4 yX4_clear wsX4_clear) := goodIn_app (goodIn_of _ (by decide +kernel)) ggX5_lay_X4_clear
theorem dX5_lay_0 : decode cX5_lay 0 = .ok (.aload_n 0, 1) := by decide +kernel
theorem dX5_lay_1 : decode cX5_lay 1 = .ok (.getfield 16, 3) := by decide +kernel
theorem dX5_lay_4 : decode cX5_lay 4 = .ok (.aload_n 0, 1) := by decide +kernel
theorem dX5_lay_5 : decode cX5_lay 5 = .ok (.getfield 9, 3) := by decide +kernel
theorem dX5_lay_8 : decode cX5_lay 8 = .ok (.aload_n 0, 1) := by decide +kernel
theorem dX5_lay_9 : decode cX5_lay 9 = .ok (.getfield 76, 3) := by decide +kernel
theorem dX5_lay_12 : decode cX5_lay 12 = .ok (.aload_n 0, 1) := by decide +kernel
theorem dX5_lay_13 : decode cX5_lay 13 = .ok (.getfield 31, 3) := by decide +kernel
theorem dX5_lay_16 : decode cX5_lay 16 = .ok (.invokevirtual 68, 3) := by decide +kernel
theorem dX5_lay_19 : decode cX5_lay 19 = .ok (.bipush (-4), 2) := by decide +kernel
theorem dX5_lay_21 : decode cX5_lay 21 = .ok (.if_icmp .ne 13, 3) := by decide +kernel
theorem dX5_lay_24 : decode cX5_lay 24 = .ok (.aload_n 0, 1) := by decide +kernel
theorem dX5_lay_25 : decode cX5_lay 25 = .ok (.getfield 31, 3) := by decide +kernel
theorem dX5_lay_28 : decode cX5_lay 28 = .ok (.getfield 80, 3) := by decide +kernel
theorem dX5_lay_31 : decode cX5_lay 31 = .ok (.ifCond .ne 6, 3) := by decide +kernel
theorem dX5_lay_34 : decode cX5_lay 34 = .ok (.bipush (-2), 2) := by decide +kernel
theorem dX5_lay_36 : decode cX5_lay 36 = .ok (.ireturn, 1) := by decide +kernel
theorem dX5_lay_37 : decode cX5_lay 37 = .ok (.aload_n 0, 1) := by decide +kernel
theorem dX5_lay_38 : decode cX5_lay 38 = .ok (.getfield 24, 3) := by decide +kernel
theorem dX5_lay_41 : decode cX5_lay 41 = .ok (.aload_n 0, 1) := by decide +kernel
theorem dX5_lay_42 : decode cX5_lay 42 = .ok (.getfield 31, 3) := by decide +kernel
theorem dX5_lay_45 : decode cX5_lay 45 = .ok (.invokevirtual 83, 3) := by decide +kernel
theorem dX5_lay_48 : decode cX5_lay 48 = .ok (.aload_n 0, 1) := by decide +kernel
theorem dX5_lay_49 : decode cX5_lay 49 = .ok (.getfield 39, 3) := by decide +kernel
theorem dX5_lay_52 : decode cX5_lay 52 = .ok (.invokevirtual 87, 3) := by decide +kernel
theorem dX5_lay_55 : decode cX5_lay 55 = .ok (.aload_n 0, 1) := by decide +kernel
theorem dX5_lay_56 : decode cX5_lay 56 = .ok (.getfield 43, 3) := by decide +kernel
theorem dX5_lay_59 : decode cX5_lay 59 = .ok (.invokevirtual 87, 3) := by decide +kernel
theorem dX5_lay_62 : decode cX5_lay 62 = .ok (.aload_n 0, 1) := by decide +kernel
theorem dX5_lay_63 : decode cX5_lay 63 = .ok (.getfield 49, 3) := by decide +kernel
theorem dX5_lay_66 : decode cX5_lay 66 = .ok (.invokevirtual 90, 3) := by decide +kernel
theorem dX5_lay_69 : decode cX5_lay 69 = .ok (.aload_n 0, 1) := by decide +kernel
theorem dX5_lay_70 : decode cX5_lay 70 = .ok (.getfield 24, 3) := by decide +kernel
theorem dX5_lay_73 : decode cX5_lay 73 = .ok (.getfield 80, 3) := by decide +kernel
theorem dX5_lay_76 : decode cX5_lay 76 = .ok (.ireturn, 1) := by decide +kernel
set_option maxRecDepth 20000 in
theorem ggX5_saying_X0_isThere : GoodIn wsX5_saying wsX0_isThere := goodIn_r _ [12, 13, 46, 47, 48, 49, 50, 51, 52, 53, 54, 55, 56] (by decide +kernel) (by decide +kernel)
set_option maxRecDepth 20000 in
theorem gX5_saying_X0_isThere : GoodIn wsX5_saying (wsV RX5 91 RX0 yX0_isThere wsX0_isThere) := goodIn_app (goodIn_of _ (by decide +kernel)) ggX5_saying_X0_isThere
set_option maxRecDepth 20000 in
theorem ggX5_saying_X0_isSoIn : GoodIn wsX5_saying wsX0_isSoIn := goodIn_r _ [17, 18, 19, 9, 10, 11, 12, 13, 20, 21, 22, 46, 47, 48, 49, 50, 51, 52, 53, 54, 55, 56] (by decide +kernel) (by decide +kernel)
set_option maxRecDepth 20000 in
theorem gX5_saying_X0_isSoIn : GoodIn wsX5_saying (wsV RX5 111 RX0 yX0_isSoIn wsX0_isSoIn) := goodIn_app (goodIn_of _ (by decide +kernel)) ggX5_saying_X0_isSoIn
set_option maxRecDepth 20000 in
theorem ggX5_saying_X5_asNumber : GoodIn wsX5_saying wsX5_asNumber := goodIn_r _ [25] (by decide +kernel) (by decide +kernel)
set_option maxRecDepth 20000 in
theorem gX5_saying_X5_asNumber : GoodIn wsX5_saying (va_wsS RX5 115 yX5_asNumber wsX5_asNumber) := goodIn_app (goodIn_of _ (by decide +kernel)) ggX5_saying_X5_asNumber
set_option maxRecDepth 20000 in
theorem ggX5_saying_X0_isWithdrawn : GoodIn wsX5_saying wsX0_isWithdrawn := goodIn_r _ [29, 30, 46, 47, 48, 49, 50, 51, 52, 53, 54, 55, 56] (by decide +kernel) (by decide +kernel)
set_option maxRecDepth 20000 in
theorem gX5_saying_X0_isWithdrawn : GoodIn wsX5_saying (wsV RX5 119 RX0 yX0_isWithdrawn wsX0_isWithdrawn) := goodIn_app (goodIn_of _ (by decide +kernel)) ggX5_saying_X0_isWithdrawn
set_option maxRecDepth 20000 in
theorem ggX5_saying_X0_hasPoliceman : GoodIn wsX5_saying wsX0_hasPoliceman := goodIn_r _ [34, 18, 35, 19, 9, 10, 11, 12, 13, 36, 27, 28, 29, 30, 20, 21, 22, 46, 47, 48, 49, 50, 51, 52, 53, 54, 55, 56] (by decide +kernel) (by decide +kernel)
set_option maxRecDepth 20000 in
theorem gX5_saying_X0_hasPoliceman : GoodIn wsX5_saying (wsV RX5 122 RX0 yX0_hasPoliceman wsX0_hasPoliceman) := goodIn_app (goodIn_of _ (by decide +kernel)) ggX5_saying_X0_hasPoliceman
theorem dX5_saying_0 : decode cX5_saying 0 = .ok (.aload_n 0, 1) := by decide +kernel
theorem dX5_saying_1 : decode cX5_saying 1 = .ok (.getfield 24, 3) := by decide +kernel
theorem dX5_saying_4 : decode cX5_saying 4 = .ok (.iload_n 1, 1) := by decide +kernel
theorem dX5_saying_5 : decode cX5_saying 5 = .ok (.invokevirtual 91, 3) := by decide +kernel
theorem dX5_saying_8 : decode cX5_saying 8 = .ok (.ifCond .ne 5, 3) := by decide +kernel
theorem dX5_saying_11 : decode cX5_saying 11 = .ok (.iconst (-1), 1) := by decide +kernel
theorem dX5_saying_12 : decode cX5_saying 12 = .ok (.ireturn, 1) := by decide +kernel
theorem dX5_saying_13 : decode cX5_saying 13 = .ok (.iload_n 2, 1) := by decide +kernel
theorem dX5_saying_14 : decode cX5_saying 14 = .ok (.tableswitch 156 0 6 #[42, 52, 62, 89, 99, 118, 130], 42) := by decide +kernel
theorem dX5_saying_56 : decode cX5_saying 56 = .ok (.aload_n 0, 1) := by decide +kernel
theorem dX5_saying_57 : decode cX5_saying 57 = .ok (.getfield 24, 3) := by decide +kernel
theorem dX5_saying_60 : decode cX5_saying 60 = .ok (.getfield 95, 3) := by decide +kernel
theorem dX5_saying_63 : decode cX5_saying 63 = .ok (.iload_n 1, 1) := by decide +kernel
theorem dX5_saying_64 : decode cX5_saying 64 = .ok (.iaload, 1) := by decide +kernel
theorem dX5_saying_65 : decode cX5_saying 65 = .ok (.ireturn, 1) := by decide +kernel
theorem dX5_saying_66 : decode cX5_saying 66 = .ok (.aload_n 0, 1) := by decide +kernel
theorem dX5_saying_67 : decode cX5_saying 67 = .ok (.getfield 24, 3) := by decide +kernel
theorem dX5_saying_70 : decode cX5_saying 70 = .ok (.getfield 99, 3) := by decide +kernel
theorem dX5_saying_73 : decode cX5_saying 73 = .ok (.iload_n 1, 1) := by decide +kernel
theorem dX5_saying_74 : decode cX5_saying 74 = .ok (.iaload, 1) := by decide +kernel
theorem dX5_saying_75 : decode cX5_saying 75 = .ok (.ireturn, 1) := by decide +kernel
theorem dX5_saying_76 : decode cX5_saying 76 = .ok (.aload_n 0, 1) := by decide +kernel
theorem dX5_saying_77 : decode cX5_saying 77 = .ok (.getfield 24, 3) := by decide +kernel
theorem dX5_saying_80 : decode cX5_saying 80 = .ok (.getfield 95, 3) := by decide +kernel
theorem dX5_saying_83 : decode cX5_saying 83 = .ok (.iload_n 1, 1) := by decide +kernel
theorem dX5_saying_84 : decode cX5_saying 84 = .ok (.iaload, 1) := by decide +kernel
theorem dX5_saying_85 : decode cX5_saying 85 = .ok (.ifCond .ne 8, 3) := by decide +kernel
theorem dX5_saying_88 : decode cX5_saying 88 = .ok (.bipush (-4), 2) := by decide +kernel
theorem dX5_saying_90 : decode cX5_saying 90 = .ok (.goto 12, 3) := by decide +kernel
theorem dX5_saying_93 : decode cX5_saying 93 = .ok (.aload_n 0, 1) := by decide +kernel
theorem dX5_saying_94 : decode cX5_saying 94 = .ok (.getfield 24, 3) := by decide +kernel
theorem dX5_saying_97 : decode cX5_saying 97 = .ok (.getfield 102, 3) := by decide +kernel
theorem dX5_saying_100 : decode cX5_saying 100 = .ok (.iload_n 1, 1) := by decide +kernel
theorem dX5_saying_101 : decode cX5_saying 101 = .ok (.iaload, 1) := by decide +kernel
theorem dX5_saying_102 : decode cX5_saying 102 = .ok (.ireturn, 1) := by decide +kernel
theorem dX5_saying_103 : decode cX5_saying 103 = .ok (.aload_n 0, 1) := by decide +kernel
theorem dX5_saying_104 : decode cX5_saying 104 = .ok (.getfield 24, 3) := by decide +kernel
theorem dX5_saying_107 : decode cX5_saying 107 = .ok (.getfield 105, 3) := by decide +kernel
theorem dX5_saying_110 : decode cX5_saying 110 = .ok (.iload_n 1, 1) := by decide +kernel
theorem dX5_saying_111 : decode cX5_saying 111 = .ok (.iaload, 1) := by decide +kernel
theorem dX5_saying_112 : decode cX5_saying 112 = .ok (.ireturn, 1) := by decide +kernel
theorem dX5_saying_113 : decode cX5_saying 113 = .ok (.aload_n 0, 1) := by decide +kernel
theorem dX5_saying_114 : decode cX5_saying 114 = .ok (.getfield 24, 3) := by decide +kernel
theorem dX5_saying_117 : decode cX5_saying 117 = .ok (.iload_n 1, 1) := by decide +kernel
theorem dX5_saying_118 : decode cX5_saying 118 = .ok (.aload_n 0, 1) := by decide +kernel
theorem dX5_saying_119 : decode cX5_saying 119 = .ok (.getfield 24, 3) := by decide +kernel
theorem dX5_saying_122 : decode cX5_saying 122 = .ok (.getfield 108, 3) := by decide +kernel
theorem dX5_saying_125 : decode cX5_saying 125 = .ok (.invokevirtual 111, 3) := by decide +kernel
theorem dX5_saying_128 : decode cX5_saying 128 = .ok (.invokestatic 115, 3) := by decide +kernel
theorem dX5_saying_131 : decode cX5_saying 131 = .ok (.ireturn, 1) := by decide +kernel
theorem dX5_saying_132 : decode cX5_saying 132 = .ok (.aload_n 0, 1) := by decide +kernel
theorem dX5_saying_133 : decode cX5_saying 133 = .ok (.getfield 24, 3) := by decide +kernel
theorem dX5_saying_136 : decode cX5_saying 136 = .ok (.iload_n 1, 1) := by decide +kernel
theorem dX5_saying_137 : decode cX5_saying 137 = .ok (.invokevirtual 119, 3) := by decide +kernel
theorem dX5_saying_140 : decode cX5_saying 140 = .ok (.invokestatic 115, 3) := by decide +kernel
theorem dX5_saying_143 : decode cX5_saying 143 = .ok (.ireturn, 1) := by decide +kernel
theorem dX5_saying_144 : decode cX5_saying 144 = .ok (.aload_n 0, 1) := by decide +kernel
theorem dX5_saying_145 : decode cX5_saying 145 = .ok (.getfield 24, 3) := by decide +kernel
theorem dX5_saying_148 : decode cX5_saying 148 = .ok (.iload_n 1, 1) := by decide +kernel
theorem dX5_saying_149 : decode cX5_saying 149 = .ok (.invokevirtual 122, 3) := by decide +kernel
theorem dX5_saying_152 : decode cX5_saying 152 = .ok (.ifCond .eq 15, 3) := by decide +kernel
theorem dX5_saying_155 : decode cX5_saying 155 = .ok (.aload_n 0, 1) := by decide +kernel
theorem dX5_saying_156 : decode cX5_saying 156 = .ok (.getfield 24, 3) := by decide +kernel
theorem dX5_saying_159 : decode cX5_saying 159 = .ok (.getfield 125, 3) := by decide +kernel
theorem dX5_saying_162 : decode cX5_saying 162 = .ok (.iload_n 1, 1) := by decide +kernel
theorem dX5_saying_163 : decode cX5_saying 163 = .ok (.iaload, 1) := by decide +kernel
theorem dX5_saying_164 : decode cX5_saying 164 = .ok (.goto 5, 3) := by decide +kernel
theorem dX5_saying_167 : decode cX5_saying 167 = .ok (.bipush (-4), 2) := by decide +kernel
theorem dX5_saying_169 : decode cX5_saying 169 = .ok (.ireturn, 1) := by decide +kernel
theorem dX5_saying_170 : decode cX5_saying 170 = .ok (.iconst (-1), 1) := by decide +kernel
theorem dX5_saying_171 : decode cX5_saying 171 = .ok (.ireturn, 1) := by decide +kernel
set_option maxRecDepth 20000 in
theorem ggX5_fact_X5_isFact : GoodIn wsX5_fact wsX5_isFact := goodIn_r _ [6, 7, 8, 5, 9] (by decide +kernel) (by decide +kernel)
set_option maxRecDepth 20000 in
theorem gX5_fact_X5_isFact : GoodIn wsX5_fact (va_wsS RX5 128 yX5_isFact wsX5_isFact) := goodIn_app (goodIn_of _ (by decide +kernel)) ggX5_fact_X5_isFact
theorem dX5_fact_0 : decode cX5_fact 0 = .ok (.iload_n 1, 1) := by decide +kernel
theorem dX5_fact_1 : decode cX5_fact 1 = .ok (.invokestatic 128, 3) := by decide +kernel
theorem dX5_fact_4 : decode cX5_fact 4 = .ok (.ifCond .ne 5, 3) := by decide +kernel
theorem dX5_fact_7 : decode cX5_fact 7 = .ok (.iconst (-1), 1) := by decide +kernel
theorem dX5_fact_8 : decode cX5_fact 8 = .ok (.ireturn, 1) := by decide +kernel
theorem dX5_fact_9 : decode cX5_fact 9 = .ok (.aload_n 0, 1) := by decide +kernel
theorem dX5_fact_10 : decode cX5_fact 10 = .ok (.getfield 24, 3) := by decide +kernel
theorem dX5_fact_13 : decode cX5_fact 13 = .ok (.getfield 108, 3) := by decide +kernel
theorem dX5_fact_16 : decode cX5_fact 16 = .ok (.iload_n 1, 1) := by decide +kernel
theorem dX5_fact_17 : decode cX5_fact 17 = .ok (.ishr, 1) := by decide +kernel
theorem dX5_fact_18 : decode cX5_fact 18 = .ok (.iconst 1, 1) := by decide +kernel
theorem dX5_fact_19 : decode cX5_fact 19 = .ok (.iand, 1) := by decide +kernel
theorem dX5_fact_20 : decode cX5_fact 20 = .ok (.ireturn, 1) := by decide +kernel
set_option maxRecDepth 20000 in
theorem ggX5_clash_X0_isThere : GoodIn wsX5_clash wsX0_isThere := goodIn_r _ [6, 7, 27, 28, 29, 30, 31, 32, 33, 34, 35, 36, 37] (by decide +kernel) (by decide +kernel)
set_option maxRecDepth 20000 in
theorem gX5_clash_X0_isThere : GoodIn wsX5_clash (wsV RX5 91 RX0 yX0_isThere wsX0_isThere) := goodIn_app (goodIn_of _ (by decide +kernel)) ggX5_clash_X0_isThere
set_option maxRecDepth 20000 in
theorem ggX5_clash_X0_areClashing : GoodIn wsX5_clash wsX0_areClashing := goodIn_r _ [11, 12, 13, 3, 4, 5, 6, 7, 27, 28, 29, 30, 31, 32, 33, 34, 35, 36, 37] (by decide +kernel) (by decide +kernel)
set_option maxRecDepth 20000 in
theorem gX5_clash_X0_areClashing : GoodIn wsX5_clash (wsV RX5 131 RX0 yX0_areClashing wsX0_areClashing) := goodIn_app (goodIn_of _ (by decide +kernel)) ggX5_clash_X0_areClashing
set_option maxRecDepth 20000 in
theorem ggX5_clash_X5_asNumber : GoodIn wsX5_clash wsX5_asNumber := goodIn_r _ [17] (by decide +kernel) (by decide +kernel)
set_option maxRecDepth 20000 in
theorem gX5_clash_X5_asNumber : GoodIn wsX5_clash (va_wsS RX5 115 yX5_asNumber wsX5_asNumber) := goodIn_app (goodIn_of _ (by decide +kernel)) ggX5_clash_X5_asNumber
theorem dX5_clash_0 : decode cX5_clash 0 = .ok (.aload_n 0, 1) := by decide +kernel
theorem dX5_clash_1 : decode cX5_clash 1 = .ok (.getfield 24, 3) := by decide +kernel
theorem dX5_clash_4 : decode cX5_clash 4 = .ok (.iload_n 1, 1) := by decide +kernel
theorem dX5_clash_5 : decode cX5_clash 5 = .ok (.invokevirtual 91, 3) := by decide +kernel
theorem dX5_clash_8 : decode cX5_clash 8 = .ok (.ifCond .eq 19, 3) := by decide +kernel
theorem dX5_clash_11 : decode cX5_clash 11 = .ok (.aload_n 0, 1) := by decide +kernel
theorem dX5_clash_12 : decode cX5_clash 12 = .ok (.getfield 24, 3) := by decide +kernel
theorem dX5_clash_15 : decode cX5_clash 15 = .ok (.iload_n 2, 1) := by decide +kernel
theorem dX5_clash_16 : decode cX5_clash 16 = .ok (.invokevirtual 91, 3) := by decide +kernel
theorem dX5_clash_19 : decode cX5_clash 19 = .ok (.ifCond .eq 8, 3) := by decide +kernel
theorem dX5_clash_22 : decode cX5_clash 22 = .ok (.iload_n 1, 1) := by decide +kernel
theorem dX5_clash_23 : decode cX5_clash 23 = .ok (.iload_n 2, 1) := by decide +kernel
theorem dX5_clash_24 : decode cX5_clash 24 = .ok (.if_icmp .ne 5, 3) := by decide +kernel
theorem dX5_clash_27 : decode cX5_clash 27 = .ok (.iconst (-1), 1) := by decide +kernel
theorem dX5_clash_28 : decode cX5_clash 28 = .ok (.ireturn, 1) := by decide +kernel
theorem dX5_clash_29 : decode cX5_clash 29 = .ok (.aload_n 0, 1) := by decide +kernel
theorem dX5_clash_30 : decode cX5_clash 30 = .ok (.getfield 24, 3) := by decide +kernel
theorem dX5_clash_33 : decode cX5_clash 33 = .ok (.iload_n 1, 1) := by decide +kernel
theorem dX5_clash_34 : decode cX5_clash 34 = .ok (.iload_n 2, 1) := by decide +kernel
theorem dX5_clash_35 : decode cX5_clash 35 = .ok (.invokevirtual 131, 3) := by decide +kernel
theorem dX5_clash_38 : decode cX5_clash 38 = .ok (.invokestatic 115, 3) := by decide +kernel
theorem dX5_clash_41 : decode cX5_clash 41 = .ok (.ireturn, 1) := by decide +kernel
set_option maxRecDepth 20000 in
theorem ggX5_pass_X5_isWithin : GoodIn wsX5_pass wsX5_isWithin := goodIn_r _ [7] (by decide +kernel) (by decide +kernel)
set_option maxRecDepth 20000 in
theorem gX5_pass_X5_isWithin : GoodIn wsX5_pass (va_wsS RX5 72 yX5_isWithin wsX5_isWithin) := goodIn_app (goodIn_of _ (by decide +kernel)) ggX5_pass_X5_isWithin
set_option maxRecDepth 20000 in
theorem ggX5_pass_X2_add : GoodIn wsX5_pass wsX2_add := goodIn_r _ [12, 13, 14, 15, 16, 17, 11, 18, 19, 20, 21, 22, 23, 24, 25, 26, 27, 28, 29, 30, 31, 32, 33, 34, 93, 94, 82, 83, 84, 85, 86, 87, 88, 89, 90, 91, 92] (by decide +kernel) (by decide +kernel)
set_option maxRecDepth 20000 in
theorem gX5_pass_X2_add : GoodIn wsX5_pass (wsV RX5 134 RX2 yX2_add wsX2_add) := goodIn_app (goodIn_of _ (by decide +kernel)) ggX5_pass_X2_add
set_option maxRecDepth 20000 in
theorem ggX5_pass_X0_passDay : GoodIn wsX5_pass wsX0_passDay := goodIn_r _ [38, 25, 39, 40, 41, 22, 42, 27, 33, 43, 44, 45, 46, 47, 48, 49, 50, 34, 24, 51, 52, 53, 54, 26, 55, 6, 56, 57, 58, 59, 60, 61, 62, 63, 64, 28, 65, 66, 67, 68, 69, 70, 71, 72, 82, 83, 84, 85, 86, 87, 88, 89, 90, 91, 92] (by decide +kernel) (by decide +kernel)
set_option maxRecDepth 20000 in
theorem gX5_pass_X0_passDay : GoodIn wsX5_pass (wsV RX5 137 RX0 yX0_passDay wsX0_passDay) := goodIn_app (goodIn_of _ (by decide +kernel)) ggX5_pass_X0_passDay
theorem dX5_pass_0 : decode cX5_pass 0 = .ok (.iload_n 1, 1) := by decide +kernel
theorem dX5_pass_1 : decode cX5_pass 1 = .ok (.iconst 1, 1) := by decide +kernel
theorem dX5_pass_2 : decode cX5_pass 2 = .ok (.bipush 30, 2) := by decide +kernel
theorem dX5_pass_4 : decode cX5_pass 4 = .ok (.invokestatic 72, 3) := by decide +kernel
theorem dX5_pass_7 : decode cX5_pass 7 = .ok (.ifCond .ne 5, 3) := by decide +kernel
theorem dX5_pass_10 : decode cX5_pass 10 = .ok (.iconst (-1), 1) := by decide +kernel
theorem dX5_pass_11 : decode cX5_pass 11 = .ok (.ireturn, 1) := by decide +kernel
theorem dX5_pass_12 : decode cX5_pass 12 = .ok (.aload_n 0, 1) := by decide +kernel
theorem dX5_pass_13 : decode cX5_pass 13 = .ok (.getfield 39, 3) := by decide +kernel
theorem dX5_pass_16 : decode cX5_pass 16 = .ok (.aload_n 0, 1) := by decide +kernel
theorem dX5_pass_17 : decode cX5_pass 17 = .ok (.getfield 24, 3) := by decide +kernel
theorem dX5_pass_20 : decode cX5_pass 20 = .ok (.invokevirtual 134, 3) := by decide +kernel
theorem dX5_pass_23 : decode cX5_pass 23 = .ok (.iconst 0, 1) := by decide +kernel
theorem dX5_pass_24 : decode cX5_pass 24 = .ok (.istore_n 2, 1) := by decide +kernel
theorem dX5_pass_25 : decode cX5_pass 25 = .ok (.iload_n 2, 1) := by decide +kernel
theorem dX5_pass_26 : decode cX5_pass 26 = .ok (.iload_n 1, 1) := by decide +kernel
theorem dX5_pass_27 : decode cX5_pass 27 = .ok (.if_icmp .ge 17, 3) := by decide +kernel
theorem dX5_pass_30 : decode cX5_pass 30 = .ok (.aload_n 0, 1) := by decide +kernel
theorem dX5_pass_31 : decode cX5_pass 31 = .ok (.getfield 24, 3) := by decide +kernel
theorem dX5_pass_34 : decode cX5_pass 34 = .ok (.invokevirtual 137, 3) := by decide +kernel
theorem dX5_pass_37 : decode cX5_pass 37 = .ok (.pop, 1) := by decide +kernel
theorem dX5_pass_38 : decode cX5_pass 38 = .ok (.iinc 2 1, 3) := by decide +kernel
theorem dX5_pass_41 : decode cX5_pass 41 = .ok (.goto (-16), 3) := by decide +kernel
theorem dX5_pass_44 : decode cX5_pass 44 = .ok (.aload_n 0, 1) := by decide +kernel
theorem dX5_pass_45 : decode cX5_pass 45 = .ok (.getfield 24, 3) := by decide +kernel
theorem dX5_pass_48 : decode cX5_pass 48 = .ok (.getfield 141, 3) := by decide +kernel
theorem dX5_pass_51 : decode cX5_pass 51 = .ok (.ireturn, 1) := by decide +kernel
set_option maxRecDepth 20000 in
theorem ggX5_say_X5_isSaying : GoodIn wsX5_say wsX5_isSaying := goodIn_r _ [7, 8, 9, 6, 10, 11, 12, 13] (by decide +kernel) (by decide +kernel)
set_option maxRecDepth 20000 in
theorem gX5_say_X5_isSaying : GoodIn wsX5_say (va_wsS RX5 144 yX5_isSaying wsX5_isSaying) := goodIn_app (goodIn_of _ (by decide +kernel)) ggX5_say_X5_isSaying
set_option maxRecDepth 20000 in
theorem ggX5_say_X2_add : GoodIn wsX5_say wsX2_add := goodIn_r _ [18, 19, 20, 21, 22, 23, 17, 24, 25, 26, 27, 28, 29, 30, 31, 32, 33, 34, 35, 36, 37, 38, 39, 40, 72, 73, 61, 62, 63, 64, 65, 66, 67, 68, 69, 70, 71] (by decide +kernel) (by decide +kernel)
set_option maxRecDepth 20000 in
theorem gX5_say_X2_add : GoodIn wsX5_say (wsV RX5 134 RX2 yX2_add wsX2_add) := goodIn_app (goodIn_of _ (by decide +kernel)) ggX5_say_X2_add
set_option maxRecDepth 20000 in
theorem ggX5_say_X0_addSaying : GoodIn wsX5_say wsX0_addSaying := goodIn_r _ [44, 31, 35, 36, 37, 38, 39, 40, 45, 6, 46, 47, 48, 49, 50, 51, 61, 62, 63, 64, 65, 66, 67, 68, 69, 70, 71] (by decide +kernel) (by decide +kernel)
set_option maxRecDepth 20000 in
theorem gX5_say_X0_addSaying : GoodIn wsX5_say (wsV RX5 148 RX0 yX0_addSaying wsX0_addSaying) := goodIn_app (goodIn_of _ (by decide +kernel)) ggX5_say_X0_addSaying
theorem dX5_say_0 : decode cX5_say 0 = .ok (.iload_n 1, 1) := by decide +kernel
theorem dX5_say_1 : decode cX5_say 1 = .ok (.ifCond .ne 7, 3) := by decide +kernel
theorem dX5_say_4 : decode cX5_say 4 = .ok (.iconst 0, 1) := by decide +kernel
theorem dX5_say_5 : decode cX5_say 5 = .ok (.goto 4, 3) := by decide +kernel
theorem dX5_say_8 : decode cX5_say 8 = .ok (.iload_n 3, 1) := by decide +kernel
theorem dX5_say_9 : decode cX5_say 9 = .ok (.istore 5, 2) := by decide +kernel
theorem dX5_say_11 : decode cX5_say 11 = .ok (.iload_n 1, 1) := by decide +kernel
theorem dX5_say_12 : decode cX5_say 12 = .ok (.iload_n 2, 1) := by decide +kernel
theorem dX5_say_13 : decode cX5_say 13 = .ok (.iload 5, 2) := by decide +kernel
theorem dX5_say_15 : decode cX5_say 15 = .ok (.iload 4, 2) := by decide +kernel
theorem dX5_say_17 : decode cX5_say 17 = .ok (.invokestatic 144, 3) := by decide +kernel
theorem dX5_say_20 : decode cX5_say 20 = .ok (.ifCond .ne 5, 3) := by decide +kernel
theorem dX5_say_23 : decode cX5_say 23 = .ok (.iconst (-1), 1) := by decide +kernel
theorem dX5_say_24 : decode cX5_say 24 = .ok (.ireturn, 1) := by decide +kernel
theorem dX5_say_25 : decode cX5_say 25 = .ok (.aload_n 0, 1) := by decide +kernel
theorem dX5_say_26 : decode cX5_say 26 = .ok (.getfield 24, 3) := by decide +kernel
theorem dX5_say_29 : decode cX5_say 29 = .ok (.getfield 80, 3) := by decide +kernel
theorem dX5_say_32 : decode cX5_say 32 = .ok (.bipush 9, 2) := by decide +kernel
theorem dX5_say_34 : decode cX5_say 34 = .ok (.if_icmp .lt 6, 3) := by decide +kernel
theorem dX5_say_37 : decode cX5_say 37 = .ok (.bipush (-3), 2) := by decide +kernel
theorem dX5_say_39 : decode cX5_say 39 = .ok (.ireturn, 1) := by decide +kernel
theorem dX5_say_40 : decode cX5_say 40 = .ok (.aload_n 0, 1) := by decide +kernel
theorem dX5_say_41 : decode cX5_say 41 = .ok (.getfield 39, 3) := by decide +kernel
theorem dX5_say_44 : decode cX5_say 44 = .ok (.aload_n 0, 1) := by decide +kernel
theorem dX5_say_45 : decode cX5_say 45 = .ok (.getfield 24, 3) := by decide +kernel
theorem dX5_say_48 : decode cX5_say 48 = .ok (.invokevirtual 134, 3) := by decide +kernel
theorem dX5_say_51 : decode cX5_say 51 = .ok (.aload_n 0, 1) := by decide +kernel
theorem dX5_say_52 : decode cX5_say 52 = .ok (.getfield 24, 3) := by decide +kernel
theorem dX5_say_55 : decode cX5_say 55 = .ok (.iload_n 1, 1) := by decide +kernel
theorem dX5_say_56 : decode cX5_say 56 = .ok (.iload_n 2, 1) := by decide +kernel
theorem dX5_say_57 : decode cX5_say 57 = .ok (.iload 5, 2) := by decide +kernel
theorem dX5_say_59 : decode cX5_say 59 = .ok (.iload 4, 2) := by decide +kernel
theorem dX5_say_61 : decode cX5_say 61 = .ok (.invokevirtual 148, 3) := by decide +kernel
theorem dX5_say_64 : decode cX5_say 64 = .ok (.ireturn, 1) := by decide +kernel
set_option maxRecDepth 20000 in
theorem ggX5_withdraw_X0_isThere : GoodIn wsX5_withdraw wsX0_isThere := goodIn_r _ [7, 8, 86, 87, 88, 89, 90, 91, 92, 93, 94, 95, 96] (by decide +kernel) (by decide +kernel)
set_option maxRecDepth 20000 in
theorem gX5_withdraw_X0_isThere : GoodIn wsX5_withdraw (wsV RX5 91 RX0 yX0_isThere wsX0_isThere) := goodIn_app (goodIn_of _ (by decide +kernel)) ggX5_withdraw_X0_isThere
set_option maxRecDepth 20000 in
theorem ggX5_withdraw_X0_canBeWithdrawn : GoodIn wsX5_withdraw wsX0_canBeWithdrawn := goodIn_r _ [12, 13, 4, 5, 6, 7, 8, 14, 15, 16, 17, 18, 19, 20, 21, 22, 23, 24, 25, 26, 27, 28, 29, 30, 31, 32, 33, 86, 87, 88, 89, 90, 91, 92, 93, 94, 95, 96] (by decide +kernel) (by decide +kernel)
set_option maxRecDepth 20000 in
theorem gX5_withdraw_X0_canBeWithdrawn : GoodIn wsX5_withdraw (wsV RX5 152 RX0 yX0_canBeWithdrawn wsX0_canBeWithdrawn) := goodIn_app (goodIn_of _ (by decide +kernel)) ggX5_withdraw_X0_canBeWithdrawn
set_option maxRecDepth 20000 in
theorem ggX5_withdraw_X2_add : GoodIn wsX5_withdraw wsX2_add := goodIn_r _ [38, 39, 40, 41, 42, 43, 37, 44, 45, 46, 47, 6, 48, 30, 8, 18, 49, 24, 50, 51, 52, 53, 23, 29, 97, 98, 86, 87, 88, 89, 90, 91, 92, 93, 94, 95, 96] (by decide +kernel) (by decide +kernel)
set_option maxRecDepth 20000 in
theorem gX5_withdraw_X2_add : GoodIn wsX5_withdraw (wsV RX5 134 RX2 yX2_add wsX2_add) := goodIn_app (goodIn_of _ (by decide +kernel)) ggX5_withdraw_X2_add
set_option maxRecDepth 20000 in
theorem ggX5_withdraw_X0_takeOut : GoodIn wsX5_withdraw wsX0_takeOut := goodIn_r _ [57, 18, 23, 13, 4, 5, 6, 7, 8, 86, 87, 88, 89, 90, 91, 92, 93, 94, 95, 96] (by decide +kernel) (by decide +kernel)
set_option maxRecDepth 20000 in
theorem gX5_withdraw_X0_takeOut : GoodIn wsX5_withdraw (wsV RX5 155 RX0 yX0_takeOut wsX0_takeOut) := goodIn_app (goodIn_of _ (by decide +kernel)) ggX5_withdraw_X0_takeOut
set_option maxRecDepth 20000 in
theorem ggX5_withdraw_X0_policemen : GoodIn wsX5_withdraw wsX0_policemen := goodIn_r _ [61, 30, 62, 63, 64, 6, 65, 8, 14, 15, 16, 17, 18, 66, 67, 68, 69, 29, 13, 4, 5, 7, 31, 32, 33, 70, 71, 72, 73, 74, 75, 76, 86, 87, 88, 89, 90, 91, 92, 93, 94, 95, 96] (by decide +kernel) (by decide +kernel)
set_option maxRecDepth 20000 in
theorem gX5_withdraw_X0_policemen : GoodIn wsX5_withdraw (wsV RX5 158 RX0 yX0_policemen wsX0_policemen) := goodIn_app (goodIn_of _ (by decide +kernel)) ggX5_withdraw_X0_policemen
theorem dX5_withdraw_0 : decode cX5_withdraw 0 = .ok (.aload_n 0, 1) := by decide +kernel
theorem dX5_withdraw_1 : decode cX5_withdraw 1 = .ok (.getfield 24, 3) := by decide +kernel
theorem dX5_withdraw_4 : decode cX5_withdraw 4 = .ok (.iload_n 1, 1) := by decide +kernel
theorem dX5_withdraw_5 : decode cX5_withdraw 5 = .ok (.invokevirtual 91, 3) := by decide +kernel
theorem dX5_withdraw_8 : decode cX5_withdraw 8 = .ok (.ifCond .ne 5, 3) := by decide +kernel
theorem dX5_withdraw_11 : decode cX5_withdraw 11 = .ok (.iconst (-1), 1) := by decide +kernel
theorem dX5_withdraw_12 : decode cX5_withdraw 12 = .ok (.ireturn, 1) := by decide +kernel
theorem dX5_withdraw_13 : decode cX5_withdraw 13 = .ok (.aload_n 0, 1) := by decide +kernel
theorem dX5_withdraw_14 : decode cX5_withdraw 14 = .ok (.getfield 24, 3) := by decide +kernel
theorem dX5_withdraw_17 : decode cX5_withdraw 17 = .ok (.iload_n 1, 1) := by decide +kernel
theorem dX5_withdraw_18 : decode cX5_withdraw 18 = .ok (.invokevirtual 152, 3) := by decide +kernel
theorem dX5_withdraw_21 : decode cX5_withdraw 21 = .ok (.ifCond .ne 6, 3) := by decide +kernel
theorem dX5_withdraw_24 : decode cX5_withdraw 24 = .ok (.bipush (-2), 2) := by decide +kernel
theorem dX5_withdraw_26 : decode cX5_withdraw 26 = .ok (.ireturn, 1) := by decide +kernel
theorem dX5_withdraw_27 : decode cX5_withdraw 27 = .ok (.aload_n 0, 1) := by decide +kernel
theorem dX5_withdraw_28 : decode cX5_withdraw 28 = .ok (.getfield 39, 3) := by decide +kernel
theorem dX5_withdraw_31 : decode cX5_withdraw 31 = .ok (.aload_n 0, 1) := by decide +kernel
theorem dX5_withdraw_32 : decode cX5_withdraw 32 = .ok (.getfield 24, 3) := by decide +kernel
theorem dX5_withdraw_35 : decode cX5_withdraw 35 = .ok (.invokevirtual 134, 3) := by decide +kernel
theorem dX5_withdraw_38 : decode cX5_withdraw 38 = .ok (.aload_n 0, 1) := by decide +kernel
theorem dX5_withdraw_39 : decode cX5_withdraw 39 = .ok (.getfield 24, 3) := by decide +kernel
theorem dX5_withdraw_42 : decode cX5_withdraw 42 = .ok (.iload_n 1, 1) := by decide +kernel
theorem dX5_withdraw_43 : decode cX5_withdraw 43 = .ok (.invokevirtual 155, 3) := by decide +kernel
theorem dX5_withdraw_46 : decode cX5_withdraw 46 = .ok (.aload_n 0, 1) := by decide +kernel
theorem dX5_withdraw_47 : decode cX5_withdraw 47 = .ok (.getfield 24, 3) := by decide +kernel
theorem dX5_withdraw_50 : decode cX5_withdraw 50 = .ok (.invokevirtual 158, 3) := by decide +kernel
theorem dX5_withdraw_53 : decode cX5_withdraw 53 = .ok (.ireturn, 1) := by decide +kernel
set_option maxRecDepth 20000 in
theorem ggX5_turn_X5_isFact : GoodIn wsX5_turn wsX5_isFact := goodIn_r _ [6, 7, 8, 5, 9] (by decide +kernel) (by decide +kernel)
set_option maxRecDepth 20000 in
theorem gX5_turn_X5_isFact : GoodIn wsX5_turn (va_wsS RX5 128 yX5_isFact wsX5_isFact) := goodIn_app (goodIn_of _ (by decide +kernel)) ggX5_turn_X5_isFact
set_option maxRecDepth 20000 in
theorem ggX5_turn_X2_add : GoodIn wsX5_turn wsX2_add := goodIn_r _ [14, 15, 16, 17, 18, 19, 13, 20, 21, 22, 23, 24, 25, 26, 27, 28, 29, 30, 31, 32, 33, 34, 35, 36, 83, 84, 85, 86, 87, 88, 89, 90, 91, 92, 93, 94, 95] (by decide +kernel) (by decide +kernel)
set_option maxRecDepth 20000 in
theorem gX5_turn_X2_add : GoodIn wsX5_turn (wsV RX5 134 RX2 yX2_add wsX2_add) := goodIn_app (goodIn_of _ (by decide +kernel)) ggX5_turn_X2_add
set_option maxRecDepth 20000 in
theorem ggX5_turn_X0_turnFact : GoodIn wsX5_turn wsX0_turnFact := goodIn_r _ [40, 26, 27, 35, 4, 5, 6, 7, 8, 9, 41, 42, 43, 24, 44, 45, 46, 47, 48, 36, 49, 50, 51, 52, 28, 53, 54, 85, 86, 87, 88, 89, 90, 91, 92, 93, 94, 95] (by decide +kernel) (by decide +kernel)
set_option maxRecDepth 20000 in
theorem gX5_turn_X0_turnFact : GoodIn wsX5_turn (wsV RX5 161 RX0 yX0_turnFact wsX0_turnFact) := goodIn_app (goodIn_of _ (by decide +kernel)) ggX5_turn_X0_turnFact
set_option maxRecDepth 20000 in
theorem ggX5_turn_X0_policemen : GoodIn wsX5_turn wsX0_policemen := goodIn_r _ [58, 26, 59, 60, 61, 24, 62, 27, 49, 50, 51, 52, 28, 63, 64, 65, 66, 36, 41, 42, 43, 44, 53, 5, 54, 67, 68, 69, 70, 71, 72, 73, 85, 86, 87, 88, 89, 90, 91, 92, 93, 94, 95] (by decide +kernel) (by decide +kernel)
set_option maxRecDepth 20000 in
theorem gX5_turn_X0_policemen : GoodIn wsX5_turn (wsV RX5 158 RX0 yX0_policemen wsX0_policemen) := goodIn_app (goodIn_of _ (by decide +kernel)) ggX5_turn_X0_policemen
theorem dX5_turn_0 : decode cX5_turn 0 = .ok (.iload_n 1, 1) := by decide +kernel
theorem dX5_turn_1 : decode cX5_turn 1 = .ok (.invokestatic 128, 3) := by decide +kernel
theorem dX5_turn_4 : decode cX5_turn 4 = .ok (.ifCond .ne 5, 3) := by decide +kernel
theorem dX5_turn_7 : decode cX5_turn 7 = .ok (.iconst (-1), 1) := by decide +kernel
theorem dX5_turn_8 : decode cX5_turn 8 = .ok (.ireturn, 1) := by decide +kernel
theorem dX5_turn_9 : decode cX5_turn 9 = .ok (.aload_n 0, 1) := by decide +kernel
theorem dX5_turn_10 : decode cX5_turn 10 = .ok (.getfield 39, 3) := by decide +kernel
theorem dX5_turn_13 : decode cX5_turn 13 = .ok (.aload_n 0, 1) := by decide +kernel
theorem dX5_turn_14 : decode cX5_turn 14 = .ok (.getfield 24, 3) := by decide +kernel
theorem dX5_turn_17 : decode cX5_turn 17 = .ok (.invokevirtual 134, 3) := by decide +kernel
theorem dX5_turn_20 : decode cX5_turn 20 = .ok (.aload_n 0, 1) := by decide +kernel
theorem dX5_turn_21 : decode cX5_turn 21 = .ok (.getfield 24, 3) := by decide +kernel
theorem dX5_turn_24 : decode cX5_turn 24 = .ok (.iload_n 1, 1) := by decide +kernel
theorem dX5_turn_25 : decode cX5_turn 25 = .ok (.invokevirtual 161, 3) := by decide +kernel
theorem dX5_turn_28 : decode cX5_turn 28 = .ok (.aload_n 0, 1) := by decide +kernel
theorem dX5_turn_29 : decode cX5_turn 29 = .ok (.getfield 24, 3) := by decide +kernel
theorem dX5_turn_32 : decode cX5_turn 32 = .ok (.invokevirtual 158, 3) := by decide +kernel
theorem dX5_turn_35 : decode cX5_turn 35 = .ok (.ireturn, 1) := by decide +kernel
set_option maxRecDepth 20000 in
theorem ggX5_undo_X2_takeLast : GoodIn wsX5_undo wsX2_takeLast := goodIn_r _ [8, 9, 10, 11, 12, 13, 14, 15, 16, 17, 18, 19, 20, 21, 22, 23, 24, 25, 26, 36, 37, 38, 39, 40, 41, 42, 43, 44, 45, 46, 47, 48] (by decide +kernel) (by decide +kernel)
set_option maxRecDepth 20000 in
theorem gX5_undo_X2_takeLast : GoodIn wsX5_undo (wsV RX5 164 RX2 yX2_takeLast wsX2_takeLast) := goodIn_app (goodIn_of _ (by decide +kernel)) ggX5_undo_X2_takeLast
theorem dX5_undo_0 : decode cX5_undo 0 = .ok (.aload_n 0, 1) := by decide +kernel
theorem dX5_undo_1 : decode cX5_undo 1 = .ok (.getfield 39, 3) := by decide +kernel
theorem dX5_undo_4 : decode cX5_undo 4 = .ok (.aload_n 0, 1) := by decide +kernel
theorem dX5_undo_5 : decode cX5_undo 5 = .ok (.getfield 24, 3) := by decide +kernel
theorem dX5_undo_8 : decode cX5_undo 8 = .ok (.invokevirtual 164, 3) := by decide +kernel
theorem dX5_undo_11 : decode cX5_undo 11 = .ok (.ifCond .ne 6, 3) := by decide +kernel
theorem dX5_undo_14 : decode cX5_undo 14 = .ok (.bipush (-2), 2) := by decide +kernel
theorem dX5_undo_16 : decode cX5_undo 16 = .ok (.ireturn, 1) := by decide +kernel
theorem dX5_undo_17 : decode cX5_undo 17 = .ok (.aload_n 0, 1) := by decide +kernel
theorem dX5_undo_18 : decode cX5_undo 18 = .ok (.getfield 39, 3) := by decide +kernel
theorem dX5_undo_21 : decode cX5_undo 21 = .ok (.getfield 168, 3) := by decide +kernel
theorem dX5_undo_24 : decode cX5_undo 24 = .ok (.ireturn, 1) := by decide +kernel
set_option maxRecDepth 20000 in
theorem ggX5_behind_X5_isWithin : GoodIn wsX5_behind wsX5_isWithin := goodIn_r _ [7] (by decide +kernel) (by decide +kernel)
set_option maxRecDepth 20000 in
theorem gX5_behind_X5_isWithin : GoodIn wsX5_behind (va_wsS RX5 72 yX5_isWithin wsX5_isWithin) := goodIn_app (goodIn_of _ (by decide +kernel)) ggX5_behind_X5_isWithin
set_option maxRecDepth 20000 in
theorem ggX5_behind_X0_copy : GoodIn wsX5_behind wsX0_copy := goodIn_r _ [12, 13, 14, 15, 16, 17, 18, 19, 20, 21, 22, 23, 79, 80, 81, 82, 83, 84, 85, 86, 87, 88, 89] (by decide +kernel) (by decide +kernel)
set_option maxRecDepth 20000 in
theorem gX5_behind_X0_copy : GoodIn wsX5_behind (wsV RX5 83 RX0 yX0_copy wsX0_copy) := goodIn_app (goodIn_of _ (by decide +kernel)) ggX5_behind_X0_copy
set_option maxRecDepth 20000 in
theorem ggX5_behind_X0_passDay : GoodIn wsX5_behind wsX0_passDay := goodIn_r _ [27, 14, 28, 29, 30, 11, 31, 16, 22, 32, 33, 34, 35, 36, 37, 38, 39, 23, 13, 40, 41, 42, 43, 15, 44, 6, 45, 46, 47, 48, 49, 50, 51, 52, 53, 17, 54, 55, 56, 57, 58, 59, 60, 61, 79, 80, 81, 82, 83, 84, 85, 86, 87, 88, 89] (by decide +kernel) (by decide +kernel)
set_option maxRecDepth 20000 in
theorem gX5_behind_X0_passDay : GoodIn wsX5_behind (wsV RX5 137 RX0 yX0_passDay wsX0_passDay) := goodIn_app (goodIn_of _ (by decide +kernel)) ggX5_behind_X0_passDay
set_option maxRecDepth 20000 in
theorem ggX5_behind_X0_liesIn : GoodIn wsX5_behind wsX0_liesIn := goodIn_r _ [65, 14, 40, 41, 42, 11, 43, 15, 66, 67, 68, 69, 23, 32, 33, 34, 35, 44, 6, 45, 79, 80, 81, 82, 83, 84, 85, 86, 87, 88, 89] (by decide +kernel) (by decide +kernel)
set_option maxRecDepth 20000 in
theorem gX5_behind_X0_liesIn : GoodIn wsX5_behind (wsV RX5 171 RX0 yX0_liesIn wsX0_liesIn) := goodIn_app (goodIn_of _ (by decide +kernel)) ggX5_behind_X0_liesIn
theorem dX5_behind_0 : decode cX5_behind 0 = .ok (.iload_n 1, 1) := by decide +kernel
theorem dX5_behind_1 : decode cX5_behind 1 = .ok (.iconst 0, 1) := by decide +kernel
theorem dX5_behind_2 : decode cX5_behind 2 = .ok (.bipush 60, 2) := by decide +kernel
theorem dX5_behind_4 : decode cX5_behind 4 = .ok (.invokestatic 72, 3) := by decide +kernel
theorem dX5_behind_7 : decode cX5_behind 7 = .ok (.ifCond .ne 5, 3) := by decide +kernel
theorem dX5_behind_10 : decode cX5_behind 10 = .ok (.iconst (-1), 1) := by decide +kernel
theorem dX5_behind_11 : decode cX5_behind 11 = .ok (.ireturn, 1) := by decide +kernel
theorem dX5_behind_12 : decode cX5_behind 12 = .ok (.aload_n 0, 1) := by decide +kernel
theorem dX5_behind_13 : decode cX5_behind 13 = .ok (.getfield 31, 3) := by decide +kernel
theorem dX5_behind_16 : decode cX5_behind 16 = .ok (.aload_n 0, 1) := by decide +kernel
theorem dX5_behind_17 : decode cX5_behind 17 = .ok (.getfield 24, 3) := by decide +kernel
theorem dX5_behind_20 : decode cX5_behind 20 = .ok (.invokevirtual 83, 3) := by decide +kernel
theorem dX5_behind_23 : decode cX5_behind 23 = .ok (.iconst 0, 1) := by decide +kernel
theorem dX5_behind_24 : decode cX5_behind 24 = .ok (.istore_n 2, 1) := by decide +kernel
theorem dX5_behind_25 : decode cX5_behind 25 = .ok (.iload_n 2, 1) := by decide +kernel
theorem dX5_behind_26 : decode cX5_behind 26 = .ok (.iload_n 1, 1) := by decide +kernel
theorem dX5_behind_27 : decode cX5_behind 27 = .ok (.if_icmp .ge 17, 3) := by decide +kernel
theorem dX5_behind_30 : decode cX5_behind 30 = .ok (.aload_n 0, 1) := by decide +kernel
theorem dX5_behind_31 : decode cX5_behind 31 = .ok (.getfield 31, 3) := by decide +kernel
theorem dX5_behind_34 : decode cX5_behind 34 = .ok (.invokevirtual 137, 3) := by decide +kernel
theorem dX5_behind_37 : decode cX5_behind 37 = .ok (.pop, 1) := by decide +kernel
theorem dX5_behind_38 : decode cX5_behind 38 = .ok (.iinc 2 1, 3) := by decide +kernel
theorem dX5_behind_41 : decode cX5_behind 41 = .ok (.goto (-16), 3) := by decide +kernel
theorem dX5_behind_44 : decode cX5_behind 44 = .ok (.aload_n 0, 1) := by decide +kernel
theorem dX5_behind_45 : decode cX5_behind 45 = .ok (.getfield 31, 3) := by decide +kernel
theorem dX5_behind_48 : decode cX5_behind 48 = .ok (.aload_n 0, 1) := by decide +kernel
theorem dX5_behind_49 : decode cX5_behind 49 = .ok (.getfield 31, 3) := by decide +kernel
theorem dX5_behind_52 : decode cX5_behind 52 = .ok (.getfield 108, 3) := by decide +kernel
theorem dX5_behind_55 : decode cX5_behind 55 = .ok (.invokevirtual 171, 3) := by decide +kernel
theorem dX5_behind_58 : decode cX5_behind 58 = .ok (.ireturn, 1) := by decide +kernel
set_option maxRecDepth 20000 in
theorem ggX5_fall_X5_isWithin : GoodIn wsX5_fall wsX5_isWithin := goodIn_r _ [6] (by decide +kernel) (by decide +kernel)
set_option maxRecDepth 20000 in
theorem gX5_fall_X5_isWithin : GoodIn wsX5_fall (va_wsS RX5 72 yX5_isWithin wsX5_isWithin) := goodIn_app (goodIn_of _ (by decide +kernel)) ggX5_fall_X5_isWithin
set_option maxRecDepth 20000 in
theorem ggX5_fall_X0_copy : GoodIn wsX5_fall wsX0_copy := goodIn_r _ [11, 12, 13, 14, 15, 16, 17, 18, 19, 20, 21, 22, 67, 68, 69, 70, 71, 72, 73, 74, 75, 76, 77] (by decide +kernel) (by decide +kernel)
set_option maxRecDepth 20000 in
theorem gX5_fall_X0_copy : GoodIn wsX5_fall (wsV RX5 83 RX0 yX0_copy wsX0_copy) := goodIn_app (goodIn_of _ (by decide +kernel)) ggX5_fall_X0_copy
set_option maxRecDepth 20000 in
theorem ggX5_fall_X0_serveDay : GoodIn wsX5_fall wsX0_serveDay := goodIn_r _ [26, 15, 13, 21, 27, 28, 29, 10, 30, 31, 32, 33, 34, 22, 12, 35, 36, 37, 38, 14, 39, 5, 40, 67, 68, 69, 70, 71, 72, 73, 74, 75, 76, 77] (by decide +kernel) (by decide +kernel)
set_option maxRecDepth 20000 in
theorem gX5_fall_X0_serveDay : GoodIn wsX5_fall (wsV RX5 175 RX0 yX0_serveDay wsX0_serveDay) := goodIn_app (goodIn_of _ (by decide +kernel)) ggX5_fall_X0_serveDay
set_option maxRecDepth 20000 in
theorem ggX5_fall_X0_firstToFall : GoodIn wsX5_fall wsX0_firstToFall := goodIn_r _ [44, 13, 45, 46, 47, 10, 48, 49, 50, 51, 52, 21, 16, 27, 28, 29, 30, 31, 32, 33, 34, 22, 12, 35, 36, 37, 38, 14, 39, 5, 40, 53, 54, 55, 56, 67, 68, 69, 70, 71, 72, 73, 74, 75, 76, 77] (by decide +kernel) (by decide +kernel)
set_option maxRecDepth 20000 in
theorem gX5_fall_X0_firstToFall : GoodIn wsX5_fall (wsV RX5 178 RX0 yX0_firstToFall wsX0_firstToFall) := goodIn_app (goodIn_of _ (by decide +kernel)) ggX5_fall_X0_firstToFall
set_option maxRecDepth 20000 in
theorem ggX5_fall_X0_mateOf : GoodIn wsX5_fall wsX0_mateOf := goodIn_r _ [48, 13, 49, 50, 51, 10, 52, 21, 16, 27, 28, 29, 30, 31, 32, 33, 34, 22, 12, 35, 36, 37, 38, 14, 39, 5, 40, 53, 54, 55, 56, 67, 68, 69, 70, 71, 72, 73, 74, 75, 76, 77] (by decide +kernel) (by decide +kernel)
set_option maxRecDepth 20000 in
theorem gX5_fall_X0_mateOf : GoodIn wsX5_fall (wsV RX5 181 RX0 yX0_mateOf wsX0_mateOf) := goodIn_app (goodIn_of _ (by decide +kernel)) ggX5_fall_X0_mateOf
theorem dX5_fall_0 : decode cX5_fall 0 = .ok (.iload_n 1, 1) := by decide +kernel
theorem dX5_fall_1 : decode cX5_fall 1 = .ok (.iconst 0, 1) := by decide +kernel
theorem dX5_fall_2 : decode cX5_fall 2 = .ok (.iconst 1, 1) := by decide +kernel
theorem dX5_fall_3 : decode cX5_fall 3 = .ok (.invokestatic 72, 3) := by decide +kernel
theorem dX5_fall_6 : decode cX5_fall 6 = .ok (.ifCond .ne 5, 3) := by decide +kernel
theorem dX5_fall_9 : decode cX5_fall 9 = .ok (.iconst (-1), 1) := by decide +kernel
theorem dX5_fall_10 : decode cX5_fall 10 = .ok (.ireturn, 1) := by decide +kernel
theorem dX5_fall_11 : decode cX5_fall 11 = .ok (.aload_n 0, 1) := by decide +kernel
theorem dX5_fall_12 : decode cX5_fall 12 = .ok (.getfield 31, 3) := by decide +kernel
theorem dX5_fall_15 : decode cX5_fall 15 = .ok (.aload_n 0, 1) := by decide +kernel
theorem dX5_fall_16 : decode cX5_fall 16 = .ok (.getfield 24, 3) := by decide +kernel
theorem dX5_fall_19 : decode cX5_fall 19 = .ok (.invokevirtual 83, 3) := by decide +kernel
theorem dX5_fall_22 : decode cX5_fall 22 = .ok (.iconst 1, 1) := by decide +kernel
theorem dX5_fall_23 : decode cX5_fall 23 = .ok (.istore_n 2, 1) := by decide +kernel
theorem dX5_fall_24 : decode cX5_fall 24 = .ok (.iload_n 2, 1) := by decide +kernel
theorem dX5_fall_25 : decode cX5_fall 25 = .ok (.bipush 60, 2) := by decide +kernel
theorem dX5_fall_27 : decode cX5_fall 27 = .ok (.if_icmp .gt 53, 3) := by decide +kernel
theorem dX5_fall_30 : decode cX5_fall 30 = .ok (.aload_n 0, 1) := by decide +kernel
theorem dX5_fall_31 : decode cX5_fall 31 = .ok (.getfield 31, 3) := by decide +kernel
theorem dX5_fall_34 : decode cX5_fall 34 = .ok (.invokevirtual 175, 3) := by decide +kernel
theorem dX5_fall_37 : decode cX5_fall 37 = .ok (.aload_n 0, 1) := by decide +kernel
theorem dX5_fall_38 : decode cX5_fall 38 = .ok (.getfield 31, 3) := by decide +kernel
theorem dX5_fall_41 : decode cX5_fall 41 = .ok (.invokevirtual 178, 3) := by decide +kernel
theorem dX5_fall_44 : decode cX5_fall 44 = .ok (.istore_n 3, 1) := by decide +kernel
theorem dX5_fall_45 : decode cX5_fall 45 = .ok (.iload_n 3, 1) := by decide +kernel
theorem dX5_fall_46 : decode cX5_fall 46 = .ok (.bipush (-4), 2) := by decide +kernel
theorem dX5_fall_48 : decode cX5_fall 48 = .ok (.if_icmp .eq 26, 3) := by decide +kernel
theorem dX5_fall_51 : decode cX5_fall 51 = .ok (.iload_n 1, 1) := by decide +kernel
theorem dX5_fall_52 : decode cX5_fall 52 = .ok (.iconst 1, 1) := by decide +kernel
theorem dX5_fall_53 : decode cX5_fall 53 = .ok (.if_icmp .ne 7, 3) := by decide +kernel
theorem dX5_fall_56 : decode cX5_fall 56 = .ok (.iload_n 2, 1) := by decide +kernel
theorem dX5_fall_57 : decode cX5_fall 57 = .ok (.goto 16, 3) := by decide +kernel
theorem dX5_fall_60 : decode cX5_fall 60 = .ok (.bipush 10, 2) := by decide +kernel
theorem dX5_fall_62 : decode cX5_fall 62 = .ok (.iload_n 3, 1) := by decide +kernel
theorem dX5_fall_63 : decode cX5_fall 63 = .ok (.imul, 1) := by decide +kernel
theorem dX5_fall_64 : decode cX5_fall 64 = .ok (.aload_n 0, 1) := by decide +kernel
theorem dX5_fall_65 : decode cX5_fall 65 = .ok (.getfield 31, 3) := by decide +kernel
theorem dX5_fall_68 : decode cX5_fall 68 = .ok (.iload_n 3, 1) := by decide +kernel
theorem dX5_fall_69 : decode cX5_fall 69 = .ok (.invokevirtual 181, 3) := by decide +kernel
theorem dX5_fall_72 : decode cX5_fall 72 = .ok (.iadd, 1) := by decide +kernel
theorem dX5_fall_73 : decode cX5_fall 73 = .ok (.ireturn, 1) := by decide +kernel
theorem dX5_fall_74 : decode cX5_fall 74 = .ok (.iinc 2 1, 3) := by decide +kernel
theorem dX5_fall_77 : decode cX5_fall 77 = .ok (.goto (-53), 3) := by decide +kernel
theorem dX5_fall_80 : decode cX5_fall 80 = .ok (.bipush (-4), 2) := by decide +kernel
theorem dX5_fall_82 : decode cX5_fall 82 = .ok (.ireturn, 1) := by decide +kernel
set_option maxRecDepth 20000 in
theorem ggX5_core_X0_lowestCore : GoodIn wsX5_core wsX0_lowestCore := goodIn_r _ [6, 7, 8, 9, 5, 10, 11, 12, 13, 14, 15, 16, 17, 18, 19, 20, 21, 22, 23, 24, 25, 26, 27, 28, 29, 30, 31, 32, 42, 43, 44, 45, 46, 47, 48, 49, 50, 51, 52] (by decide +kernel) (by decide +kernel)
set_option maxRecDepth 20000 in
theorem gX5_core_X0_lowestCore : GoodIn wsX5_core (wsV RX5 184 RX0 yX0_lowestCore wsX0_lowestCore) := goodIn_app (goodIn_of _ (by decide +kernel)) ggX5_core_X0_lowestCore
theorem dX5_core_0 : decode cX5_core 0 = .ok (.aload_n 0, 1) := by decide +kernel
theorem dX5_core_1 : decode cX5_core 1 = .ok (.getfield 24, 3) := by decide +kernel
theorem dX5_core_4 : decode cX5_core 4 = .ok (.invokevirtual 184, 3) := by decide +kernel
theorem dX5_core_7 : decode cX5_core 7 = .ok (.ireturn, 1) := by decide +kernel
set_option maxRecDepth 20000 in
theorem ggX5_cut_X0_lowestCut : GoodIn wsX5_cut wsX0_lowestCut := goodIn_r _ [6, 7, 8, 9, 5, 10, 11, 12, 13, 14, 15, 16, 17, 18, 19, 20, 21, 22, 23, 24, 25, 26, 27, 28, 29, 30, 31, 32, 42, 43, 44, 45, 46, 47, 48, 49, 50, 51, 52] (by decide +kernel) (by decide +kernel)
set_option maxRecDepth 20000 in
theorem gX5_cut_X0_lowestCut : GoodIn wsX5_cut (wsV RX5 187 RX0 yX0_lowestCut wsX0_lowestCut) := goodIn_app (goodIn_of _ (by decide +kernel)) ggX5_cut_X0_lowestCut
theorem dX5_cut_0 : decode cX5_cut 0 = .ok (.aload_n 0, 1) := by decide +kernel
theorem dX5_cut_1 : decode cX5_cut 1 = .ok (.getfield 24, 3) := by decide +kernel
theorem dX5_cut_4 : decode cX5_cut 4 = .ok (.invokevirtual 187, 3) := by decide +kernel
theorem dX5_cut_7 : decode cX5_cut 7 = .ok (.ireturn, 1) := by decide +kernel
set_option maxRecDepth 20000 in
theorem ggX5_truest_X5_isWithin : GoodIn wsX5_truest wsX5_isWithin := goodIn_r _ [5] (by decide +kernel) (by decide +kernel)
set_option maxRecDepth 20000 in
theorem gX5_truest_X5_isWithin : GoodIn wsX5_truest (va_wsS RX5 72 yX5_isWithin wsX5_isWithin) := goodIn_app (goodIn_of _ (by decide +kernel)) ggX5_truest_X5_isWithin
set_option maxRecDepth 20000 in
theorem ggX5_truest_X0_soAtOnce : GoodIn wsX5_truest wsX0_soAtOnce := goodIn_r _ [10, 11, 12, 13, 9, 14, 15, 16, 17, 18, 19, 20, 21, 22, 23, 24, 25, 26, 27, 28, 29, 30, 31, 32, 33, 34, 4, 35, 36, 37, 38, 39, 40, 41, 42, 52, 53, 54, 55, 56, 57, 58, 59, 60, 61, 62] (by decide +kernel) (by decide +kernel)
set_option maxRecDepth 20000 in
theorem gX5_truest_X0_soAtOnce : GoodIn wsX5_truest (wsV RX5 190 RX0 yX0_soAtOnce wsX0_soAtOnce) := goodIn_app (goodIn_of _ (by decide +kernel)) ggX5_truest_X0_soAtOnce
theorem dX5_truest_0 : decode cX5_truest 0 = .ok (.iload_n 1, 1) := by decide +kernel
theorem dX5_truest_1 : decode cX5_truest 1 = .ok (.iconst 0, 1) := by decide +kernel
theorem dX5_truest_2 : decode cX5_truest 2 = .ok (.iconst 1, 1) := by decide +kernel
theorem dX5_truest_3 : decode cX5_truest 3 = .ok (.invokestatic 72, 3) := by decide +kernel
theorem dX5_truest_6 : decode cX5_truest 6 = .ok (.ifCond .ne 5, 3) := by decide +kernel
theorem dX5_truest_9 : decode cX5_truest 9 = .ok (.iconst (-1), 1) := by decide +kernel
theorem dX5_truest_10 : decode cX5_truest 10 = .ok (.ireturn, 1) := by decide +kernel
theorem dX5_truest_11 : decode cX5_truest 11 = .ok (.iconst (-1), 1) := by decide +kernel
theorem dX5_truest_12 : decode cX5_truest 12 = .ok (.istore_n 2, 1) := by decide +kernel
theorem dX5_truest_13 : decode cX5_truest 13 = .ok (.iconst 0, 1) := by decide +kernel
theorem dX5_truest_14 : decode cX5_truest 14 = .ok (.istore_n 3, 1) := by decide +kernel
theorem dX5_truest_15 : decode cX5_truest 15 = .ok (.iconst 0, 1) := by decide +kernel
theorem dX5_truest_16 : decode cX5_truest 16 = .ok (.istore 4, 2) := by decide +kernel
theorem dX5_truest_18 : decode cX5_truest 18 = .ok (.iload 4, 2) := by decide +kernel
theorem dX5_truest_20 : decode cX5_truest 20 = .ok (.bipush 64, 2) := by decide +kernel
theorem dX5_truest_22 : decode cX5_truest 22 = .ok (.if_icmp .ge 32, 3) := by decide +kernel
theorem dX5_truest_25 : decode cX5_truest 25 = .ok (.aload_n 0, 1) := by decide +kernel
theorem dX5_truest_26 : decode cX5_truest 26 = .ok (.getfield 24, 3) := by decide +kernel
theorem dX5_truest_29 : decode cX5_truest 29 = .ok (.iload 4, 2) := by decide +kernel
theorem dX5_truest_31 : decode cX5_truest 31 = .ok (.invokevirtual 190, 3) := by decide +kernel
theorem dX5_truest_34 : decode cX5_truest 34 = .ok (.istore 5, 2) := by decide +kernel
theorem dX5_truest_36 : decode cX5_truest 36 = .ok (.iload 5, 2) := by decide +kernel
theorem dX5_truest_38 : decode cX5_truest 38 = .ok (.iload_n 2, 1) := by decide +kernel
theorem dX5_truest_39 : decode cX5_truest 39 = .ok (.if_icmp .le 9, 3) := by decide +kernel
theorem dX5_truest_42 : decode cX5_truest 42 = .ok (.iload 5, 2) := by decide +kernel
theorem dX5_truest_44 : decode cX5_truest 44 = .ok (.istore_n 2, 1) := by decide +kernel
theorem dX5_truest_45 : decode cX5_truest 45 = .ok (.iload 4, 2) := by decide +kernel
theorem dX5_truest_47 : decode cX5_truest 47 = .ok (.istore_n 3, 1) := by decide +kernel
theorem dX5_truest_48 : decode cX5_truest 48 = .ok (.iinc 4 1, 3) := by decide +kernel
theorem dX5_truest_51 : decode cX5_truest 51 = .ok (.goto (-33), 3) := by decide +kernel
theorem dX5_truest_54 : decode cX5_truest 54 = .ok (.iload_n 1, 1) := by decide +kernel
theorem dX5_truest_55 : decode cX5_truest 55 = .ok (.ifCond .ne 7, 3) := by decide +kernel
theorem dX5_truest_58 : decode cX5_truest 58 = .ok (.iload_n 2, 1) := by decide +kernel
theorem dX5_truest_59 : decode cX5_truest 59 = .ok (.goto 4, 3) := by decide +kernel
theorem dX5_truest_62 : decode cX5_truest 62 = .ok (.iload_n 3, 1) := by decide +kernel
theorem dX5_truest_63 : decode cX5_truest 63 = .ok (.ireturn, 1) := by decide +kernel
set_option maxRecDepth 20000 in
theorem ggX5_married_X0_liesIn : GoodIn wsX5_married wsX0_liesIn := goodIn_r _ [7, 8, 9, 10, 11, 6, 12, 13, 14, 15, 16, 17, 18, 19, 20, 21, 22, 23, 24, 25, 55, 56, 57, 58, 59, 60, 61, 62, 63, 64, 65] (by decide +kernel) (by decide +kernel)
set_option maxRecDepth 20000 in
theorem gX5_married_X0_liesIn : GoodIn wsX5_married (wsV RX5 171 RX0 yX0_liesIn wsX0_liesIn) := goodIn_app (goodIn_of _ (by decide +kernel)) ggX5_married_X0_liesIn
set_option maxRecDepth 20000 in
theorem ggX5_married_X0_mostPairs : GoodIn wsX5_married wsX0_mostPairs := goodIn_r _ [29, 8, 30, 31, 32, 33, 34, 27, 28, 6, 35, 24, 36, 37, 38, 39, 40, 41, 19, 20, 21, 22, 42, 43, 44, 45, 18, 55, 56, 57, 58, 59, 60, 61, 62, 63, 64, 65] (by decide +kernel) (by decide +kernel)
set_option maxRecDepth 20000 in
theorem gX5_married_X0_mostPairs : GoodIn wsX5_married (wsV RX5 193 RX0 yX0_mostPairs wsX0_mostPairs) := goodIn_app (goodIn_of _ (by decide +kernel)) ggX5_married_X0_mostPairs
theorem dX5_married_0 : decode cX5_married 0 = .ok (.aload_n 0, 1) := by decide +kernel
theorem dX5_married_1 : decode cX5_married 1 = .ok (.getfield 24, 3) := by decide +kernel
theorem dX5_married_4 : decode cX5_married 4 = .ok (.aload_n 0, 1) := by decide +kernel
theorem dX5_married_5 : decode cX5_married 5 = .ok (.getfield 24, 3) := by decide +kernel
theorem dX5_married_8 : decode cX5_married 8 = .ok (.aload_n 0, 1) := by decide +kernel
theorem dX5_married_9 : decode cX5_married 9 = .ok (.getfield 24, 3) := by decide +kernel
theorem dX5_married_12 : decode cX5_married 12 = .ok (.getfield 108, 3) := by decide +kernel
theorem dX5_married_15 : decode cX5_married 15 = .ok (.invokevirtual 171, 3) := by decide +kernel
theorem dX5_married_18 : decode cX5_married 18 = .ok (.iconst 0, 1) := by decide +kernel
theorem dX5_married_19 : decode cX5_married 19 = .ok (.invokevirtual 193, 3) := by decide +kernel
theorem dX5_married_22 : decode cX5_married 22 = .ok (.ireturn, 1) := by decide +kernel
set_option maxRecDepth 20000 in
theorem ggX5_trial_X5_isWithin : GoodIn wsX5_trial wsX5_isWithin := goodIn_r _ [7] (by decide +kernel) (by decide +kernel)
set_option maxRecDepth 20000 in
theorem gX5_trial_X5_isWithin : GoodIn wsX5_trial (va_wsS RX5 72 yX5_isWithin wsX5_isWithin) := goodIn_app (goodIn_of _ (by decide +kernel)) ggX5_trial_X5_isWithin
set_option maxRecDepth 20000 in
theorem ggX5_trial_X1_lookAhead : GoodIn wsX5_trial wsX1_lookAhead := goodIn_r _ [12, 13, 14, 15, 16, 17, 18, 19, 20, 21, 22, 23, 24, 25, 26, 27, 28, 29, 30, 31, 32, 33, 34, 35, 6, 36, 37, 38, 39, 40, 41, 42, 43, 44, 45, 46, 11, 47, 48, 49, 50, 51, 52, 53, 54, 55, 56, 57, 58, 5, 7, 88, 89, 77, 78, 79, 80, 81, 82, 83, 84, 85, 86, 87] (by decide +kernel) (by decide +kernel)
set_option maxRecDepth 20000 in
theorem gX5_trial_X1_lookAhead : GoodIn wsX5_trial (wsV RX5 197 RX1 yX1_lookAhead wsX1_lookAhead) := goodIn_app (goodIn_of _ (by decide +kernel)) ggX5_trial_X1_lookAhead
set_option maxRecDepth 20000 in
theorem ggX5_trial_X1_outcome : GoodIn wsX5_trial wsX1_outcome := goodIn_r _ [62, 13, 5, 6, 7, 88, 89] (by decide +kernel) (by decide +kernel)
set_option maxRecDepth 20000 in
theorem gX5_trial_X1_outcome : GoodIn wsX5_trial (wsV RX5 201 RX1 yX1_outcome wsX1_outcome) := goodIn_app (goodIn_of _ (by decide +kernel)) ggX5_trial_X1_outcome
set_option maxRecDepth 20000 in
theorem ggX5_trial_X1_firstMove : GoodIn wsX5_trial wsX1_firstMove := goodIn_r _ [66, 67, 60, 61, 11, 62, 13, 5, 6, 7, 55, 56, 57, 58, 14, 88, 89] (by decide +kernel) (by decide +kernel)
set_option maxRecDepth 20000 in
theorem gX5_trial_X1_firstMove : GoodIn wsX5_trial (wsV RX5 204 RX1 yX1_firstMove wsX1_firstMove) := goodIn_app (goodIn_of _ (by decide +kernel)) ggX5_trial_X1_firstMove
theorem dX5_trial_0 : decode cX5_trial 0 = .ok (.iload_n 1, 1) := by decide +kernel
theorem dX5_trial_1 : decode cX5_trial 1 = .ok (.iconst 1, 1) := by decide +kernel
theorem dX5_trial_2 : decode cX5_trial 2 = .ok (.iconst 4, 1) := by decide +kernel
theorem dX5_trial_3 : decode cX5_trial 3 = .ok (.invokestatic 72, 3) := by decide +kernel
theorem dX5_trial_6 : decode cX5_trial 6 = .ok (.ifCond .eq 12, 3) := by decide +kernel
theorem dX5_trial_9 : decode cX5_trial 9 = .ok (.iload_n 2, 1) := by decide +kernel
theorem dX5_trial_10 : decode cX5_trial 10 = .ok (.iconst 0, 1) := by decide +kernel
theorem dX5_trial_11 : decode cX5_trial 11 = .ok (.iconst 1, 1) := by decide +kernel
theorem dX5_trial_12 : decode cX5_trial 12 = .ok (.invokestatic 72, 3) := by decide +kernel
theorem dX5_trial_15 : decode cX5_trial 15 = .ok (.ifCond .ne 5, 3) := by decide +kernel
theorem dX5_trial_18 : decode cX5_trial 18 = .ok (.iconst (-1), 1) := by decide +kernel
theorem dX5_trial_19 : decode cX5_trial 19 = .ok (.ireturn, 1) := by decide +kernel
theorem dX5_trial_20 : decode cX5_trial 20 = .ok (.aload_n 0, 1) := by decide +kernel
theorem dX5_trial_21 : decode cX5_trial 21 = .ok (.getfield 56, 3) := by decide +kernel
theorem dX5_trial_24 : decode cX5_trial 24 = .ok (.aload_n 0, 1) := by decide +kernel
theorem dX5_trial_25 : decode cX5_trial 25 = .ok (.getfield 24, 3) := by decide +kernel
theorem dX5_trial_28 : decode cX5_trial 28 = .ok (.iload_n 1, 1) := by decide +kernel
theorem dX5_trial_29 : decode cX5_trial 29 = .ok (.invokevirtual 197, 3) := by decide +kernel
theorem dX5_trial_32 : decode cX5_trial 32 = .ok (.iload_n 2, 1) := by decide +kernel
theorem dX5_trial_33 : decode cX5_trial 33 = .ok (.ifCond .ne 20, 3) := by decide +kernel
theorem dX5_trial_36 : decode cX5_trial 36 = .ok (.aload_n 0, 1) := by decide +kernel
theorem dX5_trial_37 : decode cX5_trial 37 = .ok (.getfield 56, 3) := by decide +kernel
theorem dX5_trial_40 : decode cX5_trial 40 = .ok (.aload_n 0, 1) := by decide +kernel
theorem dX5_trial_41 : decode cX5_trial 41 = .ok (.getfield 24, 3) := by decide +kernel
theorem dX5_trial_44 : decode cX5_trial 44 = .ok (.getfield 108, 3) := by decide +kernel
theorem dX5_trial_47 : decode cX5_trial 47 = .ok (.invokevirtual 201, 3) := by decide +kernel
theorem dX5_trial_50 : decode cX5_trial 50 = .ok (.goto 17, 3) := by decide +kernel
theorem dX5_trial_53 : decode cX5_trial 53 = .ok (.aload_n 0, 1) := by decide +kernel
theorem dX5_trial_54 : decode cX5_trial 54 = .ok (.getfield 56, 3) := by decide +kernel
theorem dX5_trial_57 : decode cX5_trial 57 = .ok (.aload_n 0, 1) := by decide +kernel
theorem dX5_trial_58 : decode cX5_trial 58 = .ok (.getfield 24, 3) := by decide +kernel
theorem dX5_trial_61 : decode cX5_trial 61 = .ok (.getfield 108, 3) := by decide +kernel
theorem dX5_trial_64 : decode cX5_trial 64 = .ok (.invokevirtual 204, 3) := by decide +kernel
theorem dX5_trial_67 : decode cX5_trial 67 = .ok (.ireturn, 1) := by decide +kernel
set_option maxRecDepth 20000 in
theorem ggX5_see_X0_isThere : GoodIn wsX5_see wsX0_isThere := goodIn_r _ [7, 8, 26, 27, 28, 29, 30, 31, 32, 33, 34, 35, 36] (by decide +kernel) (by decide +kernel)
set_option maxRecDepth 20000 in
theorem gX5_see_X0_isThere : GoodIn wsX5_see (wsV RX5 91 RX0 yX0_isThere wsX0_isThere) := goodIn_app (goodIn_of _ (by decide +kernel)) ggX5_see_X0_isThere
set_option maxRecDepth 20000 in
theorem ggX5_see_X4_add : GoodIn wsX5_see wsX4_add := goodIn_r _ [13, 14, 15, 16, 37, 38, 39] (by decide +kernel) (by decide +kernel)
set_option maxRecDepth 20000 in
theorem gX5_see_X4_add : GoodIn wsX5_see (wsV RX5 207 RX4 yX4_add wsX4_add) := goodIn_app (goodIn_of _ (by decide +kernel)) ggX5_see_X4_add
theorem dX5_see_0 : decode cX5_see 0 = .ok (.aload_n 0, 1) := by decide +kernel
theorem dX5_see_1 : decode cX5_see 1 = .ok (.getfield 24, 3) := by decide +kernel
theorem dX5_see_4 : decode cX5_see 4 = .ok (.iload_n 1, 1) := by decide +kernel
theorem dX5_see_5 : decode cX5_see 5 = .ok (.invokevirtual 91, 3) := by decide +kernel
theorem dX5_see_8 : decode cX5_see 8 = .ok (.ifCond .ne 5, 3) := by decide +kernel
theorem dX5_see_11 : decode cX5_see 11 = .ok (.iconst (-1), 1) := by decide +kernel
theorem dX5_see_12 : decode cX5_see 12 = .ok (.ireturn, 1) := by decide +kernel
theorem dX5_see_13 : decode cX5_see 13 = .ok (.aload_n 0, 1) := by decide +kernel
theorem dX5_see_14 : decode cX5_see 14 = .ok (.getfield 49, 3) := by decide +kernel
theorem dX5_see_17 : decode cX5_see 17 = .ok (.iload_n 1, 1) := by decide +kernel
theorem dX5_see_18 : decode cX5_see 18 = .ok (.iload_n 2, 1) := by decide +kernel
theorem dX5_see_19 : decode cX5_see 19 = .ok (.invokevirtual 207, 3) := by decide +kernel
theorem dX5_see_22 : decode cX5_see 22 = .ok (.ireturn, 1) := by decide +kernel
set_option maxRecDepth 20000 in
theorem ggX5_forget_X4_clear : GoodIn wsX5_forget wsX4_clear := goodIn_r _ [7, 8, 18, 19, 20] (by decide +kernel) (by decide +kernel)
set_option maxRecDepth 20000 in
theorem gX5_forget_X4_clear : GoodIn wsX5_forget (wsV RX5 90 RX4 yX4_clear wsX4_clear) := goodIn_app (goodIn_of _ (by decide +kernel)) ggX5_forget_X4_clear
theorem dX5_forget_0 : decode cX5_forget 0 = .ok (.aload_n 0, 1) := by decide +kernel
theorem dX5_forget_1 : decode cX5_forget 1 = .ok (.getfield 49, 3) := by decide +kernel
theorem dX5_forget_4 : decode cX5_forget 4 = .ok (.getfield 210, 3) := by decide +kernel
theorem dX5_forget_7 : decode cX5_forget 7 = .ok (.istore_n 1, 1) := by decide +kernel
theorem dX5_forget_8 : decode cX5_forget 8 = .ok (.aload_n 0, 1) := by decide +kernel
theorem dX5_forget_9 : decode cX5_forget 9 = .ok (.getfield 49, 3) := by decide +kernel
theorem dX5_forget_12 : decode cX5_forget 12 = .ok (.invokevirtual 90, 3) := by decide +kernel
theorem dX5_forget_15 : decode cX5_forget 15 = .ok (.iload_n 1, 1) := by decide +kernel
theorem dX5_forget_16 : decode cX5_forget 16 = .ok (.ireturn, 1) := by decide +kernel
set_option maxRecDepth 20000 in
theorem ggX5_worlds_X5_isWithin : GoodIn wsX5_worlds wsX5_isWithin := goodIn_r _ [6] (by decide +kernel) (by decide +kernel)
set_option maxRecDepth 20000 in
theorem gX5_worlds_X5_isWithin : GoodIn wsX5_worlds (va_wsS RX5 72 yX5_isWithin wsX5_isWithin) := goodIn_app (goodIn_of _ (by decide +kernel)) ggX5_worlds_X5_isWithin
set_option maxRecDepth 20000 in
theorem ggX5_worlds_X4_worldsAsSeen : GoodIn wsX5_worlds wsX4_worldsAsSeen := goodIn_r _ [11, 12, 13, 14, 15, 16, 17, 18, 19, 20, 21, 22, 23, 24, 25, 26, 27, 28, 29, 30, 31, 32, 55, 56, 57, 58, 59, 60, 61, 62, 63, 64, 65, 66, 67, 68] (by decide +kernel) (by decide +kernel)
set_option maxRecDepth 20000 in
theorem gX5_worlds_X4_worldsAsSeen : GoodIn wsX5_worlds (wsV RX5 211 RX4 yX4_worldsAsSeen wsX4_worldsAsSeen) := goodIn_app (goodIn_of _ (by decide +kernel)) ggX5_worlds_X4_worldsAsSeen
set_option maxRecDepth 20000 in
theorem ggX5_worlds_J13_bitCount_95d88 : GoodIn wsX5_worlds wsJ13_bitCount_95d88 := goodIn_r _ [36, 37, 38, 39] (by decide +kernel) (by decide +kernel)
set_option maxRecDepth 20000 in
theorem gX5_worlds_J13_bitCount_95d88 : GoodIn wsX5_worlds (va_wsS RX5 215 yJ13_bitCount_95d88 wsJ13_bitCount_95d88) := goodIn_app (goodIn_of _ (by decide +kernel)) ggX5_worlds_J13_bitCount_95d88
set_option maxRecDepth 20000 in
theorem ggX5_worlds_X5_lowestWorld : GoodIn wsX5_worlds wsX5_lowestWorld := goodIn_r _ [42, 43, 44, 5, 45] (by decide +kernel) (by decide +kernel)
set_option maxRecDepth 20000 in
theorem gX5_worlds_X5_lowestWorld : GoodIn wsX5_worlds (va_wsS RX5 221 yX5_lowestWorld wsX5_lowestWorld) := goodIn_app (goodIn_of _ (by decide +kernel)) ggX5_worlds_X5_lowestWorld
theorem dX5_worlds_0 : decode cX5_worlds 0 = .ok (.iload_n 1, 1) := by decide +kernel
theorem dX5_worlds_1 : decode cX5_worlds 1 = .ok (.iconst 0, 1) := by decide +kernel
theorem dX5_worlds_2 : decode cX5_worlds 2 = .ok (.iconst 1, 1) := by decide +kernel
theorem dX5_worlds_3 : decode cX5_worlds 3 = .ok (.invokestatic 72, 3) := by decide +kernel
theorem dX5_worlds_6 : decode cX5_worlds 6 = .ok (.ifCond .ne 5, 3) := by decide +kernel
theorem dX5_worlds_9 : decode cX5_worlds 9 = .ok (.iconst (-1), 1) := by decide +kernel
theorem dX5_worlds_10 : decode cX5_worlds 10 = .ok (.ireturn, 1) := by decide +kernel
theorem dX5_worlds_11 : decode cX5_worlds 11 = .ok (.aload_n 0, 1) := by decide +kernel
theorem dX5_worlds_12 : decode cX5_worlds 12 = .ok (.getfield 49, 3) := by decide +kernel
theorem dX5_worlds_15 : decode cX5_worlds 15 = .ok (.aload_n 0, 1) := by decide +kernel
theorem dX5_worlds_16 : decode cX5_worlds 16 = .ok (.getfield 24, 3) := by decide +kernel
theorem dX5_worlds_19 : decode cX5_worlds 19 = .ok (.invokevirtual 211, 3) := by decide +kernel
theorem dX5_worlds_22 : decode cX5_worlds 22 = .ok (.lstore_n 2, 1) := by decide +kernel
theorem dX5_worlds_23 : decode cX5_worlds 23 = .ok (.iload_n 1, 1) := by decide +kernel
theorem dX5_worlds_24 : decode cX5_worlds 24 = .ok (.ifCond .ne 10, 3) := by decide +kernel
theorem dX5_worlds_27 : decode cX5_worlds 27 = .ok (.lload_n 2, 1) := by decide +kernel
theorem dX5_worlds_28 : decode cX5_worlds 28 = .ok (.invokestatic 215, 3) := by decide +kernel
theorem dX5_worlds_31 : decode cX5_worlds 31 = .ok (.goto 7, 3) := by decide +kernel
theorem dX5_worlds_34 : decode cX5_worlds 34 = .ok (.lload_n 2, 1) := by decide +kernel
theorem dX5_worlds_35 : decode cX5_worlds 35 = .ok (.invokestatic 221, 3) := by decide +kernel
theorem dX5_worlds_38 : decode cX5_worlds 38 = .ok (.ireturn, 1) := by decide +kernel
set_option maxRecDepth 20000 in
theorem ggX5_must_X5_isFact : GoodIn wsX5_must wsX5_isFact := goodIn_r _ [6, 7, 8, 5, 9] (by decide +kernel) (by decide +kernel)
set_option maxRecDepth 20000 in
theorem gX5_must_X5_isFact : GoodIn wsX5_must (va_wsS RX5 128 yX5_isFact wsX5_isFact) := goodIn_app (goodIn_of _ (by decide +kernel)) ggX5_must_X5_isFact
set_option maxRecDepth 20000 in
theorem ggX5_must_X4_worldsAsSeen : GoodIn wsX5_must wsX4_worldsAsSeen := goodIn_r _ [14, 15, 16, 17, 18, 19, 20, 21, 22, 23, 24, 25, 26, 27, 28, 29, 30, 31, 32, 33, 34, 35, 50, 51, 52, 53, 54, 55, 56, 57, 58, 59, 60, 61, 62, 63] (by decide +kernel) (by decide +kernel)
set_option maxRecDepth 20000 in
theorem gX5_must_X4_worldsAsSeen : GoodIn wsX5_must (wsV RX5 211 RX4 yX4_worldsAsSeen wsX4_worldsAsSeen) := goodIn_app (goodIn_of _ (by decide +kernel)) ggX5_must_X4_worldsAsSeen
set_option maxRecDepth 20000 in
theorem ggX5_must_X5_worldsOfLiteral : GoodIn wsX5_must wsX5_worldsOfLiteral := goodIn_r _ [38, 39, 40] (by decide +kernel) (by decide +kernel)
set_option maxRecDepth 20000 in
theorem gX5_must_X5_worldsOfLiteral : GoodIn wsX5_must (va_wsS RX5 224 yX5_worldsOfLiteral wsX5_worldsOfLiteral) := goodIn_app (goodIn_of _ (by decide +kernel)) ggX5_must_X5_worldsOfLiteral
theorem dX5_must_0 : decode cX5_must 0 = .ok (.iload_n 1, 1) := by decide +kernel
theorem dX5_must_1 : decode cX5_must 1 = .ok (.invokestatic 128, 3) := by decide +kernel
theorem dX5_must_4 : decode cX5_must 4 = .ok (.ifCond .ne 5, 3) := by decide +kernel
theorem dX5_must_7 : decode cX5_must 7 = .ok (.iconst (-1), 1) := by decide +kernel
theorem dX5_must_8 : decode cX5_must 8 = .ok (.ireturn, 1) := by decide +kernel
theorem dX5_must_9 : decode cX5_must 9 = .ok (.aload_n 0, 1) := by decide +kernel
theorem dX5_must_10 : decode cX5_must 10 = .ok (.getfield 49, 3) := by decide +kernel
theorem dX5_must_13 : decode cX5_must 13 = .ok (.aload_n 0, 1) := by decide +kernel
theorem dX5_must_14 : decode cX5_must 14 = .ok (.getfield 24, 3) := by decide +kernel
theorem dX5_must_17 : decode cX5_must 17 = .ok (.invokevirtual 211, 3) := by decide +kernel
theorem dX5_must_20 : decode cX5_must 20 = .ok (.lstore_n 2, 1) := by decide +kernel
theorem dX5_must_21 : decode cX5_must 21 = .ok (.lload_n 2, 1) := by decide +kernel
theorem dX5_must_22 : decode cX5_must 22 = .ok (.lconst 0, 1) := by decide +kernel
theorem dX5_must_23 : decode cX5_must 23 = .ok (.lcmp, 1) := by decide +kernel
theorem dX5_must_24 : decode cX5_must 24 = .ok (.ifCond .ne 6, 3) := by decide +kernel
theorem dX5_must_27 : decode cX5_must 27 = .ok (.bipush (-4), 2) := by decide +kernel
theorem dX5_must_29 : decode cX5_must 29 = .ok (.ireturn, 1) := by decide +kernel
theorem dX5_must_30 : decode cX5_must 30 = .ok (.lload_n 2, 1) := by decide +kernel
theorem dX5_must_31 : decode cX5_must 31 = .ok (.iload_n 1, 1) := by decide +kernel
theorem dX5_must_32 : decode cX5_must 32 = .ok (.invokestatic 224, 3) := by decide +kernel
theorem dX5_must_35 : decode cX5_must 35 = .ok (.land, 1) := by decide +kernel
theorem dX5_must_36 : decode cX5_must 36 = .ok (.lstore 4, 2) := by decide +kernel
theorem dX5_must_38 : decode cX5_must 38 = .ok (.lload 4, 2) := by decide +kernel
theorem dX5_must_40 : decode cX5_must 40 = .ok (.lload_n 2, 1) := by decide +kernel
theorem dX5_must_41 : decode cX5_must 41 = .ok (.lcmp, 1) := by decide +kernel
theorem dX5_must_42 : decode cX5_must 42 = .ok (.ifCond .ne 5, 3) := by decide +kernel
theorem dX5_must_45 : decode cX5_must 45 = .ok (.iconst 1, 1) := by decide +kernel
theorem dX5_must_46 : decode cX5_must 46 = .ok (.ireturn, 1) := by decide +kernel
theorem dX5_must_47 : decode cX5_must 47 = .ok (.lload 4, 2) := by decide +kernel
theorem dX5_must_49 : decode cX5_must 49 = .ok (.lconst 0, 1) := by decide +kernel
theorem dX5_must_50 : decode cX5_must 50 = .ok (.lcmp, 1) := by decide +kernel
theorem dX5_must_51 : decode cX5_must 51 = .ok (.ifCond .ne 7, 3) := by decide +kernel
theorem dX5_must_54 : decode cX5_must 54 = .ok (.iconst 0, 1) := by decide +kernel
theorem dX5_must_55 : decode cX5_must 55 = .ok (.goto 4, 3) := by decide +kernel
theorem dX5_must_58 : decode cX5_must 58 = .ok (.iconst 2, 1) := by decide +kernel
theorem dX5_must_59 : decode cX5_must 59 = .ok (.ireturn, 1) := by decide +kernel
set_option maxRecDepth 20000 in
theorem ggX5_liars_X5_isWithin : GoodIn wsX5_liars wsX5_isWithin := goodIn_r _ [6] (by decide +kernel) (by decide +kernel)
set_option maxRecDepth 20000 in
theorem gX5_liars_X5_isWithin : GoodIn wsX5_liars (va_wsS RX5 72 yX5_isWithin wsX5_isWithin) := goodIn_app (goodIn_of _ (by decide +kernel)) ggX5_liars_X5_isWithin
set_option maxRecDepth 20000 in
theorem ggX5_liars_X4_worldsAsSeen : GoodIn wsX5_liars wsX4_worldsAsSeen := goodIn_r _ [11, 12, 13, 14, 15, 16, 17, 18, 19, 20, 21, 22, 23, 24, 25, 26, 27, 28, 29, 30, 31, 32, 67, 68, 69, 70, 71, 72, 73, 74, 75, 76, 77, 78, 79, 80] (by decide +kernel) (by decide +kernel)
set_option maxRecDepth 20000 in
theorem gX5_liars_X4_worldsAsSeen : GoodIn wsX5_liars (wsV RX5 211 RX4 yX4_worldsAsSeen wsX4_worldsAsSeen) := goodIn_app (goodIn_of _ (by decide +kernel)) ggX5_liars_X4_worldsAsSeen
set_option maxRecDepth 20000 in
theorem ggX5_liars_X0_liarsIn : GoodIn wsX5_liars wsX0_liarsIn := goodIn_r _ [36, 27, 37, 38, 39, 40, 19, 41, 28, 29, 30, 31, 32, 42, 43, 44, 45, 21, 23, 24, 25, 26, 46, 5, 47, 48, 49, 50, 51, 52, 53, 54, 55, 56, 70, 71, 72, 73, 74, 75, 76, 77, 78, 79, 80] (by decide +kernel) (by decide +kernel)
set_option maxRecDepth 20000 in
theorem gX5_liars_X0_liarsIn : GoodIn wsX5_liars (wsV RX5 228 RX0 yX0_liarsIn wsX0_liarsIn) := goodIn_app (goodIn_of _ (by decide +kernel)) ggX5_liars_X0_liarsIn
set_option maxRecDepth 20000 in
theorem ggX5_liars_X5_isAmong : GoodIn wsX5_liars wsX5_isAmong := goodIn_r _ [47] (by decide +kernel) (by decide +kernel)
set_option maxRecDepth 20000 in
theorem gX5_liars_X5_isAmong : GoodIn wsX5_liars (va_wsS RX5 231 yX5_isAmong wsX5_isAmong) := goodIn_app (goodIn_of _ (by decide +kernel)) ggX5_liars_X5_isAmong
theorem dX5_liars_0 : decode cX5_liars 0 = .ok (.iload_n 1, 1) := by decide +kernel
theorem dX5_liars_1 : decode cX5_liars 1 = .ok (.iconst 0, 1) := by decide +kernel
theorem dX5_liars_2 : decode cX5_liars 2 = .ok (.iconst 1, 1) := by decide +kernel
theorem dX5_liars_3 : decode cX5_liars 3 = .ok (.invokestatic 72, 3) := by decide +kernel
theorem dX5_liars_6 : decode cX5_liars 6 = .ok (.ifCond .ne 5, 3) := by decide +kernel
theorem dX5_liars_9 : decode cX5_liars 9 = .ok (.iconst (-1), 1) := by decide +kernel
theorem dX5_liars_10 : decode cX5_liars 10 = .ok (.ireturn, 1) := by decide +kernel
theorem dX5_liars_11 : decode cX5_liars 11 = .ok (.aload_n 0, 1) := by decide +kernel
theorem dX5_liars_12 : decode cX5_liars 12 = .ok (.getfield 49, 3) := by decide +kernel
theorem dX5_liars_15 : decode cX5_liars 15 = .ok (.aload_n 0, 1) := by decide +kernel
theorem dX5_liars_16 : decode cX5_liars 16 = .ok (.getfield 24, 3) := by decide +kernel
theorem dX5_liars_19 : decode cX5_liars 19 = .ok (.invokevirtual 211, 3) := by decide +kernel
theorem dX5_liars_22 : decode cX5_liars 22 = .ok (.lstore_n 2, 1) := by decide +kernel
theorem dX5_liars_23 : decode cX5_liars 23 = .ok (.bipush 7, 2) := by decide +kernel
theorem dX5_liars_25 : decode cX5_liars 25 = .ok (.istore 4, 2) := by decide +kernel
theorem dX5_liars_27 : decode cX5_liars 27 = .ok (.bipush (-4), 2) := by decide +kernel
theorem dX5_liars_29 : decode cX5_liars 29 = .ok (.istore 5, 2) := by decide +kernel
theorem dX5_liars_31 : decode cX5_liars 31 = .ok (.iconst 0, 1) := by decide +kernel
theorem dX5_liars_32 : decode cX5_liars 32 = .ok (.istore 6, 2) := by decide +kernel
theorem dX5_liars_34 : decode cX5_liars 34 = .ok (.iload 6, 2) := by decide +kernel
theorem dX5_liars_36 : decode cX5_liars 36 = .ok (.bipush 64, 2) := by decide +kernel
theorem dX5_liars_38 : decode cX5_liars 38 = .ok (.if_icmp .ge 44, 3) := by decide +kernel
theorem dX5_liars_41 : decode cX5_liars 41 = .ok (.aload_n 0, 1) := by decide +kernel
theorem dX5_liars_42 : decode cX5_liars 42 = .ok (.getfield 24, 3) := by decide +kernel
theorem dX5_liars_45 : decode cX5_liars 45 = .ok (.iload 6, 2) := by decide +kernel
theorem dX5_liars_47 : decode cX5_liars 47 = .ok (.invokevirtual 228, 3) := by decide +kernel
theorem dX5_liars_50 : decode cX5_liars 50 = .ok (.istore 7, 2) := by decide +kernel
theorem dX5_liars_52 : decode cX5_liars 52 = .ok (.lload_n 2, 1) := by decide +kernel
theorem dX5_liars_53 : decode cX5_liars 53 = .ok (.iload 6, 2) := by decide +kernel
theorem dX5_liars_55 : decode cX5_liars 55 = .ok (.invokestatic 231, 3) := by decide +kernel
theorem dX5_liars_58 : decode cX5_liars 58 = .ok (.ifCond .eq 18, 3) := by decide +kernel
theorem dX5_liars_61 : decode cX5_liars 61 = .ok (.iload 7, 2) := by decide +kernel
theorem dX5_liars_63 : decode cX5_liars 63 = .ok (.iload 4, 2) := by decide +kernel
theorem dX5_liars_65 : decode cX5_liars 65 = .ok (.if_icmp .ge 11, 3) := by decide +kernel
theorem dX5_liars_68 : decode cX5_liars 68 = .ok (.iload 7, 2) := by decide +kernel
theorem dX5_liars_70 : decode cX5_liars 70 = .ok (.istore 4, 2) := by decide +kernel
theorem dX5_liars_72 : decode cX5_liars 72 = .ok (.iload 6, 2) := by decide +kernel
theorem dX5_liars_74 : decode cX5_liars 74 = .ok (.istore 5, 2) := by decide +kernel
theorem dX5_liars_76 : decode cX5_liars 76 = .ok (.iinc 6 1, 3) := by decide +kernel
theorem dX5_liars_79 : decode cX5_liars 79 = .ok (.goto (-45), 3) := by decide +kernel
theorem dX5_liars_82 : decode cX5_liars 82 = .ok (.iload 5, 2) := by decide +kernel
theorem dX5_liars_84 : decode cX5_liars 84 = .ok (.bipush (-4), 2) := by decide +kernel
theorem dX5_liars_86 : decode cX5_liars 86 = .ok (.if_icmp .ne 6, 3) := by decide +kernel
theorem dX5_liars_89 : decode cX5_liars 89 = .ok (.bipush (-4), 2) := by decide +kernel
theorem dX5_liars_91 : decode cX5_liars 91 = .ok (.ireturn, 1) := by decide +kernel
theorem dX5_liars_92 : decode cX5_liars 92 = .ok (.iload_n 1, 1) := by decide +kernel
theorem dX5_liars_93 : decode cX5_liars 93 = .ok (.ifCond .ne 8, 3) := by decide +kernel
theorem dX5_liars_96 : decode cX5_liars 96 = .ok (.iload 4, 2) := by decide +kernel
theorem dX5_liars_98 : decode cX5_liars 98 = .ok (.goto 5, 3) := by decide +kernel
theorem dX5_liars_101 : decode cX5_liars 101 = .ok (.iload 5, 2) := by decide +kernel
theorem dX5_liars_103 : decode cX5_liars 103 = .ok (.ireturn, 1) := by decide +kernel
set_option maxRecDepth 20000 in
theorem ggX5_chance_X5_isWithin : GoodIn wsX5_chance wsX5_isWithin := goodIn_r _ [6] (by decide +kernel) (by decide +kernel)
set_option maxRecDepth 20000 in
theorem gX5_chance_X5_isWithin : GoodIn wsX5_chance (va_wsS RX5 72 yX5_isWithin wsX5_isWithin) := goodIn_app (goodIn_of _ (by decide +kernel)) ggX5_chance_X5_isWithin
set_option maxRecDepth 20000 in
theorem ggX5_chance_X0_liesIn : GoodIn wsX5_chance wsX0_liesIn := goodIn_r _ [11, 12, 13, 14, 15, 10, 16, 17, 18, 19, 20, 21, 22, 23, 24, 25, 26, 27, 5, 28, 54, 55, 56, 57, 58, 59, 60, 61, 62, 63, 64] (by decide +kernel) (by decide +kernel)
set_option maxRecDepth 20000 in
theorem gX5_chance_X0_liesIn : GoodIn wsX5_chance (wsV RX5 171 RX0 yX0_liesIn wsX0_liesIn) := goodIn_app (goodIn_of _ (by decide +kernel)) ggX5_chance_X0_liesIn
set_option maxRecDepth 20000 in
theorem ggX5_chance_J6_bitCount_0f7a4 : GoodIn wsX5_chance wsJ6_bitCount_0f7a4 := goodIn_r _ [32, 33, 34, 35] (by decide +kernel) (by decide +kernel)
set_option maxRecDepth 20000 in
theorem gX5_chance_J6_bitCount_0f7a4 : GoodIn wsX5_chance (va_wsS RX5 235 yJ6_bitCount_0f7a4 wsJ6_bitCount_0f7a4) := goodIn_app (goodIn_of _ (by decide +kernel)) ggX5_chance_J6_bitCount_0f7a4
set_option maxRecDepth 20000 in
theorem ggX5_chance_X5_waysToTurn : GoodIn wsX5_chance wsX5_waysToTurn := goodIn_r _ [38, 29, 30, 31, 32, 33, 34, 35, 39, 40, 5, 41] (by decide +kernel) (by decide +kernel)
set_option maxRecDepth 20000 in
theorem gX5_chance_X5_waysToTurn : GoodIn wsX5_chance (va_wsS RX5 239 yX5_waysToTurn wsX5_waysToTurn) := goodIn_app (goodIn_of _ (by decide +kernel)) ggX5_chance_X5_waysToTurn
set_option maxRecDepth 20000 in
theorem ggX5_chance_X5_power : GoodIn wsX5_chance wsX5_power := goodIn_r _ [41] (by decide +kernel) (by decide +kernel)
set_option maxRecDepth 20000 in
theorem gX5_chance_X5_power : GoodIn wsX5_chance (va_wsS RX5 242 yX5_power wsX5_power) := goodIn_app (goodIn_of _ (by decide +kernel)) ggX5_chance_X5_power
set_option maxRecDepth 20000 in
theorem ggX5_chance_X5_commonDivisor : GoodIn wsX5_chance wsX5_commonDivisor := goodIn_r _ [44] (by decide +kernel) (by decide +kernel)
set_option maxRecDepth 20000 in
theorem gX5_chance_X5_commonDivisor : GoodIn wsX5_chance (va_wsS RX5 245 yX5_commonDivisor wsX5_commonDivisor) := goodIn_app (goodIn_of _ (by decide +kernel)) ggX5_chance_X5_commonDivisor
theorem dX5_chance_0 : decode cX5_chance 0 = .ok (.iload_n 1, 1) := by decide +kernel
theorem dX5_chance_1 : decode cX5_chance 1 = .ok (.iconst 0, 1) := by decide +kernel
theorem dX5_chance_2 : decode cX5_chance 2 = .ok (.bipush 9, 2) := by decide +kernel
theorem dX5_chance_4 : decode cX5_chance 4 = .ok (.invokestatic 72, 3) := by decide +kernel
theorem dX5_chance_7 : decode cX5_chance 7 = .ok (.ifCond .eq 22, 3) := by decide +kernel
theorem dX5_chance_10 : decode cX5_chance 10 = .ok (.iload_n 2, 1) := by decide +kernel
theorem dX5_chance_11 : decode cX5_chance 11 = .ok (.iconst 0, 1) := by decide +kernel
theorem dX5_chance_12 : decode cX5_chance 12 = .ok (.bipush 10, 2) := by decide +kernel
theorem dX5_chance_14 : decode cX5_chance 14 = .ok (.invokestatic 72, 3) := by decide +kernel
theorem dX5_chance_17 : decode cX5_chance 17 = .ok (.ifCond .eq 12, 3) := by decide +kernel
theorem dX5_chance_20 : decode cX5_chance 20 = .ok (.iload_n 3, 1) := by decide +kernel
theorem dX5_chance_21 : decode cX5_chance 21 = .ok (.iconst 0, 1) := by decide +kernel
theorem dX5_chance_22 : decode cX5_chance 22 = .ok (.iconst 1, 1) := by decide +kernel
theorem dX5_chance_23 : decode cX5_chance 23 = .ok (.invokestatic 72, 3) := by decide +kernel
theorem dX5_chance_26 : decode cX5_chance 26 = .ok (.ifCond .ne 5, 3) := by decide +kernel
theorem dX5_chance_29 : decode cX5_chance 29 = .ok (.iconst (-1), 1) := by decide +kernel
theorem dX5_chance_30 : decode cX5_chance 30 = .ok (.ireturn, 1) := by decide +kernel
theorem dX5_chance_31 : decode cX5_chance 31 = .ok (.iconst 0, 1) := by decide +kernel
theorem dX5_chance_32 : decode cX5_chance 32 = .ok (.istore 4, 2) := by decide +kernel
theorem dX5_chance_34 : decode cX5_chance 34 = .ok (.iconst 0, 1) := by decide +kernel
theorem dX5_chance_35 : decode cX5_chance 35 = .ok (.istore 5, 2) := by decide +kernel
theorem dX5_chance_37 : decode cX5_chance 37 = .ok (.iload 5, 2) := by decide +kernel
theorem dX5_chance_39 : decode cX5_chance 39 = .ok (.bipush 64, 2) := by decide +kernel
theorem dX5_chance_41 : decode cX5_chance 41 = .ok (.if_icmp .ge 44, 3) := by decide +kernel
theorem dX5_chance_44 : decode cX5_chance 44 = .ok (.aload_n 0, 1) := by decide +kernel
theorem dX5_chance_45 : decode cX5_chance 45 = .ok (.getfield 24, 3) := by decide +kernel
theorem dX5_chance_48 : decode cX5_chance 48 = .ok (.aload_n 0, 1) := by decide +kernel
theorem dX5_chance_49 : decode cX5_chance 49 = .ok (.getfield 24, 3) := by decide +kernel
theorem dX5_chance_52 : decode cX5_chance 52 = .ok (.getfield 108, 3) := by decide +kernel
theorem dX5_chance_55 : decode cX5_chance 55 = .ok (.iload 5, 2) := by decide +kernel
theorem dX5_chance_57 : decode cX5_chance 57 = .ok (.ixor, 1) := by decide +kernel
theorem dX5_chance_58 : decode cX5_chance 58 = .ok (.invokevirtual 171, 3) := by decide +kernel
theorem dX5_chance_61 : decode cX5_chance 61 = .ok (.invokestatic 235, 3) := by decide +kernel
theorem dX5_chance_64 : decode cX5_chance 64 = .ok (.iload_n 1, 1) := by decide +kernel
theorem dX5_chance_65 : decode cX5_chance 65 = .ok (.if_icmp .lt 14, 3) := by decide +kernel
theorem dX5_chance_68 : decode cX5_chance 68 = .ok (.iload 4, 2) := by decide +kernel
theorem dX5_chance_70 : decode cX5_chance 70 = .ok (.iload 5, 2) := by decide +kernel
theorem dX5_chance_72 : decode cX5_chance 72 = .ok (.iload_n 2, 1) := by decide +kernel
theorem dX5_chance_73 : decode cX5_chance 73 = .ok (.invokestatic 239, 3) := by decide +kernel
theorem dX5_chance_76 : decode cX5_chance 76 = .ok (.iadd, 1) := by decide +kernel
theorem dX5_chance_77 : decode cX5_chance 77 = .ok (.istore 4, 2) := by decide +kernel
theorem dX5_chance_79 : decode cX5_chance 79 = .ok (.iinc 5 1, 3) := by decide +kernel
theorem dX5_chance_82 : decode cX5_chance 82 = .ok (.goto (-45), 3) := by decide +kernel
theorem dX5_chance_85 : decode cX5_chance 85 = .ok (.bipush 10, 2) := by decide +kernel
theorem dX5_chance_87 : decode cX5_chance 87 = .ok (.bipush 6, 2) := by decide +kernel
theorem dX5_chance_89 : decode cX5_chance 89 = .ok (.invokestatic 242, 3) := by decide +kernel
theorem dX5_chance_92 : decode cX5_chance 92 = .ok (.istore 5, 2) := by decide +kernel
theorem dX5_chance_94 : decode cX5_chance 94 = .ok (.iload 4, 2) := by decide +kernel
theorem dX5_chance_96 : decode cX5_chance 96 = .ok (.iload 5, 2) := by decide +kernel
theorem dX5_chance_98 : decode cX5_chance 98 = .ok (.invokestatic 245, 3) := by decide +kernel
theorem dX5_chance_101 : decode cX5_chance 101 = .ok (.istore 6, 2) := by decide +kernel
theorem dX5_chance_103 : decode cX5_chance 103 = .ok (.iload 6, 2) := by decide +kernel
theorem dX5_chance_105 : decode cX5_chance 105 = .ok (.ifCond .ne 6, 3) := by decide +kernel
theorem dX5_chance_108 : decode cX5_chance 108 = .ok (.bipush (-4), 2) := by decide +kernel
theorem dX5_chance_110 : decode cX5_chance 110 = .ok (.ireturn, 1) := by decide +kernel
theorem dX5_chance_111 : decode cX5_chance 111 = .ok (.iload_n 3, 1) := by decide +kernel
theorem dX5_chance_112 : decode cX5_chance 112 = .ok (.ifCond .ne 11, 3) := by decide +kernel
theorem dX5_chance_115 : decode cX5_chance 115 = .ok (.iload 4, 2) := by decide +kernel
theorem dX5_chance_117 : decode cX5_chance 117 = .ok (.iload 6, 2) := by decide +kernel
theorem dX5_chance_119 : decode cX5_chance 119 = .ok (.idiv, 1) := by decide +kernel
theorem dX5_chance_120 : decode cX5_chance 120 = .ok (.goto 8, 3) := by decide +kernel
theorem dX5_chance_123 : decode cX5_chance 123 = .ok (.iload 5, 2) := by decide +kernel
theorem dX5_chance_125 : decode cX5_chance 125 = .ok (.iload 6, 2) := by decide +kernel
theorem dX5_chance_127 : decode cX5_chance 127 = .ok (.idiv, 1) := by decide +kernel
theorem dX5_chance_128 : decode cX5_chance 128 = .ok (.ireturn, 1) := by decide +kernel
set_option maxRecDepth 20000 in
theorem ggX5_year_X5_isWithin : GoodIn wsX5_year wsX5_isWithin := goodIn_r _ [6] (by decide +kernel) (by decide +kernel)
set_option maxRecDepth 20000 in
theorem gX5_year_X5_isWithin : GoodIn wsX5_year (va_wsS RX5 72 yX5_isWithin wsX5_isWithin) := goodIn_app (goodIn_of _ (by decide +kernel)) ggX5_year_X5_isWithin
set_option maxRecDepth 20000 in
theorem ggX5_year_X0_copy : GoodIn wsX5_year wsX0_copy := goodIn_r _ [11, 12, 13, 14, 15, 16, 17, 18, 19, 20, 21, 22, 109, 110, 111, 112, 113, 114, 115, 116, 117, 118, 119] (by decide +kernel) (by decide +kernel)
set_option maxRecDepth 20000 in
theorem gX5_year_X0_copy : GoodIn wsX5_year (wsV RX5 83 RX0 yX0_copy wsX0_copy) := goodIn_app (goodIn_of _ (by decide +kernel)) ggX5_year_X0_copy
set_option maxRecDepth 20000 in
theorem ggX5_year_X5_draw : GoodIn wsX5_year wsX5_draw := goodIn_r _ [25, 26, 27, 28] (by decide +kernel) (by decide +kernel)
set_option maxRecDepth 20000 in
theorem gX5_year_X5_draw : GoodIn wsX5_year (va_wsS RX5 248 yX5_draw wsX5_draw) := goodIn_app (goodIn_of _ (by decide +kernel)) ggX5_year_X5_draw
set_option maxRecDepth 20000 in
theorem ggX5_year_X0_takeDraw : GoodIn wsX5_year wsX0_takeDraw := goodIn_r _ [32, 13, 33, 34, 35, 10, 36, 12, 21, 37, 5, 38, 3, 4, 6, 39, 40, 41, 42, 43, 44, 45, 46, 22, 47, 48, 49, 50, 14, 51, 52, 53, 54, 55, 56, 57, 58, 59, 60, 16, 61, 62, 63, 64, 109, 110, 111, 112, 113, 114, 115, 116, 117, 118, 119] (by decide +kernel) (by decide +kernel)
set_option maxRecDepth 20000 in
theorem gX5_year_X0_takeDraw : GoodIn wsX5_year (wsV RX5 251 RX0 yX0_takeDraw wsX0_takeDraw) := goodIn_app (goodIn_of _ (by decide +kernel)) ggX5_year_X0_takeDraw
set_option maxRecDepth 20000 in
theorem ggX5_year_X0_passDay : GoodIn wsX5_year wsX0_passDay := goodIn_r _ [68, 13, 69, 70, 71, 10, 72, 15, 21, 39, 40, 41, 42, 43, 44, 45, 46, 22, 12, 47, 48, 49, 50, 14, 51, 5, 52, 73, 74, 75, 76, 57, 58, 59, 60, 16, 77, 78, 79, 80, 61, 62, 63, 64, 109, 110, 111, 112, 113, 114, 115, 116, 117, 118, 119] (by decide +kernel) (by decide +kernel)
set_option maxRecDepth 20000 in
theorem gX5_year_X0_passDay : GoodIn wsX5_year (wsV RX5 137 RX0 yX0_passDay wsX0_passDay) := goodIn_app (goodIn_of _ (by decide +kernel)) ggX5_year_X0_passDay
set_option maxRecDepth 20000 in
theorem ggX5_year_X0_policemen : GoodIn wsX5_year wsX0_policemen := goodIn_r _ [84, 12, 85, 86, 87, 10, 88, 13, 47, 48, 49, 50, 14, 89, 90, 91, 92, 22, 39, 40, 41, 42, 51, 5, 52, 93, 94, 95, 96, 97, 98, 99, 109, 110, 111, 112, 113, 114, 115, 116, 117, 118, 119] (by decide +kernel) (by decide +kernel)
set_option maxRecDepth 20000 in
theorem gX5_year_X0_policemen : GoodIn wsX5_year (wsV RX5 158 RX0 yX0_policemen wsX0_policemen) := goodIn_app (goodIn_of _ (by decide +kernel)) ggX5_year_X0_policemen
theorem dX5_year_0 : decode cX5_year 0 = .ok (.iload_n 1, 1) := by decide +kernel
theorem dX5_year_1 : decode cX5_year 1 = .ok (.iconst 0, 1) := by decide +kernel
theorem dX5_year_2 : decode cX5_year 2 = .ok (.sipush 9999, 3) := by decide +kernel
theorem dX5_year_5 : decode cX5_year 5 = .ok (.invokestatic 72, 3) := by decide +kernel
theorem dX5_year_8 : decode cX5_year 8 = .ok (.ifCond .eq 22, 3) := by decide +kernel
theorem dX5_year_11 : decode cX5_year 11 = .ok (.iload_n 2, 1) := by decide +kernel
theorem dX5_year_12 : decode cX5_year 12 = .ok (.iconst 1, 1) := by decide +kernel
theorem dX5_year_13 : decode cX5_year 13 = .ok (.bipush 60, 2) := by decide +kernel
theorem dX5_year_15 : decode cX5_year 15 = .ok (.invokestatic 72, 3) := by decide +kernel
theorem dX5_year_18 : decode cX5_year 18 = .ok (.ifCond .eq 12, 3) := by decide +kernel
theorem dX5_year_21 : decode cX5_year 21 = .ok (.iload_n 3, 1) := by decide +kernel
theorem dX5_year_22 : decode cX5_year 22 = .ok (.iconst 0, 1) := by decide +kernel
theorem dX5_year_23 : decode cX5_year 23 = .ok (.iconst 1, 1) := by decide +kernel
theorem dX5_year_24 : decode cX5_year 24 = .ok (.invokestatic 72, 3) := by decide +kernel
theorem dX5_year_27 : decode cX5_year 27 = .ok (.ifCond .ne 5, 3) := by decide +kernel
theorem dX5_year_30 : decode cX5_year 30 = .ok (.iconst (-1), 1) := by decide +kernel
theorem dX5_year_31 : decode cX5_year 31 = .ok (.ireturn, 1) := by decide +kernel
theorem dX5_year_32 : decode cX5_year 32 = .ok (.aload_n 0, 1) := by decide +kernel
theorem dX5_year_33 : decode cX5_year 33 = .ok (.getfield 31, 3) := by decide +kernel
theorem dX5_year_36 : decode cX5_year 36 = .ok (.aload_n 0, 1) := by decide +kernel
theorem dX5_year_37 : decode cX5_year 37 = .ok (.getfield 24, 3) := by decide +kernel
theorem dX5_year_40 : decode cX5_year 40 = .ok (.invokevirtual 83, 3) := by decide +kernel
theorem dX5_year_43 : decode cX5_year 43 = .ok (.iconst 0, 1) := by decide +kernel
theorem dX5_year_44 : decode cX5_year 44 = .ok (.istore 4, 2) := by decide +kernel
theorem dX5_year_46 : decode cX5_year 46 = .ok (.iconst 0, 1) := by decide +kernel
theorem dX5_year_47 : decode cX5_year 47 = .ok (.istore 5, 2) := by decide +kernel
theorem dX5_year_49 : decode cX5_year 49 = .ok (.iload 5, 2) := by decide +kernel
theorem dX5_year_51 : decode cX5_year 51 = .ok (.iload_n 2, 1) := by decide +kernel
theorem dX5_year_52 : decode cX5_year 52 = .ok (.if_icmp .ge 34, 3) := by decide +kernel
theorem dX5_year_55 : decode cX5_year 55 = .ok (.aload_n 0, 1) := by decide +kernel
theorem dX5_year_56 : decode cX5_year 56 = .ok (.getfield 31, 3) := by decide +kernel
theorem dX5_year_59 : decode cX5_year 59 = .ok (.iload_n 1, 1) := by decide +kernel
theorem dX5_year_60 : decode cX5_year 60 = .ok (.iload 5, 2) := by decide +kernel
theorem dX5_year_62 : decode cX5_year 62 = .ok (.invokestatic 248, 3) := by decide +kernel
theorem dX5_year_65 : decode cX5_year 65 = .ok (.invokevirtual 251, 3) := by decide +kernel
theorem dX5_year_68 : decode cX5_year 68 = .ok (.iload 4, 2) := by decide +kernel
theorem dX5_year_70 : decode cX5_year 70 = .ok (.aload_n 0, 1) := by decide +kernel
theorem dX5_year_71 : decode cX5_year 71 = .ok (.getfield 31, 3) := by decide +kernel
theorem dX5_year_74 : decode cX5_year 74 = .ok (.invokevirtual 137, 3) := by decide +kernel
theorem dX5_year_77 : decode cX5_year 77 = .ok (.iadd, 1) := by decide +kernel
theorem dX5_year_78 : decode cX5_year 78 = .ok (.istore 4, 2) := by decide +kernel
theorem dX5_year_80 : decode cX5_year 80 = .ok (.iinc 5 1, 3) := by decide +kernel
theorem dX5_year_83 : decode cX5_year 83 = .ok (.goto (-34), 3) := by decide +kernel
theorem dX5_year_86 : decode cX5_year 86 = .ok (.iload_n 3, 1) := by decide +kernel
theorem dX5_year_87 : decode cX5_year 87 = .ok (.ifCond .ne 13, 3) := by decide +kernel
theorem dX5_year_90 : decode cX5_year 90 = .ok (.aload_n 0, 1) := by decide +kernel
theorem dX5_year_91 : decode cX5_year 91 = .ok (.getfield 31, 3) := by decide +kernel
theorem dX5_year_94 : decode cX5_year 94 = .ok (.invokevirtual 158, 3) := by decide +kernel
theorem dX5_year_97 : decode cX5_year 97 = .ok (.goto 5, 3) := by decide +kernel
theorem dX5_year_100 : decode cX5_year 100 = .ok (.iload 4, 2) := by decide +kernel
theorem dX5_year_102 : decode cX5_year 102 = .ok (.ireturn, 1) := by decide +kernel
set_option maxRecDepth 20000 in
theorem ggX5_keep_X2_add : GoodIn wsX5_keep wsX2_add := goodIn_r _ [8, 9, 10, 11, 12, 13, 7, 14, 15, 16, 17, 18, 19, 20, 21, 22, 23, 24, 25, 26, 27, 28, 29, 30, 40, 41, 42, 43, 44, 45, 46, 47, 48, 49, 50, 51, 52] (by decide +kernel) (by decide +kernel)
set_option maxRecDepth 20000 in
theorem gX5_keep_X2_add : GoodIn wsX5_keep (wsV RX5 134 RX2 yX2_add wsX2_add) := goodIn_app (goodIn_of _ (by decide +kernel)) ggX5_keep_X2_add
theorem dX5_keep_0 : decode cX5_keep 0 = .ok (.aload_n 0, 1) := by decide +kernel
theorem dX5_keep_1 : decode cX5_keep 1 = .ok (.getfield 43, 3) := by decide +kernel
theorem dX5_keep_4 : decode cX5_keep 4 = .ok (.getfield 168, 3) := by decide +kernel
theorem dX5_keep_7 : decode cX5_keep 7 = .ok (.iconst 2, 1) := by decide +kernel
theorem dX5_keep_8 : decode cX5_keep 8 = .ok (.if_icmp .lt 6, 3) := by decide +kernel
theorem dX5_keep_11 : decode cX5_keep 11 = .ok (.bipush (-3), 2) := by decide +kernel
theorem dX5_keep_13 : decode cX5_keep 13 = .ok (.ireturn, 1) := by decide +kernel
theorem dX5_keep_14 : decode cX5_keep 14 = .ok (.aload_n 0, 1) := by decide +kernel
theorem dX5_keep_15 : decode cX5_keep 15 = .ok (.getfield 43, 3) := by decide +kernel
theorem dX5_keep_18 : decode cX5_keep 18 = .ok (.aload_n 0, 1) := by decide +kernel
theorem dX5_keep_19 : decode cX5_keep 19 = .ok (.getfield 24, 3) := by decide +kernel
theorem dX5_keep_22 : decode cX5_keep 22 = .ok (.invokevirtual 134, 3) := by decide +kernel
theorem dX5_keep_25 : decode cX5_keep 25 = .ok (.aload_n 0, 1) := by decide +kernel
theorem dX5_keep_26 : decode cX5_keep 26 = .ok (.getfield 43, 3) := by decide +kernel
theorem dX5_keep_29 : decode cX5_keep 29 = .ok (.getfield 168, 3) := by decide +kernel
theorem dX5_keep_32 : decode cX5_keep 32 = .ok (.ireturn, 1) := by decide +kernel
set_option maxRecDepth 20000 in
theorem ggX5_back_X2_takeLast : GoodIn wsX5_back wsX2_takeLast := goodIn_r _ [9, 10, 11, 12, 13, 14, 15, 16, 17, 18, 19, 20, 21, 22, 23, 24, 25, 26, 27, 41, 42, 43, 44, 45, 46, 47, 48, 49, 50, 51, 52, 53] (by decide +kernel) (by decide +kernel)
set_option maxRecDepth 20000 in
theorem gX5_back_X2_takeLast : GoodIn wsX5_back (wsV RX5 164 RX2 yX2_takeLast wsX2_takeLast) := goodIn_app (goodIn_of _ (by decide +kernel)) ggX5_back_X2_takeLast
set_option maxRecDepth 20000 in
theorem ggX5_back_X2_clear : GoodIn wsX5_back wsX2_clear := goodIn_r _ [31, 10, 41, 42] (by decide +kernel) (by decide +kernel)
set_option maxRecDepth 20000 in
theorem gX5_back_X2_clear : GoodIn wsX5_back (wsV RX5 87 RX2 yX2_clear wsX2_clear) := goodIn_app (goodIn_of _ (by decide +kernel)) ggX5_back_X2_clear
theorem dX5_back_0 : decode cX5_back 0 = .ok (.aload_n 0, 1) := by decide +kernel
theorem dX5_back_1 : decode cX5_back 1 = .ok (.getfield 43, 3) := by decide +kernel
theorem dX5_back_4 : decode cX5_back 4 = .ok (.aload_n 0, 1) := by decide +kernel
theorem dX5_back_5 : decode cX5_back 5 = .ok (.getfield 24, 3) := by decide +kernel
theorem dX5_back_8 : decode cX5_back 8 = .ok (.invokevirtual 164, 3) := by decide +kernel
theorem dX5_back_11 : decode cX5_back 11 = .ok (.ifCond .ne 6, 3) := by decide +kernel
theorem dX5_back_14 : decode cX5_back 14 = .ok (.bipush (-2), 2) := by decide +kernel
theorem dX5_back_16 : decode cX5_back 16 = .ok (.ireturn, 1) := by decide +kernel
theorem dX5_back_17 : decode cX5_back 17 = .ok (.aload_n 0, 1) := by decide +kernel
theorem dX5_back_18 : decode cX5_back 18 = .ok (.getfield 39, 3) := by decide +kernel
theorem dX5_back_21 : decode cX5_back 21 = .ok (.invokevirtual 87, 3) := by decide +kernel
theorem dX5_back_24 : decode cX5_back 24 = .ok (.aload_n 0, 1) := by decide +kernel
theorem dX5_back_25 : decode cX5_back 25 = .ok (.getfield 43, 3) := by decide +kernel
theorem dX5_back_28 : decode cX5_back 28 = .ok (.getfield 168, 3) := by decide +kernel
theorem dX5_back_31 : decode cX5_back 31 = .ok (.ireturn, 1) := by decide +kernel
set_option maxRecDepth 20000 in
theorem ggX5_count_J6_bitCount_0f7a4 : GoodIn wsX5_count wsJ6_bitCount_0f7a4 := goodIn_r _ [15, 16, 17, 18] (by decide +kernel) (by decide +kernel)
set_option maxRecDepth 20000 in
theorem gX5_count_J6_bitCount_0f7a4 : GoodIn wsX5_count (va_wsS RX5 235 yJ6_bitCount_0f7a4 wsJ6_bitCount_0f7a4) := goodIn_app (goodIn_of _ (by decide +kernel)) ggX5_count_J6_bitCount_0f7a4
set_option maxRecDepth 20000 in
theorem ggX5_count_X0_policemen : GoodIn wsX5_count wsX0_policemen := goodIn_r _ [23, 24, 25, 26, 27, 22, 28, 29, 30, 31, 32, 33, 34, 35, 36, 37, 38, 39, 40, 41, 42, 43, 44, 45, 46, 47, 13, 14, 15, 16, 17, 18, 73, 74, 75, 76, 77, 78, 79, 80, 81, 82, 83] (by decide +kernel) (by decide +kernel)
set_option maxRecDepth 20000 in
theorem gX5_count_X0_policemen : GoodIn wsX5_count (wsV RX5 158 RX0 yX0_policemen wsX0_policemen) := goodIn_app (goodIn_of _ (by decide +kernel)) ggX5_count_X0_policemen
set_option maxRecDepth 20000 in
theorem ggX5_count_X0_policemenWhoServed : GoodIn wsX5_count wsX0_policemenWhoServed := goodIn_r _ [51, 29, 52, 53, 54, 22, 55, 56, 57, 40, 41, 42, 43, 58, 59, 60, 61, 39, 24, 30, 31, 32, 33, 34, 44, 45, 46, 62, 63, 73, 74, 75, 76, 77, 78, 79, 80, 81, 82, 83] (by decide +kernel) (by decide +kernel)
set_option maxRecDepth 20000 in
theorem gX5_count_X0_policemenWhoServed : GoodIn wsX5_count (wsV RX5 257 RX0 yX0_policemenWhoServed wsX0_policemenWhoServed) := goodIn_app (goodIn_of _ (by decide +kernel)) ggX5_count_X0_policemenWhoServed
theorem dX5_count_0 : decode cX5_count 0 = .ok (.iload_n 1, 1) := by decide +kernel
theorem dX5_count_1 : decode cX5_count 1 = .ok (.tableswitch 138 0 9 #[55, 63, 74, 82, 90, 98, 109, 117, 125, 133], 55) := by decide +kernel
theorem dX5_count_56 : decode cX5_count 56 = .ok (.aload_n 0, 1) := by decide +kernel
theorem dX5_count_57 : decode cX5_count 57 = .ok (.getfield 24, 3) := by decide +kernel
theorem dX5_count_60 : decode cX5_count 60 = .ok (.getfield 80, 3) := by decide +kernel
theorem dX5_count_63 : decode cX5_count 63 = .ok (.ireturn, 1) := by decide +kernel
theorem dX5_count_64 : decode cX5_count 64 = .ok (.aload_n 0, 1) := by decide +kernel
theorem dX5_count_65 : decode cX5_count 65 = .ok (.getfield 24, 3) := by decide +kernel
theorem dX5_count_68 : decode cX5_count 68 = .ok (.getfield 254, 3) := by decide +kernel
theorem dX5_count_71 : decode cX5_count 71 = .ok (.invokestatic 235, 3) := by decide +kernel
theorem dX5_count_74 : decode cX5_count 74 = .ok (.ireturn, 1) := by decide +kernel
theorem dX5_count_75 : decode cX5_count 75 = .ok (.aload_n 0, 1) := by decide +kernel
theorem dX5_count_76 : decode cX5_count 76 = .ok (.getfield 24, 3) := by decide +kernel
theorem dX5_count_79 : decode cX5_count 79 = .ok (.invokevirtual 158, 3) := by decide +kernel
theorem dX5_count_82 : decode cX5_count 82 = .ok (.ireturn, 1) := by decide +kernel
theorem dX5_count_83 : decode cX5_count 83 = .ok (.aload_n 0, 1) := by decide +kernel
theorem dX5_count_84 : decode cX5_count 84 = .ok (.getfield 24, 3) := by decide +kernel
theorem dX5_count_87 : decode cX5_count 87 = .ok (.invokevirtual 257, 3) := by decide +kernel
theorem dX5_count_90 : decode cX5_count 90 = .ok (.ireturn, 1) := by decide +kernel
theorem dX5_count_91 : decode cX5_count 91 = .ok (.aload_n 0, 1) := by decide +kernel
theorem dX5_count_92 : decode cX5_count 92 = .ok (.getfield 24, 3) := by decide +kernel
theorem dX5_count_95 : decode cX5_count 95 = .ok (.getfield 141, 3) := by decide +kernel
theorem dX5_count_98 : decode cX5_count 98 = .ok (.ireturn, 1) := by decide +kernel
theorem dX5_count_99 : decode cX5_count 99 = .ok (.aload_n 0, 1) := by decide +kernel
theorem dX5_count_100 : decode cX5_count 100 = .ok (.getfield 24, 3) := by decide +kernel
theorem dX5_count_103 : decode cX5_count 103 = .ok (.getfield 108, 3) := by decide +kernel
theorem dX5_count_106 : decode cX5_count 106 = .ok (.invokestatic 235, 3) := by decide +kernel
theorem dX5_count_109 : decode cX5_count 109 = .ok (.ireturn, 1) := by decide +kernel
theorem dX5_count_110 : decode cX5_count 110 = .ok (.aload_n 0, 1) := by decide +kernel
theorem dX5_count_111 : decode cX5_count 111 = .ok (.getfield 49, 3) := by decide +kernel
theorem dX5_count_114 : decode cX5_count 114 = .ok (.getfield 210, 3) := by decide +kernel
theorem dX5_count_117 : decode cX5_count 117 = .ok (.ireturn, 1) := by decide +kernel
theorem dX5_count_118 : decode cX5_count 118 = .ok (.aload_n 0, 1) := by decide +kernel
theorem dX5_count_119 : decode cX5_count 119 = .ok (.getfield 39, 3) := by decide +kernel
theorem dX5_count_122 : decode cX5_count 122 = .ok (.getfield 168, 3) := by decide +kernel
theorem dX5_count_125 : decode cX5_count 125 = .ok (.ireturn, 1) := by decide +kernel
theorem dX5_count_126 : decode cX5_count 126 = .ok (.aload_n 0, 1) := by decide +kernel
theorem dX5_count_127 : decode cX5_count 127 = .ok (.getfield 43, 3) := by decide +kernel
theorem dX5_count_130 : decode cX5_count 130 = .ok (.getfield 168, 3) := by decide +kernel
theorem dX5_count_133 : decode cX5_count 133 = .ok (.ireturn, 1) := by decide +kernel
theorem dX5_count_134 : decode cX5_count 134 = .ok (.aload_n 0, 1) := by decide +kernel
theorem dX5_count_135 : decode cX5_count 135 = .ok (.getfield 76, 3) := by decide +kernel
theorem dX5_count_138 : decode cX5_count 138 = .ok (.ireturn, 1) := by decide +kernel
theorem dX5_count_139 : decode cX5_count 139 = .ok (.iconst (-1), 1) := by decide +kernel
theorem dX5_count_140 : decode cX5_count 140 = .ok (.ireturn, 1) := by decide +kernel
theorem dX5_isWithin_0 : decode cX5_isWithin 0 = .ok (.iload_n 0, 1) := by decide +kernel
theorem dX5_isWithin_1 : decode cX5_isWithin 1 = .ok (.iload_n 1, 1) := by decide +kernel
theorem dX5_isWithin_2 : decode cX5_isWithin 2 = .ok (.if_icmp .lt 12, 3) := by decide +kernel
theorem dX5_isWithin_5 : decode cX5_isWithin 5 = .ok (.iload_n 0, 1) := by decide +kernel
theorem dX5_isWithin_6 : decode cX5_isWithin 6 = .ok (.iload_n 2, 1) := by decide +kernel
theorem dX5_isWithin_7 : decode cX5_isWithin 7 = .ok (.if_icmp .gt 7, 3) := by decide +kernel
theorem dX5_isWithin_10 : decode cX5_isWithin 10 = .ok (.iconst 1, 1) := by decide +kernel
theorem dX5_isWithin_11 : decode cX5_isWithin 11 = .ok (.goto 4, 3) := by decide +kernel
theorem dX5_isWithin_14 : decode cX5_isWithin 14 = .ok (.iconst 0, 1) := by decide +kernel
theorem dX5_isWithin_15 : decode cX5_isWithin 15 = .ok (.ireturn, 1) := by decide +kernel
set_option maxRecDepth 20000 in
theorem ggX5_isFact_X5_isWithin : GoodIn wsX5_isFact wsX5_isWithin := goodIn_r _ [4] (by decide +kernel) (by decide +kernel)
set_option maxRecDepth 20000 in
theorem gX5_isFact_X5_isWithin : GoodIn wsX5_isFact (va_wsS RX5 72 yX5_isWithin wsX5_isWithin) := goodIn_app (goodIn_of _ (by decide +kernel)) ggX5_isFact_X5_isWithin
theorem dX5_isFact_0 : decode cX5_isFact 0 = .ok (.iload_n 0, 1) := by decide +kernel
theorem dX5_isFact_1 : decode cX5_isFact 1 = .ok (.iconst 0, 1) := by decide +kernel
theorem dX5_isFact_2 : decode cX5_isFact 2 = .ok (.iconst 5, 1) := by decide +kernel
theorem dX5_isFact_3 : decode cX5_isFact 3 = .ok (.invokestatic 72, 3) := by decide +kernel
theorem dX5_isFact_6 : decode cX5_isFact 6 = .ok (.ireturn, 1) := by decide +kernel
set_option maxRecDepth 20000 in
theorem ggX5_isLiteral_X5_isWithin : GoodIn wsX5_isLiteral wsX5_isWithin := goodIn_r _ [4] (by decide +kernel) (by decide +kernel)
set_option maxRecDepth 20000 in
theorem gX5_isLiteral_X5_isWithin : GoodIn wsX5_isLiteral (va_wsS RX5 72 yX5_isWithin wsX5_isWithin) := goodIn_app (goodIn_of _ (by decide +kernel)) ggX5_isLiteral_X5_isWithin
theorem dX5_isLiteral_0 : decode cX5_isLiteral 0 = .ok (.iload_n 0, 1) := by decide +kernel
theorem dX5_isLiteral_1 : decode cX5_isLiteral 1 = .ok (.iconst 0, 1) := by decide +kernel
theorem dX5_isLiteral_2 : decode cX5_isLiteral 2 = .ok (.bipush 11, 2) := by decide +kernel
theorem dX5_isLiteral_4 : decode cX5_isLiteral 4 = .ok (.invokestatic 72, 3) := by decide +kernel
theorem dX5_isLiteral_7 : decode cX5_isLiteral 7 = .ok (.ireturn, 1) := by decide +kernel
set_option maxRecDepth 20000 in
theorem ggX5_isSaying_X5_isWithin : GoodIn wsX5_isSaying wsX5_isWithin := goodIn_r _ [4] (by decide +kernel) (by decide +kernel)
set_option maxRecDepth 20000 in
theorem gX5_isSaying_X5_isWithin : GoodIn wsX5_isSaying (va_wsS RX5 72 yX5_isWithin wsX5_isWithin) := goodIn_app (goodIn_of _ (by decide +kernel)) ggX5_isSaying_X5_isWithin
set_option maxRecDepth 20000 in
theorem ggX5_isSaying_X5_isLiteral : GoodIn wsX5_isSaying wsX5_isLiteral := goodIn_r _ [7, 1, 2, 3, 4] (by decide +kernel) (by decide +kernel)
set_option maxRecDepth 20000 in
theorem gX5_isSaying_X5_isLiteral : GoodIn wsX5_isSaying (va_wsS RX5 260 yX5_isLiteral wsX5_isLiteral) := goodIn_app (goodIn_of _ (by decide +kernel)) ggX5_isSaying_X5_isLiteral
theorem dX5_isSaying_0 : decode cX5_isSaying 0 = .ok (.iload_n 0, 1) := by decide +kernel
theorem dX5_isSaying_1 : decode cX5_isSaying 1 = .ok (.iconst 0, 1) := by decide +kernel
theorem dX5_isSaying_2 : decode cX5_isSaying 2 = .ok (.iconst 4, 1) := by decide +kernel
theorem dX5_isSaying_3 : decode cX5_isSaying 3 = .ok (.invokestatic 72, 3) := by decide +kernel
theorem dX5_isSaying_6 : decode cX5_isSaying 6 = .ok (.ifCond .eq 30, 3) := by decide +kernel
theorem dX5_isSaying_9 : decode cX5_isSaying 9 = .ok (.iload_n 1, 1) := by decide +kernel
theorem dX5_isSaying_10 : decode cX5_isSaying 10 = .ok (.invokestatic 260, 3) := by decide +kernel
theorem dX5_isSaying_13 : decode cX5_isSaying 13 = .ok (.ifCond .eq 23, 3) := by decide +kernel
theorem dX5_isSaying_16 : decode cX5_isSaying 16 = .ok (.iload_n 2, 1) := by decide +kernel
theorem dX5_isSaying_17 : decode cX5_isSaying 17 = .ok (.invokestatic 260, 3) := by decide +kernel
theorem dX5_isSaying_20 : decode cX5_isSaying 20 = .ok (.ifCond .eq 16, 3) := by decide +kernel
theorem dX5_isSaying_23 : decode cX5_isSaying 23 = .ok (.iload_n 3, 1) := by decide +kernel
theorem dX5_isSaying_24 : decode cX5_isSaying 24 = .ok (.iconst 0, 1) := by decide +kernel
theorem dX5_isSaying_25 : decode cX5_isSaying 25 = .ok (.iconst 5, 1) := by decide +kernel
theorem dX5_isSaying_26 : decode cX5_isSaying 26 = .ok (.invokestatic 72, 3) := by decide +kernel
theorem dX5_isSaying_29 : decode cX5_isSaying 29 = .ok (.ifCond .eq 7, 3) := by decide +kernel
theorem dX5_isSaying_32 : decode cX5_isSaying 32 = .ok (.iconst 1, 1) := by decide +kernel
theorem dX5_isSaying_33 : decode cX5_isSaying 33 = .ok (.goto 4, 3) := by decide +kernel
theorem dX5_isSaying_36 : decode cX5_isSaying 36 = .ok (.iconst 0, 1) := by decide +kernel
theorem dX5_isSaying_37 : decode cX5_isSaying 37 = .ok (.ireturn, 1) := by decide +kernel
theorem dX5_asNumber_0 : decode cX5_asNumber 0 = .ok (.iload_n 0, 1) := by decide +kernel
theorem dX5_asNumber_1 : decode cX5_asNumber 1 = .ok (.ifCond .eq 7, 3) := by decide +kernel
theorem dX5_asNumber_4 : decode cX5_asNumber 4 = .ok (.iconst 1, 1) := by decide +kernel
theorem dX5_asNumber_5 : decode cX5_asNumber 5 = .ok (.goto 4, 3) := by decide +kernel
theorem dX5_asNumber_8 : decode cX5_asNumber 8 = .ok (.iconst 0, 1) := by decide +kernel
theorem dX5_asNumber_9 : decode cX5_asNumber 9 = .ok (.ireturn, 1) := by decide +kernel
theorem dX5_isBitOf_0 : decode cX5_isBitOf 0 = .ok (.iload_n 0, 1) := by decide +kernel
theorem dX5_isBitOf_1 : decode cX5_isBitOf 1 = .ok (.iload_n 1, 1) := by decide +kernel
theorem dX5_isBitOf_2 : decode cX5_isBitOf 2 = .ok (.ishr, 1) := by decide +kernel
theorem dX5_isBitOf_3 : decode cX5_isBitOf 3 = .ok (.iconst 1, 1) := by decide +kernel
theorem dX5_isBitOf_4 : decode cX5_isBitOf 4 = .ok (.iand, 1) := by decide +kernel
theorem dX5_isBitOf_5 : decode cX5_isBitOf 5 = .ok (.iconst 1, 1) := by decide +kernel
theorem dX5_isBitOf_6 : decode cX5_isBitOf 6 = .ok (.if_icmp .ne 7, 3) := by decide +kernel
theorem dX5_isBitOf_9 : decode cX5_isBitOf 9 = .ok (.iconst 1, 1) := by decide +kernel
theorem dX5_isBitOf_10 : decode cX5_isBitOf 10 = .ok (.goto 4, 3) := by decide +kernel
theorem dX5_isBitOf_13 : decode cX5_isBitOf 13 = .ok (.iconst 0, 1) := by decide +kernel
theorem dX5_isBitOf_14 : decode cX5_isBitOf 14 = .ok (.ireturn, 1) := by decide +kernel
theorem dX5_power_0 : decode cX5_power 0 = .ok (.iconst 1, 1) := by decide +kernel
theorem dX5_power_1 : decode cX5_power 1 = .ok (.istore_n 2, 1) := by decide +kernel
theorem dX5_power_2 : decode cX5_power 2 = .ok (.iconst 0, 1) := by decide +kernel
theorem dX5_power_3 : decode cX5_power 3 = .ok (.istore_n 3, 1) := by decide +kernel
theorem dX5_power_4 : decode cX5_power 4 = .ok (.iload_n 3, 1) := by decide +kernel
theorem dX5_power_5 : decode cX5_power 5 = .ok (.iload_n 1, 1) := by decide +kernel
theorem dX5_power_6 : decode cX5_power 6 = .ok (.if_icmp .ge 13, 3) := by decide +kernel
theorem dX5_power_9 : decode cX5_power 9 = .ok (.iload_n 2, 1) := by decide +kernel
theorem dX5_power_10 : decode cX5_power 10 = .ok (.iload_n 0, 1) := by decide +kernel
theorem dX5_power_11 : decode cX5_power 11 = .ok (.imul, 1) := by decide +kernel
theorem dX5_power_12 : decode cX5_power 12 = .ok (.istore_n 2, 1) := by decide +kernel
theorem dX5_power_13 : decode cX5_power 13 = .ok (.iinc 3 1, 3) := by decide +kernel
theorem dX5_power_16 : decode cX5_power 16 = .ok (.goto (-12), 3) := by decide +kernel
theorem dX5_power_19 : decode cX5_power 19 = .ok (.iload_n 2, 1) := by decide +kernel
theorem dX5_power_20 : decode cX5_power 20 = .ok (.ireturn, 1) := by decide +kernel
set_option maxRecDepth 20000 in
theorem ggX5_waysToTurn_J6_bitCount_0f7a4 : GoodIn wsX5_waysToTurn wsJ6_bitCount_0f7a4 := goodIn_r _ [4, 5, 6, 7] (by decide +kernel) (by decide +kernel)
set_option maxRecDepth 20000 in
theorem gX5_waysToTurn_J6_bitCount_0f7a4 : GoodIn wsX5_waysToTurn (va_wsS RX5 235 yJ6_bitCount_0f7a4 wsJ6_bitCount_0f7a4) := goodIn_app (goodIn_of _ (by decide +kernel)) ggX5_waysToTurn_J6_bitCount_0f7a4
set_option maxRecDepth 20000 in
theorem ggX5_waysToTurn_X5_power : GoodIn wsX5_waysToTurn wsX5_power := goodIn_r _ [11] (by decide +kernel) (by decide +kernel)
set_option maxRecDepth 20000 in
theorem gX5_waysToTurn_X5_power : GoodIn wsX5_waysToTurn (va_wsS RX5 242 yX5_power wsX5_power) := goodIn_app (goodIn_of _ (by decide +kernel)) ggX5_waysToTurn_X5_power
theorem dX5_waysToTurn_0 : decode cX5_waysToTurn 0 = .ok (.iload_n 0, 1) := by decide +kernel
theorem dX5_waysToTurn_1 : decode cX5_waysToTurn 1 = .ok (.invokestatic 235, 3) := by decide +kernel
theorem dX5_waysToTurn_4 : decode cX5_waysToTurn 4 = .ok (.istore_n 2, 1) := by decide +kernel
theorem dX5_waysToTurn_5 : decode cX5_waysToTurn 5 = .ok (.iload_n 1, 1) := by decide +kernel
theorem dX5_waysToTurn_6 : decode cX5_waysToTurn 6 = .ok (.iload_n 2, 1) := by decide +kernel
theorem dX5_waysToTurn_7 : decode cX5_waysToTurn 7 = .ok (.invokestatic 242, 3) := by decide +kernel
theorem dX5_waysToTurn_10 : decode cX5_waysToTurn 10 = .ok (.bipush 10, 2) := by decide +kernel
theorem dX5_waysToTurn_12 : decode cX5_waysToTurn 12 = .ok (.iload_n 1, 1) := by decide +kernel
theorem dX5_waysToTurn_13 : decode cX5_waysToTurn 13 = .ok (.isub, 1) := by decide +kernel
theorem dX5_waysToTurn_14 : decode cX5_waysToTurn 14 = .ok (.bipush 6, 2) := by decide +kernel
theorem dX5_waysToTurn_16 : decode cX5_waysToTurn 16 = .ok (.iload_n 2, 1) := by decide +kernel
theorem dX5_waysToTurn_17 : decode cX5_waysToTurn 17 = .ok (.isub, 1) := by decide +kernel
theorem dX5_waysToTurn_18 : decode cX5_waysToTurn 18 = .ok (.invokestatic 242, 3) := by decide +kernel
theorem dX5_waysToTurn_21 : decode cX5_waysToTurn 21 = .ok (.imul, 1) := by decide +kernel
theorem dX5_waysToTurn_22 : decode cX5_waysToTurn 22 = .ok (.ireturn, 1) := by decide +kernel
theorem dX5_commonDivisor_0 : decode cX5_commonDivisor 0 = .ok (.iload_n 0, 1) := by decide +kernel
theorem dX5_commonDivisor_1 : decode cX5_commonDivisor 1 = .ok (.istore_n 2, 1) := by decide +kernel
theorem dX5_commonDivisor_2 : decode cX5_commonDivisor 2 = .ok (.iload_n 1, 1) := by decide +kernel
theorem dX5_commonDivisor_3 : decode cX5_commonDivisor 3 = .ok (.istore_n 3, 1) := by decide +kernel
theorem dX5_commonDivisor_4 : decode cX5_commonDivisor 4 = .ok (.iconst 0, 1) := by decide +kernel
theorem dX5_commonDivisor_5 : decode cX5_commonDivisor 5 = .ok (.istore 4, 2) := by decide +kernel
theorem dX5_commonDivisor_7 : decode cX5_commonDivisor 7 = .ok (.iload 4, 2) := by decide +kernel
theorem dX5_commonDivisor_9 : decode cX5_commonDivisor 9 = .ok (.bipush 100, 2) := by decide +kernel
theorem dX5_commonDivisor_11 : decode cX5_commonDivisor 11 = .ok (.if_icmp .ge 23, 3) := by decide +kernel
theorem dX5_commonDivisor_14 : decode cX5_commonDivisor 14 = .ok (.iload_n 3, 1) := by decide +kernel
theorem dX5_commonDivisor_15 : decode cX5_commonDivisor 15 = .ok (.ifCond .eq 19, 3) := by decide +kernel
theorem dX5_commonDivisor_18 : decode cX5_commonDivisor 18 = .ok (.iload_n 2, 1) := by decide +kernel
theorem dX5_commonDivisor_19 : decode cX5_commonDivisor 19 = .ok (.iload_n 3, 1) := by decide +kernel
theorem dX5_commonDivisor_20 : decode cX5_commonDivisor 20 = .ok (.irem, 1) := by decide +kernel
theorem dX5_commonDivisor_21 : decode cX5_commonDivisor 21 = .ok (.istore 5, 2) := by decide +kernel
theorem dX5_commonDivisor_23 : decode cX5_commonDivisor 23 = .ok (.iload_n 3, 1) := by decide +kernel
theorem dX5_commonDivisor_24 : decode cX5_commonDivisor 24 = .ok (.istore_n 2, 1) := by decide +kernel
theorem dX5_commonDivisor_25 : decode cX5_commonDivisor 25 = .ok (.iload 5, 2) := by decide +kernel
theorem dX5_commonDivisor_27 : decode cX5_commonDivisor 27 = .ok (.istore_n 3, 1) := by decide +kernel
theorem dX5_commonDivisor_28 : decode cX5_commonDivisor 28 = .ok (.iinc 4 1, 3) := by decide +kernel
theorem dX5_commonDivisor_31 : decode cX5_commonDivisor 31 = .ok (.goto (-24), 3) := by decide +kernel
theorem dX5_commonDivisor_34 : decode cX5_commonDivisor 34 = .ok (.iload_n 2, 1) := by decide +kernel
theorem dX5_commonDivisor_35 : decode cX5_commonDivisor 35 = .ok (.ireturn, 1) := by decide +kernel
theorem dX5_draw_0 : decode cX5_draw 0 = .ok (.ldc2_w 263, 3) := by decide +kernel
theorem dX5_draw_3 : decode cX5_draw 3 = .ok (.iload_n 0, 1) := by decide +kernel
theorem dX5_draw_4 : decode cX5_draw 4 = .ok (.i2l, 1) := by decide +kernel
theorem dX5_draw_5 : decode cX5_draw 5 = .ok (.lmul, 1) := by decide +kernel
theorem dX5_draw_6 : decode cX5_draw 6 = .ok (.ldc2_w 265, 3) := by decide +kernel
theorem dX5_draw_9 : decode cX5_draw 9 = .ok (.iload_n 1, 1) := by decide +kernel
theorem dX5_draw_10 : decode cX5_draw 10 = .ok (.i2l, 1) := by decide +kernel
theorem dX5_draw_11 : decode cX5_draw 11 = .ok (.lmul, 1) := by decide +kernel
theorem dX5_draw_12 : decode cX5_draw 12 = .ok (.ladd, 1) := by decide +kernel
theorem dX5_draw_13 : decode cX5_draw 13 = .ok (.lconst 1, 1) := by decide +kernel
theorem dX5_draw_14 : decode cX5_draw 14 = .ok (.ladd, 1) := by decide +kernel
theorem dX5_draw_15 : decode cX5_draw 15 = .ok (.lstore_n 2, 1) := by decide +kernel
theorem dX5_draw_16 : decode cX5_draw 16 = .ok (.lload_n 2, 1) := by decide +kernel
theorem dX5_draw_17 : decode cX5_draw 17 = .ok (.lload_n 2, 1) := by decide +kernel
theorem dX5_draw_18 : decode cX5_draw 18 = .ok (.lmul, 1) := by decide +kernel
theorem dX5_draw_19 : decode cX5_draw 19 = .ok (.ldc2_w 267, 3) := by decide +kernel
theorem dX5_draw_22 : decode cX5_draw 22 = .ok (.lrem, 1) := by decide +kernel
theorem dX5_draw_23 : decode cX5_draw 23 = .ok (.l2i, 1) := by decide +kernel
theorem dX5_draw_24 : decode cX5_draw 24 = .ok (.ireturn, 1) := by decide +kernel
theorem dX5_worldsOfLiteral_0 : decode cX5_worldsOfLiteral 0 = .ok (.iload_n 0, 1) := by decide +kernel
theorem dX5_worldsOfLiteral_1 : decode cX5_worldsOfLiteral 1 = .ok (.ifCond .lt 9, 3) := by decide +kernel
theorem dX5_worldsOfLiteral_4 : decode cX5_worldsOfLiteral 4 = .ok (.iload_n 0, 1) := by decide +kernel
theorem dX5_worldsOfLiteral_5 : decode cX5_worldsOfLiteral 5 = .ok (.bipush 12, 2) := by decide +kernel
theorem dX5_worldsOfLiteral_7 : decode cX5_worldsOfLiteral 7 = .ok (.if_icmp .lt 5, 3) := by decide +kernel
theorem dX5_worldsOfLiteral_10 : decode cX5_worldsOfLiteral 10 = .ok (.lconst 0, 1) := by decide +kernel
theorem dX5_worldsOfLiteral_11 : decode cX5_worldsOfLiteral 11 = .ok (.lreturn, 1) := by decide +kernel
theorem dX5_worldsOfLiteral_12 : decode cX5_worldsOfLiteral 12 = .ok (.iload_n 0, 1) := by decide +kernel
theorem dX5_worldsOfLiteral_13 : decode cX5_worldsOfLiteral 13 = .ok (.bipush 6, 2) := by decide +kernel
theorem dX5_worldsOfLiteral_15 : decode cX5_worldsOfLiteral 15 = .ok (.if_icmp .ge 11, 3) := by decide +kernel
theorem dX5_worldsOfLiteral_18 : decode cX5_worldsOfLiteral 18 = .ok (.getstatic 269, 3) := by decide +kernel
theorem dX5_worldsOfLiteral_21 : decode cX5_worldsOfLiteral 21 = .ok (.iload_n 0, 1) := by decide +kernel
theorem dX5_worldsOfLiteral_22 : decode cX5_worldsOfLiteral 22 = .ok (.laload, 1) := by decide +kernel
theorem dX5_worldsOfLiteral_23 : decode cX5_worldsOfLiteral 23 = .ok (.goto 15, 3) := by decide +kernel
theorem dX5_worldsOfLiteral_26 : decode cX5_worldsOfLiteral 26 = .ok (.getstatic 269, 3) := by decide +kernel
theorem dX5_worldsOfLiteral_29 : decode cX5_worldsOfLiteral 29 = .ok (.iload_n 0, 1) := by decide +kernel
theorem dX5_worldsOfLiteral_30 : decode cX5_worldsOfLiteral 30 = .ok (.bipush 6, 2) := by decide +kernel
theorem dX5_worldsOfLiteral_32 : decode cX5_worldsOfLiteral 32 = .ok (.isub, 1) := by decide +kernel
theorem dX5_worldsOfLiteral_33 : decode cX5_worldsOfLiteral 33 = .ok (.laload, 1) := by decide +kernel
theorem dX5_worldsOfLiteral_34 : decode cX5_worldsOfLiteral 34 = .ok (.ldc2_w 273, 3) := by decide +kernel
theorem dX5_worldsOfLiteral_37 : decode cX5_worldsOfLiteral 37 = .ok (.lxor, 1) := by decide +kernel
theorem dX5_worldsOfLiteral_38 : decode cX5_worldsOfLiteral 38 = .ok (.lreturn, 1) := by decide +kernel
set_option maxRecDepth 20000 in
theorem ggX5_worldsOfSaying_X5_worldsOfLiteral : GoodIn wsX5_worldsOfSaying wsX5_worldsOfLiteral := goodIn_r _ [5, 6, 1] (by decide +kernel) (by decide +kernel)
set_option maxRecDepth 20000 in
theorem gX5_worldsOfSaying_X5_worldsOfLiteral : GoodIn wsX5_worldsOfSaying (va_wsS RX5 224 yX5_worldsOfLiteral wsX5_worldsOfLiteral) := goodIn_app (goodIn_of _ (by decide +kernel)) ggX5_worldsOfSaying_X5_worldsOfLiteral
theorem dX5_worldsOfSaying_0 : decode cX5_worldsOfSaying 0 = .ok (.iload_n 1, 1) := by decide +kernel
theorem dX5_worldsOfSaying_1 : decode cX5_worldsOfSaying 1 = .ok (.invokestatic 224, 3) := by decide +kernel
theorem dX5_worldsOfSaying_4 : decode cX5_worldsOfSaying 4 = .ok (.lstore_n 3, 1) := by decide +kernel
theorem dX5_worldsOfSaying_5 : decode cX5_worldsOfSaying 5 = .ok (.iload_n 2, 1) := by decide +kernel
theorem dX5_worldsOfSaying_6 : decode cX5_worldsOfSaying 6 = .ok (.invokestatic 224, 3) := by decide +kernel
theorem dX5_worldsOfSaying_9 : decode cX5_worldsOfSaying 9 = .ok (.lstore 5, 2) := by decide +kernel
theorem dX5_worldsOfSaying_11 : decode cX5_worldsOfSaying 11 = .ok (.iload_n 0, 1) := by decide +kernel
theorem dX5_worldsOfSaying_12 : decode cX5_worldsOfSaying 12 = .ok (.tableswitch 56 1 4 #[32, 37, 42, 51], 32) := by decide +kernel
theorem dX5_worldsOfSaying_44 : decode cX5_worldsOfSaying 44 = .ok (.lload_n 3, 1) := by decide +kernel
theorem dX5_worldsOfSaying_45 : decode cX5_worldsOfSaying 45 = .ok (.lload 5, 2) := by decide +kernel
theorem dX5_worldsOfSaying_47 : decode cX5_worldsOfSaying 47 = .ok (.land, 1) := by decide +kernel
theorem dX5_worldsOfSaying_48 : decode cX5_worldsOfSaying 48 = .ok (.lreturn, 1) := by decide +kernel
theorem dX5_worldsOfSaying_49 : decode cX5_worldsOfSaying 49 = .ok (.lload_n 3, 1) := by decide +kernel
theorem dX5_worldsOfSaying_50 : decode cX5_worldsOfSaying 50 = .ok (.lload 5, 2) := by decide +kernel
theorem dX5_worldsOfSaying_52 : decode cX5_worldsOfSaying 52 = .ok (.lor, 1) := by decide +kernel
theorem dX5_worldsOfSaying_53 : decode cX5_worldsOfSaying 53 = .ok (.lreturn, 1) := by decide +kernel
theorem dX5_worldsOfSaying_54 : decode cX5_worldsOfSaying 54 = .ok (.lload_n 3, 1) := by decide +kernel
theorem dX5_worldsOfSaying_55 : decode cX5_worldsOfSaying 55 = .ok (.ldc2_w 273, 3) := by decide +kernel
theorem dX5_worldsOfSaying_58 : decode cX5_worldsOfSaying 58 = .ok (.lxor, 1) := by decide +kernel
theorem dX5_worldsOfSaying_59 : decode cX5_worldsOfSaying 59 = .ok (.lload 5, 2) := by decide +kernel
theorem dX5_worldsOfSaying_61 : decode cX5_worldsOfSaying 61 = .ok (.lor, 1) := by decide +kernel
theorem dX5_worldsOfSaying_62 : decode cX5_worldsOfSaying 62 = .ok (.lreturn, 1) := by decide +kernel
theorem dX5_worldsOfSaying_63 : decode cX5_worldsOfSaying 63 = .ok (.lload_n 3, 1) := by decide +kernel
theorem dX5_worldsOfSaying_64 : decode cX5_worldsOfSaying 64 = .ok (.lload 5, 2) := by decide +kernel
theorem dX5_worldsOfSaying_66 : decode cX5_worldsOfSaying 66 = .ok (.lxor, 1) := by decide +kernel
theorem dX5_worldsOfSaying_67 : decode cX5_worldsOfSaying 67 = .ok (.lreturn, 1) := by decide +kernel
theorem dX5_worldsOfSaying_68 : decode cX5_worldsOfSaying 68 = .ok (.lload_n 3, 1) := by decide +kernel
theorem dX5_worldsOfSaying_69 : decode cX5_worldsOfSaying 69 = .ok (.lreturn, 1) := by decide +kernel
theorem dX5_isAmong_0 : decode cX5_isAmong 0 = .ok (.lload_n 0, 1) := by decide +kernel
theorem dX5_isAmong_1 : decode cX5_isAmong 1 = .ok (.iload_n 2, 1) := by decide +kernel
theorem dX5_isAmong_2 : decode cX5_isAmong 2 = .ok (.lushr, 1) := by decide +kernel
theorem dX5_isAmong_3 : decode cX5_isAmong 3 = .ok (.lconst 1, 1) := by decide +kernel
theorem dX5_isAmong_4 : decode cX5_isAmong 4 = .ok (.land, 1) := by decide +kernel
theorem dX5_isAmong_5 : decode cX5_isAmong 5 = .ok (.lconst 1, 1) := by decide +kernel
theorem dX5_isAmong_6 : decode cX5_isAmong 6 = .ok (.lcmp, 1) := by decide +kernel
theorem dX5_isAmong_7 : decode cX5_isAmong 7 = .ok (.ifCond .ne 7, 3) := by decide +kernel
theorem dX5_isAmong_10 : decode cX5_isAmong 10 = .ok (.iconst 1, 1) := by decide +kernel
theorem dX5_isAmong_11 : decode cX5_isAmong 11 = .ok (.goto 4, 3) := by decide +kernel
theorem dX5_isAmong_14 : decode cX5_isAmong 14 = .ok (.iconst 0, 1) := by decide +kernel
theorem dX5_isAmong_15 : decode cX5_isAmong 15 = .ok (.ireturn, 1) := by decide +kernel
set_option maxRecDepth 20000 in
theorem ggX5_lowestWorld_X5_isAmong : GoodIn wsX5_lowestWorld wsX5_isAmong := goodIn_r _ [4] (by decide +kernel) (by decide +kernel)
set_option maxRecDepth 20000 in
theorem gX5_lowestWorld_X5_isAmong : GoodIn wsX5_lowestWorld (va_wsS RX5 231 yX5_isAmong wsX5_isAmong) := goodIn_app (goodIn_of _ (by decide +kernel)) ggX5_lowestWorld_X5_isAmong
theorem dX5_lowestWorld_0 : decode cX5_lowestWorld 0 = .ok (.iconst 0, 1) := by decide +kernel
theorem dX5_lowestWorld_1 : decode cX5_lowestWorld 1 = .ok (.istore_n 2, 1) := by decide +kernel
theorem dX5_lowestWorld_2 : decode cX5_lowestWorld 2 = .ok (.iload_n 2, 1) := by decide +kernel
theorem dX5_lowestWorld_3 : decode cX5_lowestWorld 3 = .ok (.bipush 64, 2) := by decide +kernel
theorem dX5_lowestWorld_5 : decode cX5_lowestWorld 5 = .ok (.if_icmp .ge 19, 3) := by decide +kernel
theorem dX5_lowestWorld_8 : decode cX5_lowestWorld 8 = .ok (.lload_n 0, 1) := by decide +kernel
theorem dX5_lowestWorld_9 : decode cX5_lowestWorld 9 = .ok (.iload_n 2, 1) := by decide +kernel
theorem dX5_lowestWorld_10 : decode cX5_lowestWorld 10 = .ok (.invokestatic 231, 3) := by decide +kernel
theorem dX5_lowestWorld_13 : decode cX5_lowestWorld 13 = .ok (.ifCond .eq 5, 3) := by decide +kernel
theorem dX5_lowestWorld_16 : decode cX5_lowestWorld 16 = .ok (.iload_n 2, 1) := by decide +kernel
theorem dX5_lowestWorld_17 : decode cX5_lowestWorld 17 = .ok (.ireturn, 1) := by decide +kernel
theorem dX5_lowestWorld_18 : decode cX5_lowestWorld 18 = .ok (.iinc 2 1, 3) := by decide +kernel
theorem dX5_lowestWorld_21 : decode cX5_lowestWorld 21 = .ok (.goto (-19), 3) := by decide +kernel
theorem dX5_lowestWorld_24 : decode cX5_lowestWorld 24 = .ok (.bipush (-4), 2) := by decide +kernel
theorem dX5_lowestWorld_26 : decode cX5_lowestWorld 26 = .ok (.ireturn, 1) := by decide +kernel
set_option maxRecDepth 20000 in
theorem ggX6_init_X6_clearTold : GoodIn wsX6_init wsX6_clearTold := goodIn_r _ [22, 11, 17, 59, 60, 61, 62, 63, 64, 65, 66, 67, 68, 69, 70, 71, 72, 73, 74, 75, 76, 77, 78, 79] (by decide +kernel) (by decide +kernel)
set_option maxRecDepth 20000 in
theorem gX6_init_X6_clearTold : GoodIn wsX6_init (wsV RX6 46 RX6 yX6_clearTold wsX6_clearTold) := goodIn_app (goodIn_of _ (by decide +kernel)) ggX6_init_X6_clearTold
set_option maxRecDepth 20000 in
theorem ggX6_init_X6_tellsSaying : GoodIn wsX6_init wsX6_tellsSaying := goodIn_r _ [26, 11, 27, 28, 21, 29, 59, 60, 61, 62, 63, 64, 65, 66, 67, 68, 69, 70, 71, 72, 73, 74, 75, 76, 77, 78, 79] (by decide +kernel) (by decide +kernel)
set_option maxRecDepth 20000 in
theorem gX6_init_X6_tellsSaying : GoodIn wsX6_init (wsV RX6 49 RX6 yX6_tellsSaying wsX6_tellsSaying) := goodIn_app (goodIn_of _ (by decide +kernel)) ggX6_init_X6_tellsSaying
set_option maxRecDepth 20000 in
theorem ggX6_init_X6_settles : GoodIn wsX6_init wsX6_settles := goodIn_r _ [33, 17, 34, 12, 11, 5, 35, 36, 37, 38, 39, 21, 40, 41, 42, 43, 44, 45, 46, 47, 48, 49, 50, 51, 52, 53, 54, 55, 56, 57, 58, 59, 60, 61, 62, 63, 64, 65, 66, 67, 68, 69, 70, 71, 72, 73, 74, 75, 76, 77, 78, 79] (by decide +kernel) (by decide +kernel)
set_option maxRecDepth 20000 in
theorem gX6_init_X6_settles : GoodIn wsX6_init (wsV RX6 57 RX6 yX6_settles wsX6_settles) := goodIn_app (goodIn_of _ (by decide +kernel)) ggX6_init_X6_settles
theorem dX6_init_0 : decode cX6_init 0 = .ok (.aload_n 0, 1) := by decide +kernel
theorem dX6_init_1 : decode cX6_init 1 = .ok (.invokespecial 1, 3) := by decide +kernel
theorem dX6_init_4 : decode cX6_init 4 = .ok (.aload_n 0, 1) := by decide +kernel
theorem dX6_init_5 : decode cX6_init 5 = .ok (.bipush 49, 2) := by decide +kernel
theorem dX6_init_7 : decode cX6_init 7 = .ok (.newarray .int, 2) := by decide +kernel
theorem dX6_init_9 : decode cX6_init 9 = .ok (.putfield 7, 3) := by decide +kernel
theorem dX6_init_12 : decode cX6_init 12 = .ok (.aload_n 0, 1) := by decide +kernel
theorem dX6_init_13 : decode cX6_init 13 = .ok (.sipush 392, 3) := by decide +kernel
theorem dX6_init_16 : decode cX6_init 16 = .ok (.newarray .int, 2) := by decide +kernel
theorem dX6_init_18 : decode cX6_init 18 = .ok (.putfield 13, 3) := by decide +kernel
theorem dX6_init_21 : decode cX6_init 21 = .ok (.aload_n 0, 1) := by decide +kernel
theorem dX6_init_22 : decode cX6_init 22 = .ok (.bipush 98, 2) := by decide +kernel
theorem dX6_init_24 : decode cX6_init 24 = .ok (.newarray .int, 2) := by decide +kernel
theorem dX6_init_26 : decode cX6_init 26 = .ok (.putfield 16, 3) := by decide +kernel
theorem dX6_init_29 : decode cX6_init 29 = .ok (.aload_n 0, 1) := by decide +kernel
theorem dX6_init_30 : decode cX6_init 30 = .ok (.bipush 12, 2) := by decide +kernel
theorem dX6_init_32 : decode cX6_init 32 = .ok (.newarray .int, 2) := by decide +kernel
theorem dX6_init_34 : decode cX6_init 34 = .ok (.putfield 19, 3) := by decide +kernel
theorem dX6_init_37 : decode cX6_init 37 = .ok (.aload_n 0, 1) := by decide +kernel
theorem dX6_init_38 : decode cX6_init 38 = .ok (.sipush 200, 3) := by decide +kernel
theorem dX6_init_41 : decode cX6_init 41 = .ok (.newarray .int, 2) := by decide +kernel
theorem dX6_init_43 : decode cX6_init 43 = .ok (.putfield 22, 3) := by decide +kernel
theorem dX6_init_46 : decode cX6_init 46 = .ok (.aload_n 0, 1) := by decide +kernel
theorem dX6_init_47 : decode cX6_init 47 = .ok (.iconst 4, 1) := by decide +kernel
theorem dX6_init_48 : decode cX6_init 48 = .ok (.newarray .int, 2) := by decide +kernel
theorem dX6_init_50 : decode cX6_init 50 = .ok (.putfield 25, 3) := by decide +kernel
theorem dX6_init_53 : decode cX6_init 53 = .ok (.aload_n 0, 1) := by decide +kernel
theorem dX6_init_54 : decode cX6_init 54 = .ok (.bipush 49, 2) := by decide +kernel
theorem dX6_init_56 : decode cX6_init 56 = .ok (.newarray .int, 2) := by decide +kernel
theorem dX6_init_58 : decode cX6_init 58 = .ok (.putfield 28, 3) := by decide +kernel
theorem dX6_init_61 : decode cX6_init 61 = .ok (.aload_n 0, 1) := by decide +kernel
theorem dX6_init_62 : decode cX6_init 62 = .ok (.bipush 49, 2) := by decide +kernel
theorem dX6_init_64 : decode cX6_init 64 = .ok (.newarray .int, 2) := by decide +kernel
theorem dX6_init_66 : decode cX6_init 66 = .ok (.putfield 31, 3) := by decide +kernel
theorem dX6_init_69 : decode cX6_init 69 = .ok (.aload_n 0, 1) := by decide +kernel
theorem dX6_init_70 : decode cX6_init 70 = .ok (.bipush 64, 2) := by decide +kernel
theorem dX6_init_72 : decode cX6_init 72 = .ok (.newarray .int, 2) := by decide +kernel
theorem dX6_init_74 : decode cX6_init 74 = .ok (.putfield 34, 3) := by decide +kernel
theorem dX6_init_77 : decode cX6_init 77 = .ok (.aload_n 0, 1) := by decide +kernel
theorem dX6_init_78 : decode cX6_init 78 = .ok (.sipush 512, 3) := by decide +kernel
theorem dX6_init_81 : decode cX6_init 81 = .ok (.newarray .int, 2) := by decide +kernel
theorem dX6_init_83 : decode cX6_init 83 = .ok (.putfield 37, 3) := by decide +kernel
theorem dX6_init_86 : decode cX6_init 86 = .ok (.aload_n 0, 1) := by decide +kernel
theorem dX6_init_87 : decode cX6_init 87 = .ok (.bipush 64, 2) := by decide +kernel
theorem dX6_init_89 : decode cX6_init 89 = .ok (.newarray .int, 2) := by decide +kernel
theorem dX6_init_91 : decode cX6_init 91 = .ok (.putfield 40, 3) := by decide +kernel
theorem dX6_init_94 : decode cX6_init 94 = .ok (.aload_n 0, 1) := by decide +kernel
theorem dX6_init_95 : decode cX6_init 95 = .ok (.bipush 64, 2) := by decide +kernel
theorem dX6_init_97 : decode cX6_init 97 = .ok (.newarray .int, 2) := by decide +kernel
theorem dX6_init_99 : decode cX6_init 99 = .ok (.putfield 43, 3) := by decide +kernel
theorem dX6_init_102 : decode cX6_init 102 = .ok (.aload_n 0, 1) := by decide +kernel
theorem dX6_init_103 : decode cX6_init 103 = .ok (.invokevirtual 46, 3) := by decide +kernel
theorem dX6_init_106 : decode cX6_init 106 = .ok (.aload_n 0, 1) := by decide +kernel
theorem dX6_init_107 : decode cX6_init 107 = .ok (.getfield 28, 3) := by decide +kernel
theorem dX6_init_110 : decode cX6_init 110 = .ok (.iconst 0, 1) := by decide +kernel
theorem dX6_init_111 : decode cX6_init 111 = .ok (.bipush 37, 2) := by decide +kernel
theorem dX6_init_113 : decode cX6_init 113 = .ok (.iastore, 1) := by decide +kernel
theorem dX6_init_114 : decode cX6_init 114 = .ok (.aload_n 0, 1) := by decide +kernel
theorem dX6_init_115 : decode cX6_init 115 = .ok (.iconst 0, 1) := by decide +kernel
theorem dX6_init_116 : decode cX6_init 116 = .ok (.iconst 1, 1) := by decide +kernel
theorem dX6_init_117 : decode cX6_init 117 = .ok (.iconst 0, 1) := by decide +kernel
theorem dX6_init_118 : decode cX6_init 118 = .ok (.iconst 0, 1) := by decide +kernel
theorem dX6_init_119 : decode cX6_init 119 = .ok (.invokevirtual 49, 3) := by decide +kernel
theorem dX6_init_122 : decode cX6_init 122 = .ok (.aload_n 0, 1) := by decide +kernel
theorem dX6_init_123 : decode cX6_init 123 = .ok (.iconst 1, 1) := by decide +kernel
theorem dX6_init_124 : decode cX6_init 124 = .ok (.iconst 0, 1) := by decide +kernel
theorem dX6_init_125 : decode cX6_init 125 = .ok (.iconst 3, 1) := by decide +kernel
theorem dX6_init_126 : decode cX6_init 126 = .ok (.iconst 1, 1) := by decide +kernel
theorem dX6_init_127 : decode cX6_init 127 = .ok (.invokevirtual 49, 3) := by decide +kernel
theorem dX6_init_130 : decode cX6_init 130 = .ok (.aload_n 0, 1) := by decide +kernel
theorem dX6_init_131 : decode cX6_init 131 = .ok (.iconst 2, 1) := by decide +kernel
theorem dX6_init_132 : decode cX6_init 132 = .ok (.bipush 7, 2) := by decide +kernel
theorem dX6_init_134 : decode cX6_init 134 = .ok (.iconst 4, 1) := by decide +kernel
theorem dX6_init_135 : decode cX6_init 135 = .ok (.iconst 2, 1) := by decide +kernel
theorem dX6_init_136 : decode cX6_init 136 = .ok (.invokevirtual 49, 3) := by decide +kernel
theorem dX6_init_139 : decode cX6_init 139 = .ok (.aload_n 0, 1) := by decide +kernel
theorem dX6_init_140 : decode cX6_init 140 = .ok (.iconst 3, 1) := by decide +kernel
theorem dX6_init_141 : decode cX6_init 141 = .ok (.iconst 0, 1) := by decide +kernel
theorem dX6_init_142 : decode cX6_init 142 = .ok (.iconst 1, 1) := by decide +kernel
theorem dX6_init_143 : decode cX6_init 143 = .ok (.iconst 0, 1) := by decide +kernel
theorem dX6_init_144 : decode cX6_init 144 = .ok (.invokevirtual 49, 3) := by decide +kernel
theorem dX6_init_147 : decode cX6_init 147 = .ok (.aload_n 0, 1) := by decide +kernel
theorem dX6_init_148 : decode cX6_init 148 = .ok (.iconst 4, 1) := by decide +kernel
theorem dX6_init_149 : decode cX6_init 149 = .ok (.iconst 2, 1) := by decide +kernel
theorem dX6_init_150 : decode cX6_init 150 = .ok (.iconst 5, 1) := by decide +kernel
theorem dX6_init_151 : decode cX6_init 151 = .ok (.iconst 3, 1) := by decide +kernel
theorem dX6_init_152 : decode cX6_init 152 = .ok (.invokevirtual 49, 3) := by decide +kernel
theorem dX6_init_155 : decode cX6_init 155 = .ok (.aload_n 0, 1) := by decide +kernel
theorem dX6_init_156 : decode cX6_init 156 = .ok (.iconst 1, 1) := by decide +kernel
theorem dX6_init_157 : decode cX6_init 157 = .ok (.iconst 4, 1) := by decide +kernel
theorem dX6_init_158 : decode cX6_init 158 = .ok (.iconst 1, 1) := by decide +kernel
theorem dX6_init_159 : decode cX6_init 159 = .ok (.iconst 1, 1) := by decide +kernel
theorem dX6_init_160 : decode cX6_init 160 = .ok (.invokevirtual 49, 3) := by decide +kernel
theorem dX6_init_163 : decode cX6_init 163 = .ok (.aload_n 0, 1) := by decide +kernel
theorem dX6_init_164 : decode cX6_init 164 = .ok (.iconst 0, 1) := by decide +kernel
theorem dX6_init_165 : decode cX6_init 165 = .ok (.bipush 10, 2) := by decide +kernel
theorem dX6_init_167 : decode cX6_init 167 = .ok (.iconst 0, 1) := by decide +kernel
theorem dX6_init_168 : decode cX6_init 168 = .ok (.iconst 4, 1) := by decide +kernel
theorem dX6_init_169 : decode cX6_init 169 = .ok (.invokevirtual 49, 3) := by decide +kernel
theorem dX6_init_172 : decode cX6_init 172 = .ok (.aload_n 0, 1) := by decide +kernel
theorem dX6_init_173 : decode cX6_init 173 = .ok (.iconst 3, 1) := by decide +kernel
theorem dX6_init_174 : decode cX6_init 174 = .ok (.iconst 2, 1) := by decide +kernel
theorem dX6_init_175 : decode cX6_init 175 = .ok (.bipush 8, 2) := by decide +kernel
theorem dX6_init_177 : decode cX6_init 177 = .ok (.iconst 2, 1) := by decide +kernel
theorem dX6_init_178 : decode cX6_init 178 = .ok (.invokevirtual 49, 3) := by decide +kernel
theorem dX6_init_181 : decode cX6_init 181 = .ok (.aload_n 0, 1) := by decide +kernel
theorem dX6_init_182 : decode cX6_init 182 = .ok (.iconst 3, 1) := by decide +kernel
theorem dX6_init_183 : decode cX6_init 183 = .ok (.putfield 53, 3) := by decide +kernel
theorem dX6_init_186 : decode cX6_init 186 = .ok (.aload_n 0, 1) := by decide +kernel
theorem dX6_init_187 : decode cX6_init 187 = .ok (.invokevirtual 57, 3) := by decide +kernel
theorem dX6_init_190 : decode cX6_init 190 = .ok (.return_, 1) := by decide +kernel
set_option maxRecDepth 20000 in
theorem ggX6_tellsSaying_X6_puts : GoodIn wsX6_tellsSaying wsX6_puts := goodIn_r _ [5] (by decide +kernel) (by decide +kernel)
set_option maxRecDepth 20000 in
theorem gX6_tellsSaying_X6_puts : GoodIn wsX6_tellsSaying (va_wsS RX6 60 yX6_puts wsX6_puts) := goodIn_app (goodIn_of _ (by decide +kernel)) ggX6_tellsSaying_X6_puts
theorem dX6_tellsSaying_0 : decode cX6_tellsSaying 0 = .ok (.aload_n 0, 1) := by decide +kernel
theorem dX6_tellsSaying_1 : decode cX6_tellsSaying 1 = .ok (.getfield 28, 3) := by decide +kernel
theorem dX6_tellsSaying_4 : decode cX6_tellsSaying 4 = .ok (.iload_n 1, 1) := by decide +kernel
theorem dX6_tellsSaying_5 : decode cX6_tellsSaying 5 = .ok (.iload_n 2, 1) := by decide +kernel
theorem dX6_tellsSaying_6 : decode cX6_tellsSaying 6 = .ok (.iload_n 3, 1) := by decide +kernel
theorem dX6_tellsSaying_7 : decode cX6_tellsSaying 7 = .ok (.iload 4, 2) := by decide +kernel
theorem dX6_tellsSaying_9 : decode cX6_tellsSaying 9 = .ok (.invokestatic 60, 3) := by decide +kernel
theorem dX6_tellsSaying_12 : decode cX6_tellsSaying 12 = .ok (.return_, 1) := by decide +kernel
theorem dX6_puts_0 : decode cX6_puts 0 = .ok (.iconst 4, 1) := by decide +kernel
theorem dX6_puts_1 : decode cX6_puts 1 = .ok (.iconst 4, 1) := by decide +kernel
theorem dX6_puts_2 : decode cX6_puts 2 = .ok (.aload_n 0, 1) := by decide +kernel
theorem dX6_puts_3 : decode cX6_puts 3 = .ok (.iconst 2, 1) := by decide +kernel
theorem dX6_puts_4 : decode cX6_puts 4 = .ok (.iaload, 1) := by decide +kernel
theorem dX6_puts_5 : decode cX6_puts 5 = .ok (.imul, 1) := by decide +kernel
theorem dX6_puts_6 : decode cX6_puts 6 = .ok (.iadd, 1) := by decide +kernel
theorem dX6_puts_7 : decode cX6_puts 7 = .ok (.istore 5, 2) := by decide +kernel
theorem dX6_puts_9 : decode cX6_puts 9 = .ok (.aload_n 0, 1) := by decide +kernel
theorem dX6_puts_10 : decode cX6_puts 10 = .ok (.iload 5, 2) := by decide +kernel
theorem dX6_puts_12 : decode cX6_puts 12 = .ok (.iload_n 1, 1) := by decide +kernel
theorem dX6_puts_13 : decode cX6_puts 13 = .ok (.iastore, 1) := by decide +kernel
theorem dX6_puts_14 : decode cX6_puts 14 = .ok (.aload_n 0, 1) := by decide +kernel
theorem dX6_puts_15 : decode cX6_puts 15 = .ok (.iload 5, 2) := by decide +kernel
theorem dX6_puts_17 : decode cX6_puts 17 = .ok (.iconst 1, 1) := by decide +kernel
theorem dX6_puts_18 : decode cX6_puts 18 = .ok (.iadd, 1) := by decide +kernel
theorem dX6_puts_19 : decode cX6_puts 19 = .ok (.iload_n 2, 1) := by decide +kernel
theorem dX6_puts_20 : decode cX6_puts 20 = .ok (.iastore, 1) := by decide +kernel
theorem dX6_puts_21 : decode cX6_puts 21 = .ok (.aload_n 0, 1) := by decide +kernel
theorem dX6_puts_22 : decode cX6_puts 22 = .ok (.iload 5, 2) := by decide +kernel
theorem dX6_puts_24 : decode cX6_puts 24 = .ok (.iconst 2, 1) := by decide +kernel
theorem dX6_puts_25 : decode cX6_puts 25 = .ok (.iadd, 1) := by decide +kernel
theorem dX6_puts_26 : decode cX6_puts 26 = .ok (.iload_n 1, 1) := by decide +kernel
theorem dX6_puts_27 : decode cX6_puts 27 = .ok (.ifCond .ne 8, 3) := by decide +kernel
theorem dX6_puts_30 : decode cX6_puts 30 = .ok (.bipush (-4), 2) := by decide +kernel
theorem dX6_puts_32 : decode cX6_puts 32 = .ok (.goto 4, 3) := by decide +kernel
theorem dX6_puts_35 : decode cX6_puts 35 = .ok (.iload_n 3, 1) := by decide +kernel
theorem dX6_puts_36 : decode cX6_puts 36 = .ok (.iastore, 1) := by decide +kernel
theorem dX6_puts_37 : decode cX6_puts 37 = .ok (.aload_n 0, 1) := by decide +kernel
theorem dX6_puts_38 : decode cX6_puts 38 = .ok (.iload 5, 2) := by decide +kernel
theorem dX6_puts_40 : decode cX6_puts 40 = .ok (.iconst 3, 1) := by decide +kernel
theorem dX6_puts_41 : decode cX6_puts 41 = .ok (.iadd, 1) := by decide +kernel
theorem dX6_puts_42 : decode cX6_puts 42 = .ok (.iload 4, 2) := by decide +kernel
theorem dX6_puts_44 : decode cX6_puts 44 = .ok (.iastore, 1) := by decide +kernel
theorem dX6_puts_45 : decode cX6_puts 45 = .ok (.aload_n 0, 1) := by decide +kernel
theorem dX6_puts_46 : decode cX6_puts 46 = .ok (.bipush 40, 2) := by decide +kernel
theorem dX6_puts_48 : decode cX6_puts 48 = .ok (.aload_n 0, 1) := by decide +kernel
theorem dX6_puts_49 : decode cX6_puts 49 = .ok (.iconst 2, 1) := by decide +kernel
theorem dX6_puts_50 : decode cX6_puts 50 = .ok (.iaload, 1) := by decide +kernel
theorem dX6_puts_51 : decode cX6_puts 51 = .ok (.iadd, 1) := by decide +kernel
theorem dX6_puts_52 : decode cX6_puts 52 = .ok (.iconst (-1), 1) := by decide +kernel
theorem dX6_puts_53 : decode cX6_puts 53 = .ok (.iastore, 1) := by decide +kernel
theorem dX6_puts_54 : decode cX6_puts 54 = .ok (.aload_n 0, 1) := by decide +kernel
theorem dX6_puts_55 : decode cX6_puts 55 = .ok (.iconst 2, 1) := by decide +kernel
theorem dX6_puts_56 : decode cX6_puts 56 = .ok (.dup2, 1) := by decide +kernel
theorem dX6_puts_57 : decode cX6_puts 57 = .ok (.iaload, 1) := by decide +kernel
theorem dX6_puts_58 : decode cX6_puts 58 = .ok (.iconst 1, 1) := by decide +kernel
theorem dX6_puts_59 : decode cX6_puts 59 = .ok (.iadd, 1) := by decide +kernel
theorem dX6_puts_60 : decode cX6_puts 60 = .ok (.iastore, 1) := by decide +kernel
theorem dX6_puts_61 : decode cX6_puts 61 = .ok (.return_, 1) := by decide +kernel
theorem dX6_in_0 : decode cX6_in 0 = .ok (.iload_n 0, 1) := by decide +kernel
theorem dX6_in_1 : decode cX6_in 1 = .ok (.iload_n 1, 1) := by decide +kernel
theorem dX6_in_2 : decode cX6_in 2 = .ok (.if_icmp .lt 12, 3) := by decide +kernel
theorem dX6_in_5 : decode cX6_in 5 = .ok (.iload_n 0, 1) := by decide +kernel
theorem dX6_in_6 : decode cX6_in 6 = .ok (.iload_n 2, 1) := by decide +kernel
theorem dX6_in_7 : decode cX6_in 7 = .ok (.if_icmp .gt 7, 3) := by decide +kernel
theorem dX6_in_10 : decode cX6_in 10 = .ok (.iconst 1, 1) := by decide +kernel
theorem dX6_in_11 : decode cX6_in 11 = .ok (.goto 4, 3) := by decide +kernel
theorem dX6_in_14 : decode cX6_in 14 = .ok (.iconst 0, 1) := by decide +kernel
theorem dX6_in_15 : decode cX6_in 15 = .ok (.ireturn, 1) := by decide +kernel
theorem dX6_has_0 : decode cX6_has 0 = .ok (.iload_n 0, 1) := by decide +kernel
theorem dX6_has_1 : decode cX6_has 1 = .ok (.iload_n 1, 1) := by decide +kernel
theorem dX6_has_2 : decode cX6_has 2 = .ok (.ishr, 1) := by decide +kernel
theorem dX6_has_3 : decode cX6_has 3 = .ok (.iconst 1, 1) := by decide +kernel
theorem dX6_has_4 : decode cX6_has 4 = .ok (.iand, 1) := by decide +kernel
theorem dX6_has_5 : decode cX6_has 5 = .ok (.iconst 1, 1) := by decide +kernel
theorem dX6_has_6 : decode cX6_has 6 = .ok (.if_icmp .ne 7, 3) := by decide +kernel
theorem dX6_has_9 : decode cX6_has 9 = .ok (.iconst 1, 1) := by decide +kernel
theorem dX6_has_10 : decode cX6_has 10 = .ok (.goto 4, 3) := by decide +kernel
theorem dX6_has_13 : decode cX6_has 13 = .ok (.iconst 0, 1) := by decide +kernel
theorem dX6_has_14 : decode cX6_has 14 = .ok (.ireturn, 1) := by decide +kernel
theorem dX6_bits_0 : decode cX6_bits 0 = .ok (.iconst 0, 1) := by decide +kernel
theorem dX6_bits_1 : decode cX6_bits 1 = .ok (.istore_n 1, 1) := by decide +kernel
theorem dX6_bits_2 : decode cX6_bits 2 = .ok (.iconst 0, 1) := by decide +kernel
theorem dX6_bits_3 : decode cX6_bits 3 = .ok (.istore_n 2, 1) := by decide +kernel
theorem dX6_bits_4 : decode cX6_bits 4 = .ok (.iload_n 2, 1) := by decide +kernel
theorem dX6_bits_5 : decode cX6_bits 5 = .ok (.bipush 9, 2) := by decide +kernel
theorem dX6_bits_7 : decode cX6_bits 7 = .ok (.if_icmp .ge 17, 3) := by decide +kernel
theorem dX6_bits_10 : decode cX6_bits 10 = .ok (.iload_n 1, 1) := by decide +kernel
theorem dX6_bits_11 : decode cX6_bits 11 = .ok (.iload_n 0, 1) := by decide +kernel
theorem dX6_bits_12 : decode cX6_bits 12 = .ok (.iload_n 2, 1) := by decide +kernel
theorem dX6_bits_13 : decode cX6_bits 13 = .ok (.ishr, 1) := by decide +kernel
theorem dX6_bits_14 : decode cX6_bits 14 = .ok (.iconst 1, 1) := by decide +kernel
theorem dX6_bits_15 : decode cX6_bits 15 = .ok (.iand, 1) := by decide +kernel
theorem dX6_bits_16 : decode cX6_bits 16 = .ok (.iadd, 1) := by decide +kernel
theorem dX6_bits_17 : decode cX6_bits 17 = .ok (.istore_n 1, 1) := by decide +kernel
theorem dX6_bits_18 : decode cX6_bits 18 = .ok (.iinc 2 1, 3) := by decide +kernel
theorem dX6_bits_21 : decode cX6_bits 21 = .ok (.goto (-17), 3) := by decide +kernel
theorem dX6_bits_24 : decode cX6_bits 24 = .ok (.iload_n 1, 1) := by decide +kernel
theorem dX6_bits_25 : decode cX6_bits 25 = .ok (.ireturn, 1) := by decide +kernel
set_option maxRecDepth 20000 in
theorem ggX6_isSaying_X6_in : GoodIn wsX6_isSaying wsX6_in := goodIn_r _ [5] (by decide +kernel) (by decide +kernel)
set_option maxRecDepth 20000 in
theorem gX6_isSaying_X6_in : GoodIn wsX6_isSaying (va_wsS RX6 64 yX6_in wsX6_in) := goodIn_app (goodIn_of _ (by decide +kernel)) ggX6_isSaying_X6_in
theorem dX6_isSaying_0 : decode cX6_isSaying 0 = .ok (.iload_n 1, 1) := by decide +kernel
theorem dX6_isSaying_1 : decode cX6_isSaying 1 = .ok (.iconst 0, 1) := by decide +kernel
theorem dX6_isSaying_2 : decode cX6_isSaying 2 = .ok (.aload_n 0, 1) := by decide +kernel
theorem dX6_isSaying_3 : decode cX6_isSaying 3 = .ok (.getfield 7, 3) := by decide +kernel
theorem dX6_isSaying_6 : decode cX6_isSaying 6 = .ok (.iconst 2, 1) := by decide +kernel
theorem dX6_isSaying_7 : decode cX6_isSaying 7 = .ok (.iaload, 1) := by decide +kernel
theorem dX6_isSaying_8 : decode cX6_isSaying 8 = .ok (.iconst 1, 1) := by decide +kernel
theorem dX6_isSaying_9 : decode cX6_isSaying 9 = .ok (.isub, 1) := by decide +kernel
theorem dX6_isSaying_10 : decode cX6_isSaying 10 = .ok (.invokestatic 64, 3) := by decide +kernel
theorem dX6_isSaying_13 : decode cX6_isSaying 13 = .ok (.ireturn, 1) := by decide +kernel
set_option maxRecDepth 20000 in
theorem ggX6_isFact_X6_in : GoodIn wsX6_isFact wsX6_in := goodIn_r _ [4] (by decide +kernel) (by decide +kernel)
set_option maxRecDepth 20000 in
theorem gX6_isFact_X6_in : GoodIn wsX6_isFact (va_wsS RX6 64 yX6_in wsX6_in) := goodIn_app (goodIn_of _ (by decide +kernel)) ggX6_isFact_X6_in
theorem dX6_isFact_0 : decode cX6_isFact 0 = .ok (.iload_n 0, 1) := by decide +kernel
theorem dX6_isFact_1 : decode cX6_isFact 1 = .ok (.iconst 0, 1) := by decide +kernel
theorem dX6_isFact_2 : decode cX6_isFact 2 = .ok (.iconst 5, 1) := by decide +kernel
theorem dX6_isFact_3 : decode cX6_isFact 3 = .ok (.invokestatic 64, 3) := by decide +kernel
theorem dX6_isFact_6 : decode cX6_isFact 6 = .ok (.ireturn, 1) := by decide +kernel
set_option maxRecDepth 20000 in
theorem ggX6_write_X6_in : GoodIn wsX6_write wsX6_in := goodIn_r _ [6] (by decide +kernel) (by decide +kernel)
set_option maxRecDepth 20000 in
theorem gX6_write_X6_in : GoodIn wsX6_write (va_wsS RX6 64 yX6_in wsX6_in) := goodIn_app (goodIn_of _ (by decide +kernel)) ggX6_write_X6_in
theorem dX6_write_0 : decode cX6_write 0 = .ok (.iload_n 1, 1) := by decide +kernel
theorem dX6_write_1 : decode cX6_write 1 = .ok (.bipush 32, 2) := by decide +kernel
theorem dX6_write_3 : decode cX6_write 3 = .ok (.bipush 126, 2) := by decide +kernel
theorem dX6_write_5 : decode cX6_write 5 = .ok (.invokestatic 64, 3) := by decide +kernel
theorem dX6_write_8 : decode cX6_write 8 = .ok (.ifCond .ne 5, 3) := by decide +kernel
theorem dX6_write_11 : decode cX6_write 11 = .ok (.iconst (-1), 1) := by decide +kernel
theorem dX6_write_12 : decode cX6_write 12 = .ok (.ireturn, 1) := by decide +kernel
theorem dX6_write_13 : decode cX6_write 13 = .ok (.aload_n 0, 1) := by decide +kernel
theorem dX6_write_14 : decode cX6_write 14 = .ok (.getfield 68, 3) := by decide +kernel
theorem dX6_write_17 : decode cX6_write 17 = .ok (.sipush 200, 3) := by decide +kernel
theorem dX6_write_20 : decode cX6_write 20 = .ok (.if_icmp .ne 6, 3) := by decide +kernel
theorem dX6_write_23 : decode cX6_write 23 = .ok (.bipush (-3), 2) := by decide +kernel
theorem dX6_write_25 : decode cX6_write 25 = .ok (.ireturn, 1) := by decide +kernel
theorem dX6_write_26 : decode cX6_write 26 = .ok (.aload_n 0, 1) := by decide +kernel
theorem dX6_write_27 : decode cX6_write 27 = .ok (.getfield 22, 3) := by decide +kernel
theorem dX6_write_30 : decode cX6_write 30 = .ok (.aload_n 0, 1) := by decide +kernel
theorem dX6_write_31 : decode cX6_write 31 = .ok (.getfield 68, 3) := by decide +kernel
theorem dX6_write_34 : decode cX6_write 34 = .ok (.iload_n 1, 1) := by decide +kernel
theorem dX6_write_35 : decode cX6_write 35 = .ok (.iastore, 1) := by decide +kernel
theorem dX6_write_36 : decode cX6_write 36 = .ok (.aload_n 0, 1) := by decide +kernel
theorem dX6_write_37 : decode cX6_write 37 = .ok (.dup, 1) := by decide +kernel
theorem dX6_write_38 : decode cX6_write 38 = .ok (.getfield 68, 3) := by decide +kernel
theorem dX6_write_41 : decode cX6_write 41 = .ok (.iconst 1, 1) := by decide +kernel
theorem dX6_write_42 : decode cX6_write 42 = .ok (.iadd, 1) := by decide +kernel
theorem dX6_write_43 : decode cX6_write 43 = .ok (.putfield 68, 3) := by decide +kernel
theorem dX6_write_46 : decode cX6_write 46 = .ok (.aload_n 0, 1) := by decide +kernel
theorem dX6_write_47 : decode cX6_write 47 = .ok (.getfield 68, 3) := by decide +kernel
theorem dX6_write_50 : decode cX6_write 50 = .ok (.ireturn, 1) := by decide +kernel
theorem dX6_wipe_0 : decode cX6_wipe 0 = .ok (.aload_n 0, 1) := by decide +kernel
theorem dX6_wipe_1 : decode cX6_wipe 1 = .ok (.getfield 68, 3) := by decide +kernel
theorem dX6_wipe_4 : decode cX6_wipe 4 = .ok (.istore_n 1, 1) := by decide +kernel
theorem dX6_wipe_5 : decode cX6_wipe 5 = .ok (.aload_n 0, 1) := by decide +kernel
theorem dX6_wipe_6 : decode cX6_wipe 6 = .ok (.iconst 0, 1) := by decide +kernel
theorem dX6_wipe_7 : decode cX6_wipe 7 = .ok (.putfield 68, 3) := by decide +kernel
theorem dX6_wipe_10 : decode cX6_wipe 10 = .ok (.iload_n 1, 1) := by decide +kernel
theorem dX6_wipe_11 : decode cX6_wipe 11 = .ok (.ireturn, 1) := by decide +kernel
theorem dX6_letterAt_0 : decode cX6_letterAt 0 = .ok (.iload_n 1, 1) := by decide +kernel
theorem dX6_letterAt_1 : decode cX6_letterAt 1 = .ok (.aload_n 0, 1) := by decide +kernel
theorem dX6_letterAt_2 : decode cX6_letterAt 2 = .ok (.getfield 68, 3) := by decide +kernel
theorem dX6_letterAt_5 : decode cX6_letterAt 5 = .ok (.if_icmp .ge 12, 3) := by decide +kernel
theorem dX6_letterAt_8 : decode cX6_letterAt 8 = .ok (.aload_n 0, 1) := by decide +kernel
theorem dX6_letterAt_9 : decode cX6_letterAt 9 = .ok (.getfield 22, 3) := by decide +kernel
theorem dX6_letterAt_12 : decode cX6_letterAt 12 = .ok (.iload_n 1, 1) := by decide +kernel
theorem dX6_letterAt_13 : decode cX6_letterAt 13 = .ok (.iaload, 1) := by decide +kernel
theorem dX6_letterAt_14 : decode cX6_letterAt 14 = .ok (.goto 4, 3) := by decide +kernel
theorem dX6_letterAt_17 : decode cX6_letterAt 17 = .ok (.iconst (-1), 1) := by decide +kernel
theorem dX6_letterAt_18 : decode cX6_letterAt 18 = .ok (.ireturn, 1) := by decide +kernel
set_option maxRecDepth 20000 in
theorem ggX6_isFigure_X6_in : GoodIn wsX6_isFigure wsX6_in := goodIn_r _ [4] (by decide +kernel) (by decide +kernel)
set_option maxRecDepth 20000 in
theorem gX6_isFigure_X6_in : GoodIn wsX6_isFigure (va_wsS RX6 64 yX6_in wsX6_in) := goodIn_app (goodIn_of _ (by decide +kernel)) ggX6_isFigure_X6_in
theorem dX6_isFigure_0 : decode cX6_isFigure 0 = .ok (.iload_n 0, 1) := by decide +kernel
theorem dX6_isFigure_1 : decode cX6_isFigure 1 = .ok (.bipush 48, 2) := by decide +kernel
theorem dX6_isFigure_3 : decode cX6_isFigure 3 = .ok (.bipush 57, 2) := by decide +kernel
theorem dX6_isFigure_5 : decode cX6_isFigure 5 = .ok (.invokestatic 64, 3) := by decide +kernel
theorem dX6_isFigure_8 : decode cX6_isFigure 8 = .ok (.ireturn, 1) := by decide +kernel
set_option maxRecDepth 20000 in
theorem ggX6_readNumbers_X6_letterAt : GoodIn wsX6_readNumbers wsX6_letterAt := goodIn_r _ [7, 8, 9, 16, 17, 18, 19, 20, 21, 22, 23, 24, 25, 26, 27, 28, 29, 30, 31, 32, 33, 34, 35, 36] (by decide +kernel) (by decide +kernel)
set_option maxRecDepth 20000 in
theorem gX6_readNumbers_X6_letterAt : GoodIn wsX6_readNumbers (wsV RX6 74 RX6 yX6_letterAt wsX6_letterAt) := goodIn_app (goodIn_of _ (by decide +kernel)) ggX6_readNumbers_X6_letterAt
set_option maxRecDepth 20000 in
theorem ggX6_readNumbers_X6_isFigure : GoodIn wsX6_readNumbers wsX6_isFigure := goodIn_r _ [12, 13, 14, 6, 15] (by decide +kernel) (by decide +kernel)
set_option maxRecDepth 20000 in
theorem gX6_readNumbers_X6_isFigure : GoodIn wsX6_readNumbers (va_wsS RX6 78 yX6_isFigure wsX6_isFigure) := goodIn_app (goodIn_of _ (by decide +kernel)) ggX6_readNumbers_X6_isFigure
theorem dX6_readNumbers_0 : decode cX6_readNumbers 0 = .ok (.iconst 0, 1) := by decide +kernel
theorem dX6_readNumbers_1 : decode cX6_readNumbers 1 = .ok (.istore_n 2, 1) := by decide +kernel
theorem dX6_readNumbers_2 : decode cX6_readNumbers 2 = .ok (.iload_n 2, 1) := by decide +kernel
theorem dX6_readNumbers_3 : decode cX6_readNumbers 3 = .ok (.iload_n 1, 1) := by decide +kernel
theorem dX6_readNumbers_4 : decode cX6_readNumbers 4 = .ok (.if_icmp .ge 140, 3) := by decide +kernel
theorem dX6_readNumbers_7 : decode cX6_readNumbers 7 = .ok (.aload_n 0, 1) := by decide +kernel
theorem dX6_readNumbers_8 : decode cX6_readNumbers 8 = .ok (.aload_n 0, 1) := by decide +kernel
theorem dX6_readNumbers_9 : decode cX6_readNumbers 9 = .ok (.getfield 71, 3) := by decide +kernel
theorem dX6_readNumbers_12 : decode cX6_readNumbers 12 = .ok (.invokevirtual 74, 3) := by decide +kernel
theorem dX6_readNumbers_15 : decode cX6_readNumbers 15 = .ok (.invokestatic 78, 3) := by decide +kernel
theorem dX6_readNumbers_18 : decode cX6_readNumbers 18 = .ok (.ifCond .ne 5, 3) := by decide +kernel
theorem dX6_readNumbers_21 : decode cX6_readNumbers 21 = .ok (.iconst 0, 1) := by decide +kernel
theorem dX6_readNumbers_22 : decode cX6_readNumbers 22 = .ok (.ireturn, 1) := by decide +kernel
theorem dX6_readNumbers_23 : decode cX6_readNumbers 23 = .ok (.aload_n 0, 1) := by decide +kernel
theorem dX6_readNumbers_24 : decode cX6_readNumbers 24 = .ok (.getfield 25, 3) := by decide +kernel
theorem dX6_readNumbers_27 : decode cX6_readNumbers 27 = .ok (.iload_n 2, 1) := by decide +kernel
theorem dX6_readNumbers_28 : decode cX6_readNumbers 28 = .ok (.aload_n 0, 1) := by decide +kernel
theorem dX6_readNumbers_29 : decode cX6_readNumbers 29 = .ok (.aload_n 0, 1) := by decide +kernel
theorem dX6_readNumbers_30 : decode cX6_readNumbers 30 = .ok (.getfield 71, 3) := by decide +kernel
theorem dX6_readNumbers_33 : decode cX6_readNumbers 33 = .ok (.invokevirtual 74, 3) := by decide +kernel
theorem dX6_readNumbers_36 : decode cX6_readNumbers 36 = .ok (.bipush 48, 2) := by decide +kernel
theorem dX6_readNumbers_38 : decode cX6_readNumbers 38 = .ok (.isub, 1) := by decide +kernel
theorem dX6_readNumbers_39 : decode cX6_readNumbers 39 = .ok (.iastore, 1) := by decide +kernel
theorem dX6_readNumbers_40 : decode cX6_readNumbers 40 = .ok (.aload_n 0, 1) := by decide +kernel
theorem dX6_readNumbers_41 : decode cX6_readNumbers 41 = .ok (.dup, 1) := by decide +kernel
theorem dX6_readNumbers_42 : decode cX6_readNumbers 42 = .ok (.getfield 71, 3) := by decide +kernel
theorem dX6_readNumbers_45 : decode cX6_readNumbers 45 = .ok (.iconst 1, 1) := by decide +kernel
theorem dX6_readNumbers_46 : decode cX6_readNumbers 46 = .ok (.iadd, 1) := by decide +kernel
theorem dX6_readNumbers_47 : decode cX6_readNumbers 47 = .ok (.putfield 71, 3) := by decide +kernel
theorem dX6_readNumbers_50 : decode cX6_readNumbers 50 = .ok (.aload_n 0, 1) := by decide +kernel
theorem dX6_readNumbers_51 : decode cX6_readNumbers 51 = .ok (.aload_n 0, 1) := by decide +kernel
theorem dX6_readNumbers_52 : decode cX6_readNumbers 52 = .ok (.getfield 71, 3) := by decide +kernel
theorem dX6_readNumbers_55 : decode cX6_readNumbers 55 = .ok (.invokevirtual 74, 3) := by decide +kernel
theorem dX6_readNumbers_58 : decode cX6_readNumbers 58 = .ok (.invokestatic 78, 3) := by decide +kernel
theorem dX6_readNumbers_61 : decode cX6_readNumbers 61 = .ok (.ifCond .eq 40, 3) := by decide +kernel
theorem dX6_readNumbers_64 : decode cX6_readNumbers 64 = .ok (.aload_n 0, 1) := by decide +kernel
theorem dX6_readNumbers_65 : decode cX6_readNumbers 65 = .ok (.getfield 25, 3) := by decide +kernel
theorem dX6_readNumbers_68 : decode cX6_readNumbers 68 = .ok (.iload_n 2, 1) := by decide +kernel
theorem dX6_readNumbers_69 : decode cX6_readNumbers 69 = .ok (.bipush 10, 2) := by decide +kernel
theorem dX6_readNumbers_71 : decode cX6_readNumbers 71 = .ok (.aload_n 0, 1) := by decide +kernel
theorem dX6_readNumbers_72 : decode cX6_readNumbers 72 = .ok (.getfield 25, 3) := by decide +kernel
theorem dX6_readNumbers_75 : decode cX6_readNumbers 75 = .ok (.iload_n 2, 1) := by decide +kernel
theorem dX6_readNumbers_76 : decode cX6_readNumbers 76 = .ok (.iaload, 1) := by decide +kernel
theorem dX6_readNumbers_77 : decode cX6_readNumbers 77 = .ok (.imul, 1) := by decide +kernel
theorem dX6_readNumbers_78 : decode cX6_readNumbers 78 = .ok (.aload_n 0, 1) := by decide +kernel
theorem dX6_readNumbers_79 : decode cX6_readNumbers 79 = .ok (.aload_n 0, 1) := by decide +kernel
theorem dX6_readNumbers_80 : decode cX6_readNumbers 80 = .ok (.getfield 71, 3) := by decide +kernel
theorem dX6_readNumbers_83 : decode cX6_readNumbers 83 = .ok (.invokevirtual 74, 3) := by decide +kernel
theorem dX6_readNumbers_86 : decode cX6_readNumbers 86 = .ok (.iadd, 1) := by decide +kernel
theorem dX6_readNumbers_87 : decode cX6_readNumbers 87 = .ok (.bipush 48, 2) := by decide +kernel
theorem dX6_readNumbers_89 : decode cX6_readNumbers 89 = .ok (.isub, 1) := by decide +kernel
theorem dX6_readNumbers_90 : decode cX6_readNumbers 90 = .ok (.iastore, 1) := by decide +kernel
theorem dX6_readNumbers_91 : decode cX6_readNumbers 91 = .ok (.aload_n 0, 1) := by decide +kernel
theorem dX6_readNumbers_92 : decode cX6_readNumbers 92 = .ok (.dup, 1) := by decide +kernel
theorem dX6_readNumbers_93 : decode cX6_readNumbers 93 = .ok (.getfield 71, 3) := by decide +kernel
theorem dX6_readNumbers_96 : decode cX6_readNumbers 96 = .ok (.iconst 1, 1) := by decide +kernel
theorem dX6_readNumbers_97 : decode cX6_readNumbers 97 = .ok (.iadd, 1) := by decide +kernel
theorem dX6_readNumbers_98 : decode cX6_readNumbers 98 = .ok (.putfield 71, 3) := by decide +kernel
theorem dX6_readNumbers_101 : decode cX6_readNumbers 101 = .ok (.aload_n 0, 1) := by decide +kernel
theorem dX6_readNumbers_102 : decode cX6_readNumbers 102 = .ok (.aload_n 0, 1) := by decide +kernel
theorem dX6_readNumbers_103 : decode cX6_readNumbers 103 = .ok (.getfield 71, 3) := by decide +kernel
theorem dX6_readNumbers_106 : decode cX6_readNumbers 106 = .ok (.invokevirtual 74, 3) := by decide +kernel
theorem dX6_readNumbers_109 : decode cX6_readNumbers 109 = .ok (.iload_n 2, 1) := by decide +kernel
theorem dX6_readNumbers_110 : decode cX6_readNumbers 110 = .ok (.iload_n 1, 1) := by decide +kernel
theorem dX6_readNumbers_111 : decode cX6_readNumbers 111 = .ok (.iconst 1, 1) := by decide +kernel
theorem dX6_readNumbers_112 : decode cX6_readNumbers 112 = .ok (.isub, 1) := by decide +kernel
theorem dX6_readNumbers_113 : decode cX6_readNumbers 113 = .ok (.if_icmp .ge 8, 3) := by decide +kernel
theorem dX6_readNumbers_116 : decode cX6_readNumbers 116 = .ok (.bipush 44, 2) := by decide +kernel
theorem dX6_readNumbers_118 : decode cX6_readNumbers 118 = .ok (.goto 5, 3) := by decide +kernel
theorem dX6_readNumbers_121 : decode cX6_readNumbers 121 = .ok (.bipush 59, 2) := by decide +kernel
theorem dX6_readNumbers_123 : decode cX6_readNumbers 123 = .ok (.if_icmp .eq 5, 3) := by decide +kernel
theorem dX6_readNumbers_126 : decode cX6_readNumbers 126 = .ok (.iconst 0, 1) := by decide +kernel
theorem dX6_readNumbers_127 : decode cX6_readNumbers 127 = .ok (.ireturn, 1) := by decide +kernel
theorem dX6_readNumbers_128 : decode cX6_readNumbers 128 = .ok (.aload_n 0, 1) := by decide +kernel
theorem dX6_readNumbers_129 : decode cX6_readNumbers 129 = .ok (.dup, 1) := by decide +kernel
theorem dX6_readNumbers_130 : decode cX6_readNumbers 130 = .ok (.getfield 71, 3) := by decide +kernel
theorem dX6_readNumbers_133 : decode cX6_readNumbers 133 = .ok (.iconst 1, 1) := by decide +kernel
theorem dX6_readNumbers_134 : decode cX6_readNumbers 134 = .ok (.iadd, 1) := by decide +kernel
theorem dX6_readNumbers_135 : decode cX6_readNumbers 135 = .ok (.putfield 71, 3) := by decide +kernel
theorem dX6_readNumbers_138 : decode cX6_readNumbers 138 = .ok (.iinc 2 1, 3) := by decide +kernel
theorem dX6_readNumbers_141 : decode cX6_readNumbers 141 = .ok (.goto (-139), 3) := by decide +kernel
theorem dX6_readNumbers_144 : decode cX6_readNumbers 144 = .ok (.iconst 1, 1) := by decide +kernel
theorem dX6_readNumbers_145 : decode cX6_readNumbers 145 = .ok (.ireturn, 1) := by decide +kernel
set_option maxRecDepth 20000 in
theorem ggX6_isTold_X6_in : GoodIn wsX6_isTold wsX6_in := goodIn_r _ [5] (by decide +kernel) (by decide +kernel)
set_option maxRecDepth 20000 in
theorem gX6_isTold_X6_in : GoodIn wsX6_isTold (va_wsS RX6 64 yX6_in wsX6_in) := goodIn_app (goodIn_of _ (by decide +kernel)) ggX6_isTold_X6_in
theorem dX6_isTold_0 : decode cX6_isTold 0 = .ok (.aload_n 0, 1) := by decide +kernel
theorem dX6_isTold_1 : decode cX6_isTold 1 = .ok (.getfield 25, 3) := by decide +kernel
theorem dX6_isTold_4 : decode cX6_isTold 4 = .ok (.iload_n 1, 1) := by decide +kernel
theorem dX6_isTold_5 : decode cX6_isTold 5 = .ok (.iaload, 1) := by decide +kernel
theorem dX6_isTold_6 : decode cX6_isTold 6 = .ok (.iload_n 2, 1) := by decide +kernel
theorem dX6_isTold_7 : decode cX6_isTold 7 = .ok (.iload_n 3, 1) := by decide +kernel
theorem dX6_isTold_8 : decode cX6_isTold 8 = .ok (.invokestatic 64, 3) := by decide +kernel
theorem dX6_isTold_11 : decode cX6_isTold 11 = .ok (.ireturn, 1) := by decide +kernel
theorem dX6_clearTold_0 : decode cX6_clearTold 0 = .ok (.iconst 0, 1) := by decide +kernel
theorem dX6_clearTold_1 : decode cX6_clearTold 1 = .ok (.istore_n 1, 1) := by decide +kernel
theorem dX6_clearTold_2 : decode cX6_clearTold 2 = .ok (.iload_n 1, 1) := by decide +kernel
theorem dX6_clearTold_3 : decode cX6_clearTold 3 = .ok (.bipush 49, 2) := by decide +kernel
theorem dX6_clearTold_5 : decode cX6_clearTold 5 = .ok (.if_icmp .ge 16, 3) := by decide +kernel
theorem dX6_clearTold_8 : decode cX6_clearTold 8 = .ok (.aload_n 0, 1) := by decide +kernel
theorem dX6_clearTold_9 : decode cX6_clearTold 9 = .ok (.getfield 28, 3) := by decide +kernel
theorem dX6_clearTold_12 : decode cX6_clearTold 12 = .ok (.iload_n 1, 1) := by decide +kernel
theorem dX6_clearTold_13 : decode cX6_clearTold 13 = .ok (.iconst 0, 1) := by decide +kernel
theorem dX6_clearTold_14 : decode cX6_clearTold 14 = .ok (.iastore, 1) := by decide +kernel
theorem dX6_clearTold_15 : decode cX6_clearTold 15 = .ok (.iinc 1 1, 3) := by decide +kernel
theorem dX6_clearTold_18 : decode cX6_clearTold 18 = .ok (.goto (-16), 3) := by decide +kernel
theorem dX6_clearTold_21 : decode cX6_clearTold 21 = .ok (.aload_n 0, 1) := by decide +kernel
theorem dX6_clearTold_22 : decode cX6_clearTold 22 = .ok (.iconst 5, 1) := by decide +kernel
theorem dX6_clearTold_23 : decode cX6_clearTold 23 = .ok (.putfield 53, 3) := by decide +kernel
theorem dX6_clearTold_26 : decode cX6_clearTold 26 = .ok (.return_, 1) := by decide +kernel
set_option maxRecDepth 20000 in
theorem ggX6_readFactOf_X6_readNumbers : GoodIn wsX6_readFactOf wsX6_readNumbers := goodIn_r _ [7, 8, 2, 9, 10, 11, 6, 12, 13, 14, 15, 16, 17, 18, 19, 20, 25, 26, 27, 28, 29, 30, 31, 32, 33, 34, 35, 36, 37, 38, 39, 40, 41, 42, 43, 44, 45] (by decide +kernel) (by decide +kernel)
set_option maxRecDepth 20000 in
theorem gX6_readFactOf_X6_readNumbers : GoodIn wsX6_readFactOf (wsV RX6 82 RX6 yX6_readNumbers wsX6_readNumbers) := goodIn_app (goodIn_of _ (by decide +kernel)) ggX6_readFactOf_X6_readNumbers
set_option maxRecDepth 20000 in
theorem ggX6_readFactOf_X6_isTold : GoodIn wsX6_readFactOf wsX6_isTold := goodIn_r _ [24, 2, 18, 19, 6, 20, 25, 26, 27, 28, 29, 30, 31, 32, 33, 34, 35, 36, 37, 38, 39, 40, 41, 42, 43, 44, 45] (by decide +kernel) (by decide +kernel)
set_option maxRecDepth 20000 in
theorem gX6_readFactOf_X6_isTold : GoodIn wsX6_readFactOf (wsV RX6 85 RX6 yX6_isTold wsX6_isTold) := goodIn_app (goodIn_of _ (by decide +kernel)) ggX6_readFactOf_X6_isTold
theorem dX6_readFactOf_0 : decode cX6_readFactOf 0 = .ok (.aload_n 0, 1) := by decide +kernel
theorem dX6_readFactOf_1 : decode cX6_readFactOf 1 = .ok (.iconst 1, 1) := by decide +kernel
theorem dX6_readFactOf_2 : decode cX6_readFactOf 2 = .ok (.invokevirtual 82, 3) := by decide +kernel
theorem dX6_readFactOf_5 : decode cX6_readFactOf 5 = .ok (.ifCond .eq 13, 3) := by decide +kernel
theorem dX6_readFactOf_8 : decode cX6_readFactOf 8 = .ok (.aload_n 0, 1) := by decide +kernel
theorem dX6_readFactOf_9 : decode cX6_readFactOf 9 = .ok (.iconst 0, 1) := by decide +kernel
theorem dX6_readFactOf_10 : decode cX6_readFactOf 10 = .ok (.iconst 0, 1) := by decide +kernel
theorem dX6_readFactOf_11 : decode cX6_readFactOf 11 = .ok (.iconst 5, 1) := by decide +kernel
theorem dX6_readFactOf_12 : decode cX6_readFactOf 12 = .ok (.invokevirtual 85, 3) := by decide +kernel
theorem dX6_readFactOf_15 : decode cX6_readFactOf 15 = .ok (.ifCond .ne 5, 3) := by decide +kernel
theorem dX6_readFactOf_18 : decode cX6_readFactOf 18 = .ok (.iconst 0, 1) := by decide +kernel
theorem dX6_readFactOf_19 : decode cX6_readFactOf 19 = .ok (.ireturn, 1) := by decide +kernel
theorem dX6_readFactOf_20 : decode cX6_readFactOf 20 = .ok (.aload_n 0, 1) := by decide +kernel
theorem dX6_readFactOf_21 : decode cX6_readFactOf 21 = .ok (.getfield 28, 3) := by decide +kernel
theorem dX6_readFactOf_24 : decode cX6_readFactOf 24 = .ok (.iconst 0, 1) := by decide +kernel
theorem dX6_readFactOf_25 : decode cX6_readFactOf 25 = .ok (.dup2, 1) := by decide +kernel
theorem dX6_readFactOf_26 : decode cX6_readFactOf 26 = .ok (.iaload, 1) := by decide +kernel
theorem dX6_readFactOf_27 : decode cX6_readFactOf 27 = .ok (.iconst 1, 1) := by decide +kernel
theorem dX6_readFactOf_28 : decode cX6_readFactOf 28 = .ok (.aload_n 0, 1) := by decide +kernel
theorem dX6_readFactOf_29 : decode cX6_readFactOf 29 = .ok (.getfield 25, 3) := by decide +kernel
theorem dX6_readFactOf_32 : decode cX6_readFactOf 32 = .ok (.iconst 0, 1) := by decide +kernel
theorem dX6_readFactOf_33 : decode cX6_readFactOf 33 = .ok (.iaload, 1) := by decide +kernel
theorem dX6_readFactOf_34 : decode cX6_readFactOf 34 = .ok (.ishl, 1) := by decide +kernel
theorem dX6_readFactOf_35 : decode cX6_readFactOf 35 = .ok (.ixor, 1) := by decide +kernel
theorem dX6_readFactOf_36 : decode cX6_readFactOf 36 = .ok (.iastore, 1) := by decide +kernel
theorem dX6_readFactOf_37 : decode cX6_readFactOf 37 = .ok (.iconst 1, 1) := by decide +kernel
theorem dX6_readFactOf_38 : decode cX6_readFactOf 38 = .ok (.ireturn, 1) := by decide +kernel
set_option maxRecDepth 20000 in
theorem ggX6_readSayingOf_X6_readNumbers : GoodIn wsX6_readSayingOf wsX6_readNumbers := goodIn_r _ [7, 8, 2, 9, 10, 11, 6, 12, 13, 14, 15, 16, 17, 18, 19, 20, 32, 33, 34, 35, 36, 37, 38, 39, 40, 41, 42, 43, 44, 45, 46, 47, 48, 49, 50, 51, 52] (by decide +kernel) (by decide +kernel)
set_option maxRecDepth 20000 in
theorem gX6_readSayingOf_X6_readNumbers : GoodIn wsX6_readSayingOf (wsV RX6 82 RX6 yX6_readNumbers wsX6_readNumbers) := goodIn_app (goodIn_of _ (by decide +kernel)) ggX6_readSayingOf_X6_readNumbers
set_option maxRecDepth 20000 in
theorem ggX6_readSayingOf_X6_isTold : GoodIn wsX6_readSayingOf wsX6_isTold := goodIn_r _ [24, 2, 18, 19, 6, 20, 32, 33, 34, 35, 36, 37, 38, 39, 40, 41, 42, 43, 44, 45, 46, 47, 48, 49, 50, 51, 52] (by decide +kernel) (by decide +kernel)
set_option maxRecDepth 20000 in
theorem gX6_readSayingOf_X6_isTold : GoodIn wsX6_readSayingOf (wsV RX6 85 RX6 yX6_isTold wsX6_isTold) := goodIn_app (goodIn_of _ (by decide +kernel)) ggX6_readSayingOf_X6_isTold
set_option maxRecDepth 20000 in
theorem ggX6_readSayingOf_X6_tellsSaying : GoodIn wsX6_readSayingOf wsX6_tellsSaying := goodIn_r _ [28, 1, 29, 30, 6, 31, 32, 33, 34, 35, 36, 37, 38, 39, 40, 41, 42, 43, 44, 45, 46, 47, 48, 49, 50, 51, 52] (by decide +kernel) (by decide +kernel)
set_option maxRecDepth 20000 in
theorem gX6_readSayingOf_X6_tellsSaying : GoodIn wsX6_readSayingOf (wsV RX6 49 RX6 yX6_tellsSaying wsX6_tellsSaying) := goodIn_app (goodIn_of _ (by decide +kernel)) ggX6_readSayingOf_X6_tellsSaying
theorem dX6_readSayingOf_0 : decode cX6_readSayingOf 0 = .ok (.aload_n 0, 1) := by decide +kernel
theorem dX6_readSayingOf_1 : decode cX6_readSayingOf 1 = .ok (.getfield 28, 3) := by decide +kernel
theorem dX6_readSayingOf_4 : decode cX6_readSayingOf 4 = .ok (.iconst 2, 1) := by decide +kernel
theorem dX6_readSayingOf_5 : decode cX6_readSayingOf 5 = .ok (.iaload, 1) := by decide +kernel
theorem dX6_readSayingOf_6 : decode cX6_readSayingOf 6 = .ok (.bipush 9, 2) := by decide +kernel
theorem dX6_readSayingOf_8 : decode cX6_readSayingOf 8 = .ok (.if_icmp .eq 53, 3) := by decide +kernel
theorem dX6_readSayingOf_11 : decode cX6_readSayingOf 11 = .ok (.aload_n 0, 1) := by decide +kernel
theorem dX6_readSayingOf_12 : decode cX6_readSayingOf 12 = .ok (.iconst 4, 1) := by decide +kernel
theorem dX6_readSayingOf_13 : decode cX6_readSayingOf 13 = .ok (.invokevirtual 82, 3) := by decide +kernel
theorem dX6_readSayingOf_16 : decode cX6_readSayingOf 16 = .ok (.ifCond .eq 45, 3) := by decide +kernel
theorem dX6_readSayingOf_19 : decode cX6_readSayingOf 19 = .ok (.aload_n 0, 1) := by decide +kernel
theorem dX6_readSayingOf_20 : decode cX6_readSayingOf 20 = .ok (.iconst 0, 1) := by decide +kernel
theorem dX6_readSayingOf_21 : decode cX6_readSayingOf 21 = .ok (.iconst 0, 1) := by decide +kernel
theorem dX6_readSayingOf_22 : decode cX6_readSayingOf 22 = .ok (.iconst 4, 1) := by decide +kernel
theorem dX6_readSayingOf_23 : decode cX6_readSayingOf 23 = .ok (.invokevirtual 85, 3) := by decide +kernel
theorem dX6_readSayingOf_26 : decode cX6_readSayingOf 26 = .ok (.ifCond .eq 35, 3) := by decide +kernel
theorem dX6_readSayingOf_29 : decode cX6_readSayingOf 29 = .ok (.aload_n 0, 1) := by decide +kernel
theorem dX6_readSayingOf_30 : decode cX6_readSayingOf 30 = .ok (.iconst 1, 1) := by decide +kernel
theorem dX6_readSayingOf_31 : decode cX6_readSayingOf 31 = .ok (.iconst 0, 1) := by decide +kernel
theorem dX6_readSayingOf_32 : decode cX6_readSayingOf 32 = .ok (.bipush 11, 2) := by decide +kernel
theorem dX6_readSayingOf_34 : decode cX6_readSayingOf 34 = .ok (.invokevirtual 85, 3) := by decide +kernel
theorem dX6_readSayingOf_37 : decode cX6_readSayingOf 37 = .ok (.ifCond .eq 24, 3) := by decide +kernel
theorem dX6_readSayingOf_40 : decode cX6_readSayingOf 40 = .ok (.aload_n 0, 1) := by decide +kernel
theorem dX6_readSayingOf_41 : decode cX6_readSayingOf 41 = .ok (.iconst 2, 1) := by decide +kernel
theorem dX6_readSayingOf_42 : decode cX6_readSayingOf 42 = .ok (.iconst 0, 1) := by decide +kernel
theorem dX6_readSayingOf_43 : decode cX6_readSayingOf 43 = .ok (.bipush 11, 2) := by decide +kernel
theorem dX6_readSayingOf_45 : decode cX6_readSayingOf 45 = .ok (.invokevirtual 85, 3) := by decide +kernel
theorem dX6_readSayingOf_48 : decode cX6_readSayingOf 48 = .ok (.ifCond .eq 13, 3) := by decide +kernel
theorem dX6_readSayingOf_51 : decode cX6_readSayingOf 51 = .ok (.aload_n 0, 1) := by decide +kernel
theorem dX6_readSayingOf_52 : decode cX6_readSayingOf 52 = .ok (.iconst 3, 1) := by decide +kernel
theorem dX6_readSayingOf_53 : decode cX6_readSayingOf 53 = .ok (.iconst 0, 1) := by decide +kernel
theorem dX6_readSayingOf_54 : decode cX6_readSayingOf 54 = .ok (.iconst 5, 1) := by decide +kernel
theorem dX6_readSayingOf_55 : decode cX6_readSayingOf 55 = .ok (.invokevirtual 85, 3) := by decide +kernel
theorem dX6_readSayingOf_58 : decode cX6_readSayingOf 58 = .ok (.ifCond .ne 5, 3) := by decide +kernel
theorem dX6_readSayingOf_61 : decode cX6_readSayingOf 61 = .ok (.iconst 0, 1) := by decide +kernel
theorem dX6_readSayingOf_62 : decode cX6_readSayingOf 62 = .ok (.ireturn, 1) := by decide +kernel
theorem dX6_readSayingOf_63 : decode cX6_readSayingOf 63 = .ok (.aload_n 0, 1) := by decide +kernel
theorem dX6_readSayingOf_64 : decode cX6_readSayingOf 64 = .ok (.aload_n 0, 1) := by decide +kernel
theorem dX6_readSayingOf_65 : decode cX6_readSayingOf 65 = .ok (.getfield 25, 3) := by decide +kernel
theorem dX6_readSayingOf_68 : decode cX6_readSayingOf 68 = .ok (.iconst 0, 1) := by decide +kernel
theorem dX6_readSayingOf_69 : decode cX6_readSayingOf 69 = .ok (.iaload, 1) := by decide +kernel
theorem dX6_readSayingOf_70 : decode cX6_readSayingOf 70 = .ok (.aload_n 0, 1) := by decide +kernel
theorem dX6_readSayingOf_71 : decode cX6_readSayingOf 71 = .ok (.getfield 25, 3) := by decide +kernel
theorem dX6_readSayingOf_74 : decode cX6_readSayingOf 74 = .ok (.iconst 1, 1) := by decide +kernel
theorem dX6_readSayingOf_75 : decode cX6_readSayingOf 75 = .ok (.iaload, 1) := by decide +kernel
theorem dX6_readSayingOf_76 : decode cX6_readSayingOf 76 = .ok (.aload_n 0, 1) := by decide +kernel
theorem dX6_readSayingOf_77 : decode cX6_readSayingOf 77 = .ok (.getfield 25, 3) := by decide +kernel
theorem dX6_readSayingOf_80 : decode cX6_readSayingOf 80 = .ok (.iconst 2, 1) := by decide +kernel
theorem dX6_readSayingOf_81 : decode cX6_readSayingOf 81 = .ok (.iaload, 1) := by decide +kernel
theorem dX6_readSayingOf_82 : decode cX6_readSayingOf 82 = .ok (.aload_n 0, 1) := by decide +kernel
theorem dX6_readSayingOf_83 : decode cX6_readSayingOf 83 = .ok (.getfield 25, 3) := by decide +kernel
theorem dX6_readSayingOf_86 : decode cX6_readSayingOf 86 = .ok (.iconst 3, 1) := by decide +kernel
theorem dX6_readSayingOf_87 : decode cX6_readSayingOf 87 = .ok (.iaload, 1) := by decide +kernel
theorem dX6_readSayingOf_88 : decode cX6_readSayingOf 88 = .ok (.invokevirtual 49, 3) := by decide +kernel
theorem dX6_readSayingOf_91 : decode cX6_readSayingOf 91 = .ok (.iconst 1, 1) := by decide +kernel
theorem dX6_readSayingOf_92 : decode cX6_readSayingOf 92 = .ok (.ireturn, 1) := by decide +kernel
set_option maxRecDepth 20000 in
theorem ggX6_readTermOf_X6_readNumbers : GoodIn wsX6_readTermOf wsX6_readNumbers := goodIn_r _ [7, 8, 1, 9, 10, 11, 6, 12, 13, 14, 15, 16, 17, 18, 19, 20, 25, 26, 27, 28, 29, 30, 31, 32, 33, 34, 35, 36, 37, 38, 39, 40, 41, 42, 43, 44, 45] (by decide +kernel) (by decide +kernel)
set_option maxRecDepth 20000 in
theorem gX6_readTermOf_X6_readNumbers : GoodIn wsX6_readTermOf (wsV RX6 82 RX6 yX6_readNumbers wsX6_readNumbers) := goodIn_app (goodIn_of _ (by decide +kernel)) ggX6_readTermOf_X6_readNumbers
set_option maxRecDepth 20000 in
theorem ggX6_readTermOf_X6_isTold : GoodIn wsX6_readTermOf wsX6_isTold := goodIn_r _ [24, 1, 18, 19, 6, 20, 25, 26, 27, 28, 29, 30, 31, 32, 33, 34, 35, 36, 37, 38, 39, 40, 41, 42, 43, 44, 45] (by decide +kernel) (by decide +kernel)
set_option maxRecDepth 20000 in
theorem gX6_readTermOf_X6_isTold : GoodIn wsX6_readTermOf (wsV RX6 85 RX6 yX6_isTold wsX6_isTold) := goodIn_app (goodIn_of _ (by decide +kernel)) ggX6_readTermOf_X6_isTold
theorem dX6_readTermOf_0 : decode cX6_readTermOf 0 = .ok (.aload_n 0, 1) := by decide +kernel
theorem dX6_readTermOf_1 : decode cX6_readTermOf 1 = .ok (.iconst 1, 1) := by decide +kernel
theorem dX6_readTermOf_2 : decode cX6_readTermOf 2 = .ok (.invokevirtual 82, 3) := by decide +kernel
theorem dX6_readTermOf_5 : decode cX6_readTermOf 5 = .ok (.ifCond .eq 14, 3) := by decide +kernel
theorem dX6_readTermOf_8 : decode cX6_readTermOf 8 = .ok (.aload_n 0, 1) := by decide +kernel
theorem dX6_readTermOf_9 : decode cX6_readTermOf 9 = .ok (.iconst 0, 1) := by decide +kernel
theorem dX6_readTermOf_10 : decode cX6_readTermOf 10 = .ok (.iconst 1, 1) := by decide +kernel
theorem dX6_readTermOf_11 : decode cX6_readTermOf 11 = .ok (.bipush 20, 2) := by decide +kernel
theorem dX6_readTermOf_13 : decode cX6_readTermOf 13 = .ok (.invokevirtual 85, 3) := by decide +kernel
theorem dX6_readTermOf_16 : decode cX6_readTermOf 16 = .ok (.ifCond .ne 5, 3) := by decide +kernel
theorem dX6_readTermOf_19 : decode cX6_readTermOf 19 = .ok (.iconst 0, 1) := by decide +kernel
theorem dX6_readTermOf_20 : decode cX6_readTermOf 20 = .ok (.ireturn, 1) := by decide +kernel
theorem dX6_readTermOf_21 : decode cX6_readTermOf 21 = .ok (.aload_n 0, 1) := by decide +kernel
theorem dX6_readTermOf_22 : decode cX6_readTermOf 22 = .ok (.aload_n 0, 1) := by decide +kernel
theorem dX6_readTermOf_23 : decode cX6_readTermOf 23 = .ok (.getfield 25, 3) := by decide +kernel
theorem dX6_readTermOf_26 : decode cX6_readTermOf 26 = .ok (.iconst 0, 1) := by decide +kernel
theorem dX6_readTermOf_27 : decode cX6_readTermOf 27 = .ok (.iaload, 1) := by decide +kernel
theorem dX6_readTermOf_28 : decode cX6_readTermOf 28 = .ok (.putfield 53, 3) := by decide +kernel
theorem dX6_readTermOf_31 : decode cX6_readTermOf 31 = .ok (.iconst 1, 1) := by decide +kernel
theorem dX6_readTermOf_32 : decode cX6_readTermOf 32 = .ok (.ireturn, 1) := by decide +kernel
set_option maxRecDepth 20000 in
theorem ggX6_readItem_X6_letterAt : GoodIn wsX6_readItem wsX6_letterAt := goodIn_r _ [6, 7, 8, 45, 46, 47, 48, 49, 50, 51, 52, 53, 54, 55, 56, 57, 58, 59, 60, 61, 62, 63, 64, 65] (by decide +kernel) (by decide +kernel)
set_option maxRecDepth 20000 in
theorem gX6_readItem_X6_letterAt : GoodIn wsX6_readItem (wsV RX6 74 RX6 yX6_letterAt wsX6_letterAt) := goodIn_app (goodIn_of _ (by decide +kernel)) ggX6_readItem_X6_letterAt
set_option maxRecDepth 20000 in
theorem ggX6_readItem_X6_readFactOf : GoodIn wsX6_readItem wsX6_readFactOf := goodIn_r _ [12, 13, 14, 15, 16, 17, 5, 18, 1, 2, 3, 4, 6, 7, 8, 19, 20, 21, 22, 23, 24, 25, 26, 27, 28, 45, 46, 47, 48, 49, 50, 51, 52, 53, 54, 55, 56, 57, 58, 59, 60, 61, 62, 63, 64, 65] (by decide +kernel) (by decide +kernel)
set_option maxRecDepth 20000 in
theorem gX6_readItem_X6_readFactOf : GoodIn wsX6_readItem (wsV RX6 88 RX6 yX6_readFactOf wsX6_readFactOf) := goodIn_app (goodIn_of _ (by decide +kernel)) ggX6_readItem_X6_readFactOf
set_option maxRecDepth 20000 in
theorem ggX6_readItem_X6_readSayingOf : GoodIn wsX6_readItem wsX6_readSayingOf := goodIn_r _ [32, 13, 14, 15, 16, 17, 5, 18, 1, 2, 3, 4, 6, 7, 8, 19, 20, 21, 22, 23, 24, 25, 26, 27, 28, 33, 34, 35, 36, 37, 38, 39, 45, 46, 47, 48, 49, 50, 51, 52, 53, 54, 55, 56, 57, 58, 59, 60, 61, 62, 63, 64, 65] (by decide +kernel) (by decide +kernel)
set_option maxRecDepth 20000 in
theorem gX6_readItem_X6_readSayingOf : GoodIn wsX6_readItem (wsV RX6 92 RX6 yX6_readSayingOf wsX6_readSayingOf) := goodIn_app (goodIn_of _ (by decide +kernel)) ggX6_readItem_X6_readSayingOf
set_option maxRecDepth 20000 in
theorem ggX6_readItem_X6_readTermOf : GoodIn wsX6_readItem wsX6_readTermOf := goodIn_r _ [43, 14, 44, 15, 16, 17, 5, 18, 1, 2, 3, 4, 6, 7, 8, 19, 20, 21, 22, 23, 24, 25, 26, 27, 28, 45, 46, 47, 48, 49, 50, 51, 52, 53, 54, 55, 56, 57, 58, 59, 60, 61, 62, 63, 64, 65] (by decide +kernel) (by decide +kernel)
set_option maxRecDepth 20000 in
theorem gX6_readItem_X6_readTermOf : GoodIn wsX6_readItem (wsV RX6 95 RX6 yX6_readTermOf wsX6_readTermOf) := goodIn_app (goodIn_of _ (by decide +kernel)) ggX6_readItem_X6_readTermOf
theorem dX6_readItem_0 : decode cX6_readItem 0 = .ok (.aload_n 0, 1) := by decide +kernel
theorem dX6_readItem_1 : decode cX6_readItem 1 = .ok (.aload_n 0, 1) := by decide +kernel
theorem dX6_readItem_2 : decode cX6_readItem 2 = .ok (.getfield 71, 3) := by decide +kernel
theorem dX6_readItem_5 : decode cX6_readItem 5 = .ok (.invokevirtual 74, 3) := by decide +kernel
theorem dX6_readItem_8 : decode cX6_readItem 8 = .ok (.istore_n 1, 1) := by decide +kernel
theorem dX6_readItem_9 : decode cX6_readItem 9 = .ok (.aload_n 0, 1) := by decide +kernel
theorem dX6_readItem_10 : decode cX6_readItem 10 = .ok (.dup, 1) := by decide +kernel
theorem dX6_readItem_11 : decode cX6_readItem 11 = .ok (.getfield 71, 3) := by decide +kernel
theorem dX6_readItem_14 : decode cX6_readItem 14 = .ok (.iconst 1, 1) := by decide +kernel
theorem dX6_readItem_15 : decode cX6_readItem 15 = .ok (.iadd, 1) := by decide +kernel
theorem dX6_readItem_16 : decode cX6_readItem 16 = .ok (.putfield 71, 3) := by decide +kernel
theorem dX6_readItem_19 : decode cX6_readItem 19 = .ok (.iload_n 1, 1) := by decide +kernel
theorem dX6_readItem_20 : decode cX6_readItem 20 = .ok (.lookupswitch 51 #[(102, 36), (114, 46), (115, 41)], 36) := by decide +kernel
theorem dX6_readItem_56 : decode cX6_readItem 56 = .ok (.aload_n 0, 1) := by decide +kernel
theorem dX6_readItem_57 : decode cX6_readItem 57 = .ok (.invokevirtual 88, 3) := by decide +kernel
theorem dX6_readItem_60 : decode cX6_readItem 60 = .ok (.ireturn, 1) := by decide +kernel
theorem dX6_readItem_61 : decode cX6_readItem 61 = .ok (.aload_n 0, 1) := by decide +kernel
theorem dX6_readItem_62 : decode cX6_readItem 62 = .ok (.invokevirtual 92, 3) := by decide +kernel
theorem dX6_readItem_65 : decode cX6_readItem 65 = .ok (.ireturn, 1) := by decide +kernel
theorem dX6_readItem_66 : decode cX6_readItem 66 = .ok (.aload_n 0, 1) := by decide +kernel
theorem dX6_readItem_67 : decode cX6_readItem 67 = .ok (.invokevirtual 95, 3) := by decide +kernel
theorem dX6_readItem_70 : decode cX6_readItem 70 = .ok (.ireturn, 1) := by decide +kernel
theorem dX6_readItem_71 : decode cX6_readItem 71 = .ok (.iconst 0, 1) := by decide +kernel
theorem dX6_readItem_72 : decode cX6_readItem 72 = .ok (.ireturn, 1) := by decide +kernel
set_option maxRecDepth 20000 in
theorem ggX6_fault_X6_clearTold : GoodIn wsX6_fault wsX6_clearTold := goodIn_r _ [7, 8, 9, 53, 54, 55, 56, 57, 58, 59, 60, 61, 62, 63, 64, 65, 66, 67, 68, 69, 70, 71, 72, 73] (by decide +kernel) (by decide +kernel)
set_option maxRecDepth 20000 in
theorem gX6_fault_X6_clearTold : GoodIn wsX6_fault (wsV RX6 46 RX6 yX6_clearTold wsX6_clearTold) := goodIn_app (goodIn_of _ (by decide +kernel)) ggX6_fault_X6_clearTold
set_option maxRecDepth 20000 in
theorem ggX6_fault_X6_readItem : GoodIn wsX6_fault wsX6_readItem := goodIn_r _ [13, 1, 14, 15, 16, 6, 17, 2, 18, 19, 20, 21, 22, 8, 23, 24, 25, 26, 27, 28, 29, 30, 31, 32, 33, 34, 35, 36, 37, 38, 39, 40, 41, 42, 43, 44, 45, 46, 47, 48, 49, 50, 51, 52, 9, 53, 54, 55, 56, 57, 58, 59, 60, 61, 62, 63, 64, 65, 66, 67, 68, 69, 70, 71, 72, 73] (by decide +kernel) (by decide +kernel)
set_option maxRecDepth 20000 in
theorem gX6_fault_X6_readItem : GoodIn wsX6_fault (wsV RX6 98 RX6 yX6_readItem wsX6_readItem) := goodIn_app (goodIn_of _ (by decide +kernel)) ggX6_fault_X6_readItem
theorem dX6_fault_0 : decode cX6_fault 0 = .ok (.aload_n 0, 1) := by decide +kernel
theorem dX6_fault_1 : decode cX6_fault 1 = .ok (.iconst 0, 1) := by decide +kernel
theorem dX6_fault_2 : decode cX6_fault 2 = .ok (.putfield 71, 3) := by decide +kernel
theorem dX6_fault_5 : decode cX6_fault 5 = .ok (.aload_n 0, 1) := by decide +kernel
theorem dX6_fault_6 : decode cX6_fault 6 = .ok (.invokevirtual 46, 3) := by decide +kernel
theorem dX6_fault_9 : decode cX6_fault 9 = .ok (.aload_n 0, 1) := by decide +kernel
theorem dX6_fault_10 : decode cX6_fault 10 = .ok (.getfield 71, 3) := by decide +kernel
theorem dX6_fault_13 : decode cX6_fault 13 = .ok (.aload_n 0, 1) := by decide +kernel
theorem dX6_fault_14 : decode cX6_fault 14 = .ok (.getfield 68, 3) := by decide +kernel
theorem dX6_fault_17 : decode cX6_fault 17 = .ok (.if_icmp .ge 20, 3) := by decide +kernel
theorem dX6_fault_20 : decode cX6_fault 20 = .ok (.aload_n 0, 1) := by decide +kernel
theorem dX6_fault_21 : decode cX6_fault 21 = .ok (.getfield 71, 3) := by decide +kernel
theorem dX6_fault_24 : decode cX6_fault 24 = .ok (.istore_n 1, 1) := by decide +kernel
theorem dX6_fault_25 : decode cX6_fault 25 = .ok (.aload_n 0, 1) := by decide +kernel
theorem dX6_fault_26 : decode cX6_fault 26 = .ok (.invokevirtual 98, 3) := by decide +kernel
theorem dX6_fault_29 : decode cX6_fault 29 = .ok (.ifCond .ne 5, 3) := by decide +kernel
theorem dX6_fault_32 : decode cX6_fault 32 = .ok (.iload_n 1, 1) := by decide +kernel
theorem dX6_fault_33 : decode cX6_fault 33 = .ok (.ireturn, 1) := by decide +kernel
theorem dX6_fault_34 : decode cX6_fault 34 = .ok (.goto (-25), 3) := by decide +kernel
theorem dX6_fault_37 : decode cX6_fault 37 = .ok (.bipush (-4), 2) := by decide +kernel
theorem dX6_fault_39 : decode cX6_fault 39 = .ok (.ireturn, 1) := by decide +kernel
set_option maxRecDepth 20000 in
theorem ggX6_lay_X6_fault : GoodIn wsX6_lay wsX6_fault := goodIn_r _ [7, 8, 9, 10, 11, 12, 6, 13, 1, 14, 15, 16, 17, 18, 19, 20, 21, 22, 23, 24, 25, 26, 27, 28, 29, 30, 31, 32, 33, 34, 35, 36, 37, 38, 39, 40, 41, 42, 43, 44, 45, 46, 47, 48, 49, 50, 51, 52, 53, 54, 55, 56, 57, 88, 89, 90, 91, 92, 93, 94, 95, 96, 97, 98, 99, 100, 101, 102, 103, 104, 105, 106, 107, 108] (by decide +kernel) (by decide +kernel)
set_option maxRecDepth 20000 in
theorem gX6_lay_X6_fault : GoodIn wsX6_lay (wsV RX6 101 RX6 yX6_fault wsX6_fault) := goodIn_app (goodIn_of _ (by decide +kernel)) ggX6_lay_X6_fault
set_option maxRecDepth 20000 in
theorem ggX6_lay_X6_settles : GoodIn wsX6_lay wsX6_settles := goodIn_r _ [61, 14, 62, 63, 1, 2, 64, 65, 66, 67, 68, 6, 69, 70, 71, 72, 73, 74, 75, 76, 77, 78, 79, 80, 81, 82, 83, 84, 85, 86, 87, 88, 89, 90, 91, 92, 93, 94, 95, 96, 97, 98, 99, 100, 101, 102, 103, 104, 105, 106, 107, 108] (by decide +kernel) (by decide +kernel)
set_option maxRecDepth 20000 in
theorem gX6_lay_X6_settles : GoodIn wsX6_lay (wsV RX6 57 RX6 yX6_settles wsX6_settles) := goodIn_app (goodIn_of _ (by decide +kernel)) ggX6_lay_X6_settles
theorem dX6_lay_0 : decode cX6_lay 0 = .ok (.aload_n 0, 1) := by decide +kernel
theorem dX6_lay_1 : decode cX6_lay 1 = .ok (.invokevirtual 101, 3) := by decide +kernel
theorem dX6_lay_4 : decode cX6_lay 4 = .ok (.bipush (-4), 2) := by decide +kernel
theorem dX6_lay_6 : decode cX6_lay 6 = .ok (.if_icmp .ne 12, 3) := by decide +kernel
theorem dX6_lay_9 : decode cX6_lay 9 = .ok (.aload_n 0, 1) := by decide +kernel
theorem dX6_lay_10 : decode cX6_lay 10 = .ok (.getfield 28, 3) := by decide +kernel
theorem dX6_lay_13 : decode cX6_lay 13 = .ok (.iconst 2, 1) := by decide +kernel
theorem dX6_lay_14 : decode cX6_lay 14 = .ok (.iaload, 1) := by decide +kernel
theorem dX6_lay_15 : decode cX6_lay 15 = .ok (.ifCond .ne 6, 3) := by decide +kernel
theorem dX6_lay_18 : decode cX6_lay 18 = .ok (.bipush (-2), 2) := by decide +kernel
theorem dX6_lay_20 : decode cX6_lay 20 = .ok (.ireturn, 1) := by decide +kernel
theorem dX6_lay_21 : decode cX6_lay 21 = .ok (.aload_n 0, 1) := by decide +kernel
theorem dX6_lay_22 : decode cX6_lay 22 = .ok (.invokevirtual 57, 3) := by decide +kernel
theorem dX6_lay_25 : decode cX6_lay 25 = .ok (.aload_n 0, 1) := by decide +kernel
theorem dX6_lay_26 : decode cX6_lay 26 = .ok (.getfield 7, 3) := by decide +kernel
theorem dX6_lay_29 : decode cX6_lay 29 = .ok (.iconst 2, 1) := by decide +kernel
theorem dX6_lay_30 : decode cX6_lay 30 = .ok (.iaload, 1) := by decide +kernel
theorem dX6_lay_31 : decode cX6_lay 31 = .ok (.ireturn, 1) := by decide +kernel
theorem dX6_copies_0 : decode cX6_copies 0 = .ok (.iconst 0, 1) := by decide +kernel
theorem dX6_copies_1 : decode cX6_copies 1 = .ok (.istore 4, 2) := by decide +kernel
theorem dX6_copies_3 : decode cX6_copies 3 = .ok (.iload 4, 2) := by decide +kernel
theorem dX6_copies_5 : decode cX6_copies 5 = .ok (.bipush 49, 2) := by decide +kernel
theorem dX6_copies_7 : decode cX6_copies 7 = .ok (.if_icmp .ge 21, 3) := by decide +kernel
theorem dX6_copies_10 : decode cX6_copies 10 = .ok (.aload_n 0, 1) := by decide +kernel
theorem dX6_copies_11 : decode cX6_copies 11 = .ok (.iload_n 1, 1) := by decide +kernel
theorem dX6_copies_12 : decode cX6_copies 12 = .ok (.iload 4, 2) := by decide +kernel
theorem dX6_copies_14 : decode cX6_copies 14 = .ok (.iadd, 1) := by decide +kernel
theorem dX6_copies_15 : decode cX6_copies 15 = .ok (.aload_n 2, 1) := by decide +kernel
theorem dX6_copies_16 : decode cX6_copies 16 = .ok (.iload_n 3, 1) := by decide +kernel
theorem dX6_copies_17 : decode cX6_copies 17 = .ok (.iload 4, 2) := by decide +kernel
theorem dX6_copies_19 : decode cX6_copies 19 = .ok (.iadd, 1) := by decide +kernel
theorem dX6_copies_20 : decode cX6_copies 20 = .ok (.iaload, 1) := by decide +kernel
theorem dX6_copies_21 : decode cX6_copies 21 = .ok (.iastore, 1) := by decide +kernel
theorem dX6_copies_22 : decode cX6_copies 22 = .ok (.iinc 4 1, 3) := by decide +kernel
theorem dX6_copies_25 : decode cX6_copies 25 = .ok (.goto (-22), 3) := by decide +kernel
theorem dX6_copies_28 : decode cX6_copies 28 = .ok (.return_, 1) := by decide +kernel
set_option maxRecDepth 20000 in
theorem ggX6_settles_X6_copies : GoodIn wsX6_settles wsX6_copies := goodIn_r _ [12] (by decide +kernel) (by decide +kernel)
set_option maxRecDepth 20000 in
theorem gX6_settles_X6_copies : GoodIn wsX6_settles (va_wsS RX6 108 yX6_copies wsX6_copies) := goodIn_app (goodIn_of _ (by decide +kernel)) ggX6_settles_X6_copies
set_option maxRecDepth 20000 in
theorem ggX6_settles_X6_appoints : GoodIn wsX6_settles wsX6_appoints := goodIn_r _ [16, 3, 17, 18, 19, 11, 20, 21, 22, 23, 24, 25, 26, 27, 28, 29, 30, 31, 32, 33, 34, 35, 36, 37, 38, 39, 40, 41, 42, 43, 44, 45, 46, 47, 48, 49, 50, 51] (by decide +kernel) (by decide +kernel)
set_option maxRecDepth 20000 in
theorem gX6_settles_X6_appoints : GoodIn wsX6_settles (wsV RX6 112 RX6 yX6_appoints wsX6_appoints) := goodIn_app (goodIn_of _ (by decide +kernel)) ggX6_settles_X6_appoints
theorem dX6_settles_0 : decode cX6_settles 0 = .ok (.aload_n 0, 1) := by decide +kernel
theorem dX6_settles_1 : decode cX6_settles 1 = .ok (.aload_n 0, 1) := by decide +kernel
theorem dX6_settles_2 : decode cX6_settles 2 = .ok (.getfield 53, 3) := by decide +kernel
theorem dX6_settles_5 : decode cX6_settles 5 = .ok (.putfield 105, 3) := by decide +kernel
theorem dX6_settles_8 : decode cX6_settles 8 = .ok (.aload_n 0, 1) := by decide +kernel
theorem dX6_settles_9 : decode cX6_settles 9 = .ok (.getfield 31, 3) := by decide +kernel
theorem dX6_settles_12 : decode cX6_settles 12 = .ok (.iconst 0, 1) := by decide +kernel
theorem dX6_settles_13 : decode cX6_settles 13 = .ok (.aload_n 0, 1) := by decide +kernel
theorem dX6_settles_14 : decode cX6_settles 14 = .ok (.getfield 28, 3) := by decide +kernel
theorem dX6_settles_17 : decode cX6_settles 17 = .ok (.iconst 0, 1) := by decide +kernel
theorem dX6_settles_18 : decode cX6_settles 18 = .ok (.invokestatic 108, 3) := by decide +kernel
theorem dX6_settles_21 : decode cX6_settles 21 = .ok (.aload_n 0, 1) := by decide +kernel
theorem dX6_settles_22 : decode cX6_settles 22 = .ok (.invokevirtual 112, 3) := by decide +kernel
theorem dX6_settles_25 : decode cX6_settles 25 = .ok (.aload_n 0, 1) := by decide +kernel
theorem dX6_settles_26 : decode cX6_settles 26 = .ok (.getfield 7, 3) := by decide +kernel
theorem dX6_settles_29 : decode cX6_settles 29 = .ok (.iconst 0, 1) := by decide +kernel
theorem dX6_settles_30 : decode cX6_settles 30 = .ok (.aload_n 0, 1) := by decide +kernel
theorem dX6_settles_31 : decode cX6_settles 31 = .ok (.getfield 31, 3) := by decide +kernel
theorem dX6_settles_34 : decode cX6_settles 34 = .ok (.iconst 0, 1) := by decide +kernel
theorem dX6_settles_35 : decode cX6_settles 35 = .ok (.invokestatic 108, 3) := by decide +kernel
theorem dX6_settles_38 : decode cX6_settles 38 = .ok (.aload_n 0, 1) := by decide +kernel
theorem dX6_settles_39 : decode cX6_settles 39 = .ok (.iconst 0, 1) := by decide +kernel
theorem dX6_settles_40 : decode cX6_settles 40 = .ok (.putfield 115, 3) := by decide +kernel
theorem dX6_settles_43 : decode cX6_settles 43 = .ok (.aload_n 0, 1) := by decide +kernel
theorem dX6_settles_44 : decode cX6_settles 44 = .ok (.iconst 0, 1) := by decide +kernel
theorem dX6_settles_45 : decode cX6_settles 45 = .ok (.putfield 118, 3) := by decide +kernel
theorem dX6_settles_48 : decode cX6_settles 48 = .ok (.aload_n 0, 1) := by decide +kernel
theorem dX6_settles_49 : decode cX6_settles 49 = .ok (.iconst 0, 1) := by decide +kernel
theorem dX6_settles_50 : decode cX6_settles 50 = .ok (.putfield 121, 3) := by decide +kernel
theorem dX6_settles_53 : decode cX6_settles 53 = .ok (.return_, 1) := by decide +kernel
set_option maxRecDepth 20000 in
theorem ggX6_asItIs_X6_copies : GoodIn wsX6_asItIs wsX6_copies := goodIn_r _ [6] (by decide +kernel) (by decide +kernel)
set_option maxRecDepth 20000 in
theorem gX6_asItIs_X6_copies : GoodIn wsX6_asItIs (va_wsS RX6 108 yX6_copies wsX6_copies) := goodIn_app (goodIn_of _ (by decide +kernel)) ggX6_asItIs_X6_copies
theorem dX6_asItIs_0 : decode cX6_asItIs 0 = .ok (.aload_n 0, 1) := by decide +kernel
theorem dX6_asItIs_1 : decode cX6_asItIs 1 = .ok (.getfield 31, 3) := by decide +kernel
theorem dX6_asItIs_4 : decode cX6_asItIs 4 = .ok (.iconst 0, 1) := by decide +kernel
theorem dX6_asItIs_5 : decode cX6_asItIs 5 = .ok (.aload_n 0, 1) := by decide +kernel
theorem dX6_asItIs_6 : decode cX6_asItIs 6 = .ok (.getfield 7, 3) := by decide +kernel
theorem dX6_asItIs_9 : decode cX6_asItIs 9 = .ok (.iconst 0, 1) := by decide +kernel
theorem dX6_asItIs_10 : decode cX6_asItIs 10 = .ok (.invokestatic 108, 3) := by decide +kernel
theorem dX6_asItIs_13 : decode cX6_asItIs 13 = .ok (.return_, 1) := by decide +kernel
set_option maxRecDepth 20000 in
theorem ggX6_isTrue_X6_has : GoodIn wsX6_isTrue wsX6_has := goodIn_r _ [4] (by decide +kernel) (by decide +kernel)
set_option maxRecDepth 20000 in
theorem gX6_isTrue_X6_has : GoodIn wsX6_isTrue (va_wsS RX6 124 yX6_has wsX6_has) := goodIn_app (goodIn_of _ (by decide +kernel)) ggX6_isTrue_X6_has
theorem dX6_isTrue_0 : decode cX6_isTrue 0 = .ok (.iload_n 0, 1) := by decide +kernel
theorem dX6_isTrue_1 : decode cX6_isTrue 1 = .ok (.bipush 6, 2) := by decide +kernel
theorem dX6_isTrue_3 : decode cX6_isTrue 3 = .ok (.if_icmp .ge 7, 3) := by decide +kernel
theorem dX6_isTrue_6 : decode cX6_isTrue 6 = .ok (.iconst 1, 1) := by decide +kernel
theorem dX6_isTrue_7 : decode cX6_isTrue 7 = .ok (.goto 4, 3) := by decide +kernel
theorem dX6_isTrue_10 : decode cX6_isTrue 10 = .ok (.iconst 0, 1) := by decide +kernel
theorem dX6_isTrue_11 : decode cX6_isTrue 11 = .ok (.iload_n 1, 1) := by decide +kernel
theorem dX6_isTrue_12 : decode cX6_isTrue 12 = .ok (.iload_n 0, 1) := by decide +kernel
theorem dX6_isTrue_13 : decode cX6_isTrue 13 = .ok (.bipush 6, 2) := by decide +kernel
theorem dX6_isTrue_15 : decode cX6_isTrue 15 = .ok (.irem, 1) := by decide +kernel
theorem dX6_isTrue_16 : decode cX6_isTrue 16 = .ok (.invokestatic 124, 3) := by decide +kernel
theorem dX6_isTrue_19 : decode cX6_isTrue 19 = .ok (.if_icmp .ne 7, 3) := by decide +kernel
theorem dX6_isTrue_22 : decode cX6_isTrue 22 = .ok (.iconst 1, 1) := by decide +kernel
theorem dX6_isTrue_23 : decode cX6_isTrue 23 = .ok (.goto 4, 3) := by decide +kernel
theorem dX6_isTrue_26 : decode cX6_isTrue 26 = .ok (.iconst 0, 1) := by decide +kernel
theorem dX6_isTrue_27 : decode cX6_isTrue 27 = .ok (.ireturn, 1) := by decide +kernel
set_option maxRecDepth 20000 in
theorem ggX6_isSo_X6_isTrue : GoodIn wsX6_isSo wsX6_isTrue := goodIn_r _ [5, 6, 7, 4, 8] (by decide +kernel) (by decide +kernel)
set_option maxRecDepth 20000 in
theorem gX6_isSo_X6_isTrue : GoodIn wsX6_isSo (va_wsS RX6 128 yX6_isTrue wsX6_isTrue) := goodIn_app (goodIn_of _ (by decide +kernel)) ggX6_isSo_X6_isTrue
theorem dX6_isSo_0 : decode cX6_isSo 0 = .ok (.iconst 4, 1) := by decide +kernel
theorem dX6_isSo_1 : decode cX6_isSo 1 = .ok (.iconst 4, 1) := by decide +kernel
theorem dX6_isSo_2 : decode cX6_isSo 2 = .ok (.iload_n 1, 1) := by decide +kernel
theorem dX6_isSo_3 : decode cX6_isSo 3 = .ok (.imul, 1) := by decide +kernel
theorem dX6_isSo_4 : decode cX6_isSo 4 = .ok (.iadd, 1) := by decide +kernel
theorem dX6_isSo_5 : decode cX6_isSo 5 = .ok (.istore_n 3, 1) := by decide +kernel
theorem dX6_isSo_6 : decode cX6_isSo 6 = .ok (.aload_n 0, 1) := by decide +kernel
theorem dX6_isSo_7 : decode cX6_isSo 7 = .ok (.getfield 31, 3) := by decide +kernel
theorem dX6_isSo_10 : decode cX6_isSo 10 = .ok (.iload_n 3, 1) := by decide +kernel
theorem dX6_isSo_11 : decode cX6_isSo 11 = .ok (.iconst 1, 1) := by decide +kernel
theorem dX6_isSo_12 : decode cX6_isSo 12 = .ok (.iadd, 1) := by decide +kernel
theorem dX6_isSo_13 : decode cX6_isSo 13 = .ok (.iaload, 1) := by decide +kernel
theorem dX6_isSo_14 : decode cX6_isSo 14 = .ok (.iload_n 2, 1) := by decide +kernel
theorem dX6_isSo_15 : decode cX6_isSo 15 = .ok (.invokestatic 128, 3) := by decide +kernel
theorem dX6_isSo_18 : decode cX6_isSo 18 = .ok (.istore 4, 2) := by decide +kernel
theorem dX6_isSo_20 : decode cX6_isSo 20 = .ok (.aload_n 0, 1) := by decide +kernel
theorem dX6_isSo_21 : decode cX6_isSo 21 = .ok (.getfield 31, 3) := by decide +kernel
theorem dX6_isSo_24 : decode cX6_isSo 24 = .ok (.iload_n 3, 1) := by decide +kernel
theorem dX6_isSo_25 : decode cX6_isSo 25 = .ok (.iaload, 1) := by decide +kernel
theorem dX6_isSo_26 : decode cX6_isSo 26 = .ok (.ifCond .eq 22, 3) := by decide +kernel
theorem dX6_isSo_29 : decode cX6_isSo 29 = .ok (.aload_n 0, 1) := by decide +kernel
theorem dX6_isSo_30 : decode cX6_isSo 30 = .ok (.getfield 31, 3) := by decide +kernel
theorem dX6_isSo_33 : decode cX6_isSo 33 = .ok (.iload_n 3, 1) := by decide +kernel
theorem dX6_isSo_34 : decode cX6_isSo 34 = .ok (.iconst 2, 1) := by decide +kernel
theorem dX6_isSo_35 : decode cX6_isSo 35 = .ok (.iadd, 1) := by decide +kernel
theorem dX6_isSo_36 : decode cX6_isSo 36 = .ok (.iaload, 1) := by decide +kernel
theorem dX6_isSo_37 : decode cX6_isSo 37 = .ok (.iload_n 2, 1) := by decide +kernel
theorem dX6_isSo_38 : decode cX6_isSo 38 = .ok (.invokestatic 128, 3) := by decide +kernel
theorem dX6_isSo_41 : decode cX6_isSo 41 = .ok (.ifCond .eq 7, 3) := by decide +kernel
theorem dX6_isSo_44 : decode cX6_isSo 44 = .ok (.iconst 1, 1) := by decide +kernel
theorem dX6_isSo_45 : decode cX6_isSo 45 = .ok (.goto 4, 3) := by decide +kernel
theorem dX6_isSo_48 : decode cX6_isSo 48 = .ok (.iconst 0, 1) := by decide +kernel
theorem dX6_isSo_49 : decode cX6_isSo 49 = .ok (.istore 5, 2) := by decide +kernel
theorem dX6_isSo_51 : decode cX6_isSo 51 = .ok (.aload_n 0, 1) := by decide +kernel
theorem dX6_isSo_52 : decode cX6_isSo 52 = .ok (.getfield 31, 3) := by decide +kernel
theorem dX6_isSo_55 : decode cX6_isSo 55 = .ok (.iload_n 3, 1) := by decide +kernel
theorem dX6_isSo_56 : decode cX6_isSo 56 = .ok (.iaload, 1) := by decide +kernel
theorem dX6_isSo_57 : decode cX6_isSo 57 = .ok (.tableswitch 92 1 4 #[31, 47, 63, 79], 31) := by decide +kernel
theorem dX6_isSo_88 : decode cX6_isSo 88 = .ok (.iload 4, 2) := by decide +kernel
theorem dX6_isSo_90 : decode cX6_isSo 90 = .ok (.ifCond .eq 12, 3) := by decide +kernel
theorem dX6_isSo_93 : decode cX6_isSo 93 = .ok (.iload 5, 2) := by decide +kernel
theorem dX6_isSo_95 : decode cX6_isSo 95 = .ok (.ifCond .eq 7, 3) := by decide +kernel
theorem dX6_isSo_98 : decode cX6_isSo 98 = .ok (.iconst 1, 1) := by decide +kernel
theorem dX6_isSo_99 : decode cX6_isSo 99 = .ok (.goto 4, 3) := by decide +kernel
theorem dX6_isSo_102 : decode cX6_isSo 102 = .ok (.iconst 0, 1) := by decide +kernel
theorem dX6_isSo_103 : decode cX6_isSo 103 = .ok (.ireturn, 1) := by decide +kernel
theorem dX6_isSo_104 : decode cX6_isSo 104 = .ok (.iload 4, 2) := by decide +kernel
theorem dX6_isSo_106 : decode cX6_isSo 106 = .ok (.ifCond .ne 8, 3) := by decide +kernel
theorem dX6_isSo_109 : decode cX6_isSo 109 = .ok (.iload 5, 2) := by decide +kernel
theorem dX6_isSo_111 : decode cX6_isSo 111 = .ok (.ifCond .eq 7, 3) := by decide +kernel
theorem dX6_isSo_114 : decode cX6_isSo 114 = .ok (.iconst 1, 1) := by decide +kernel
theorem dX6_isSo_115 : decode cX6_isSo 115 = .ok (.goto 4, 3) := by decide +kernel
theorem dX6_isSo_118 : decode cX6_isSo 118 = .ok (.iconst 0, 1) := by decide +kernel
theorem dX6_isSo_119 : decode cX6_isSo 119 = .ok (.ireturn, 1) := by decide +kernel
theorem dX6_isSo_120 : decode cX6_isSo 120 = .ok (.iload 4, 2) := by decide +kernel
theorem dX6_isSo_122 : decode cX6_isSo 122 = .ok (.ifCond .eq 8, 3) := by decide +kernel
theorem dX6_isSo_125 : decode cX6_isSo 125 = .ok (.iload 5, 2) := by decide +kernel
theorem dX6_isSo_127 : decode cX6_isSo 127 = .ok (.ifCond .eq 7, 3) := by decide +kernel
theorem dX6_isSo_130 : decode cX6_isSo 130 = .ok (.iconst 1, 1) := by decide +kernel
theorem dX6_isSo_131 : decode cX6_isSo 131 = .ok (.goto 4, 3) := by decide +kernel
theorem dX6_isSo_134 : decode cX6_isSo 134 = .ok (.iconst 0, 1) := by decide +kernel
theorem dX6_isSo_135 : decode cX6_isSo 135 = .ok (.ireturn, 1) := by decide +kernel
theorem dX6_isSo_136 : decode cX6_isSo 136 = .ok (.iload 4, 2) := by decide +kernel
theorem dX6_isSo_138 : decode cX6_isSo 138 = .ok (.iload 5, 2) := by decide +kernel
theorem dX6_isSo_140 : decode cX6_isSo 140 = .ok (.if_icmp .eq 7, 3) := by decide +kernel
theorem dX6_isSo_143 : decode cX6_isSo 143 = .ok (.iconst 1, 1) := by decide +kernel
theorem dX6_isSo_144 : decode cX6_isSo 144 = .ok (.goto 4, 3) := by decide +kernel
theorem dX6_isSo_147 : decode cX6_isSo 147 = .ok (.iconst 0, 1) := by decide +kernel
theorem dX6_isSo_148 : decode cX6_isSo 148 = .ok (.ireturn, 1) := by decide +kernel
theorem dX6_isSo_149 : decode cX6_isSo 149 = .ok (.iload 4, 2) := by decide +kernel
theorem dX6_isSo_151 : decode cX6_isSo 151 = .ok (.ireturn, 1) := by decide +kernel
set_option maxRecDepth 20000 in
theorem ggX6_policeIn_X6_has : GoodIn wsX6_policeIn wsX6_has := goodIn_r _ [5] (by decide +kernel) (by decide +kernel)
set_option maxRecDepth 20000 in
theorem gX6_policeIn_X6_has : GoodIn wsX6_policeIn (va_wsS RX6 124 yX6_has wsX6_has) := goodIn_app (goodIn_of _ (by decide +kernel)) ggX6_policeIn_X6_has
set_option maxRecDepth 20000 in
theorem ggX6_policeIn_X6_isSo : GoodIn wsX6_policeIn wsX6_isSo := goodIn_r _ [9, 1, 10, 11, 4, 12, 2, 3, 5, 13, 14, 15, 16, 17, 18, 19, 20, 21, 22, 23, 24, 25, 26, 27, 28, 29, 30, 31, 32, 33] (by decide +kernel) (by decide +kernel)
set_option maxRecDepth 20000 in
theorem gX6_policeIn_X6_isSo : GoodIn wsX6_policeIn (wsV RX6 131 RX6 yX6_isSo wsX6_isSo) := goodIn_app (goodIn_of _ (by decide +kernel)) ggX6_policeIn_X6_isSo
theorem dX6_policeIn_0 : decode cX6_policeIn 0 = .ok (.iconst 0, 1) := by decide +kernel
theorem dX6_policeIn_1 : decode cX6_policeIn 1 = .ok (.istore_n 2, 1) := by decide +kernel
theorem dX6_policeIn_2 : decode cX6_policeIn 2 = .ok (.iconst 0, 1) := by decide +kernel
theorem dX6_policeIn_3 : decode cX6_policeIn 3 = .ok (.istore_n 3, 1) := by decide +kernel
theorem dX6_policeIn_4 : decode cX6_policeIn 4 = .ok (.iload_n 3, 1) := by decide +kernel
theorem dX6_policeIn_5 : decode cX6_policeIn 5 = .ok (.aload_n 0, 1) := by decide +kernel
theorem dX6_policeIn_6 : decode cX6_policeIn 6 = .ok (.getfield 31, 3) := by decide +kernel
theorem dX6_policeIn_9 : decode cX6_policeIn 9 = .ok (.iconst 2, 1) := by decide +kernel
theorem dX6_policeIn_10 : decode cX6_policeIn 10 = .ok (.iaload, 1) := by decide +kernel
theorem dX6_policeIn_11 : decode cX6_policeIn 11 = .ok (.if_icmp .ge 41, 3) := by decide +kernel
theorem dX6_policeIn_14 : decode cX6_policeIn 14 = .ok (.iload_n 2, 1) := by decide +kernel
theorem dX6_policeIn_15 : decode cX6_policeIn 15 = .ok (.aload_n 0, 1) := by decide +kernel
theorem dX6_policeIn_16 : decode cX6_policeIn 16 = .ok (.getfield 31, 3) := by decide +kernel
theorem dX6_policeIn_19 : decode cX6_policeIn 19 = .ok (.iconst 3, 1) := by decide +kernel
theorem dX6_policeIn_20 : decode cX6_policeIn 20 = .ok (.iaload, 1) := by decide +kernel
theorem dX6_policeIn_21 : decode cX6_policeIn 21 = .ok (.iload_n 3, 1) := by decide +kernel
theorem dX6_policeIn_22 : decode cX6_policeIn 22 = .ok (.invokestatic 124, 3) := by decide +kernel
theorem dX6_policeIn_25 : decode cX6_policeIn 25 = .ok (.ifCond .ne 18, 3) := by decide +kernel
theorem dX6_policeIn_28 : decode cX6_policeIn 28 = .ok (.aload_n 0, 1) := by decide +kernel
theorem dX6_policeIn_29 : decode cX6_policeIn 29 = .ok (.iload_n 3, 1) := by decide +kernel
theorem dX6_policeIn_30 : decode cX6_policeIn 30 = .ok (.iload_n 1, 1) := by decide +kernel
theorem dX6_policeIn_31 : decode cX6_policeIn 31 = .ok (.invokevirtual 131, 3) := by decide +kernel
theorem dX6_policeIn_34 : decode cX6_policeIn 34 = .ok (.ifCond .ne 9, 3) := by decide +kernel
theorem dX6_policeIn_37 : decode cX6_policeIn 37 = .ok (.iconst 1, 1) := by decide +kernel
theorem dX6_policeIn_38 : decode cX6_policeIn 38 = .ok (.iload_n 3, 1) := by decide +kernel
theorem dX6_policeIn_39 : decode cX6_policeIn 39 = .ok (.ishl, 1) := by decide +kernel
theorem dX6_policeIn_40 : decode cX6_policeIn 40 = .ok (.goto 4, 3) := by decide +kernel
theorem dX6_policeIn_43 : decode cX6_policeIn 43 = .ok (.iconst 0, 1) := by decide +kernel
theorem dX6_policeIn_44 : decode cX6_policeIn 44 = .ok (.ior, 1) := by decide +kernel
theorem dX6_policeIn_45 : decode cX6_policeIn 45 = .ok (.istore_n 2, 1) := by decide +kernel
theorem dX6_policeIn_46 : decode cX6_policeIn 46 = .ok (.iinc 3 1, 3) := by decide +kernel
theorem dX6_policeIn_49 : decode cX6_policeIn 49 = .ok (.goto (-45), 3) := by decide +kernel
theorem dX6_policeIn_52 : decode cX6_policeIn 52 = .ok (.iload_n 2, 1) := by decide +kernel
theorem dX6_policeIn_53 : decode cX6_policeIn 53 = .ok (.ireturn, 1) := by decide +kernel
theorem dX6_standing_0 : decode cX6_standing 0 = .ok (.iconst 1, 1) := by decide +kernel
theorem dX6_standing_1 : decode cX6_standing 1 = .ok (.aload_n 0, 1) := by decide +kernel
theorem dX6_standing_2 : decode cX6_standing 2 = .ok (.getfield 31, 3) := by decide +kernel
theorem dX6_standing_5 : decode cX6_standing 5 = .ok (.iconst 2, 1) := by decide +kernel
theorem dX6_standing_6 : decode cX6_standing 6 = .ok (.iaload, 1) := by decide +kernel
theorem dX6_standing_7 : decode cX6_standing 7 = .ok (.ishl, 1) := by decide +kernel
theorem dX6_standing_8 : decode cX6_standing 8 = .ok (.iconst 1, 1) := by decide +kernel
theorem dX6_standing_9 : decode cX6_standing 9 = .ok (.isub, 1) := by decide +kernel
theorem dX6_standing_10 : decode cX6_standing 10 = .ok (.aload_n 0, 1) := by decide +kernel
theorem dX6_standing_11 : decode cX6_standing 11 = .ok (.getfield 31, 3) := by decide +kernel
theorem dX6_standing_14 : decode cX6_standing 14 = .ok (.iconst 3, 1) := by decide +kernel
theorem dX6_standing_15 : decode cX6_standing 15 = .ok (.iaload, 1) := by decide +kernel
theorem dX6_standing_16 : decode cX6_standing 16 = .ok (.iconst (-1), 1) := by decide +kernel
theorem dX6_standing_17 : decode cX6_standing 17 = .ok (.ixor, 1) := by decide +kernel
theorem dX6_standing_18 : decode cX6_standing 18 = .ok (.iand, 1) := by decide +kernel
theorem dX6_standing_19 : decode cX6_standing 19 = .ok (.ireturn, 1) := by decide +kernel
set_option maxRecDepth 20000 in
theorem ggX6_appoints_X6_policeIn : GoodIn wsX6_appoints wsX6_policeIn := goodIn_r _ [6, 1, 7, 8, 5, 9, 10, 11, 12, 13, 14, 15, 16, 17, 18, 19, 20, 21, 22, 23, 24, 25, 26, 27, 28, 29, 30, 31, 32, 33, 34, 35, 36, 37] (by decide +kernel) (by decide +kernel)
set_option maxRecDepth 20000 in
theorem gX6_appoints_X6_policeIn : GoodIn wsX6_appoints (wsV RX6 134 RX6 yX6_policeIn wsX6_policeIn) := goodIn_app (goodIn_of _ (by decide +kernel)) ggX6_appoints_X6_policeIn
set_option maxRecDepth 20000 in
theorem ggX6_appoints_X6_has : GoodIn wsX6_appoints wsX6_has := goodIn_r _ [9] (by decide +kernel) (by decide +kernel)
set_option maxRecDepth 20000 in
theorem gX6_appoints_X6_has : GoodIn wsX6_appoints (va_wsS RX6 124 yX6_has wsX6_has) := goodIn_app (goodIn_of _ (by decide +kernel)) ggX6_appoints_X6_has
theorem dX6_appoints_0 : decode cX6_appoints 0 = .ok (.aload_n 0, 1) := by decide +kernel
theorem dX6_appoints_1 : decode cX6_appoints 1 = .ok (.aload_n 0, 1) := by decide +kernel
theorem dX6_appoints_2 : decode cX6_appoints 2 = .ok (.getfield 31, 3) := by decide +kernel
theorem dX6_appoints_5 : decode cX6_appoints 5 = .ok (.iconst 0, 1) := by decide +kernel
theorem dX6_appoints_6 : decode cX6_appoints 6 = .ok (.iaload, 1) := by decide +kernel
theorem dX6_appoints_7 : decode cX6_appoints 7 = .ok (.invokevirtual 134, 3) := by decide +kernel
theorem dX6_appoints_10 : decode cX6_appoints 10 = .ok (.istore_n 1, 1) := by decide +kernel
theorem dX6_appoints_11 : decode cX6_appoints 11 = .ok (.iconst 0, 1) := by decide +kernel
theorem dX6_appoints_12 : decode cX6_appoints 12 = .ok (.istore_n 2, 1) := by decide +kernel
theorem dX6_appoints_13 : decode cX6_appoints 13 = .ok (.iload_n 2, 1) := by decide +kernel
theorem dX6_appoints_14 : decode cX6_appoints 14 = .ok (.aload_n 0, 1) := by decide +kernel
theorem dX6_appoints_15 : decode cX6_appoints 15 = .ok (.getfield 31, 3) := by decide +kernel
theorem dX6_appoints_18 : decode cX6_appoints 18 = .ok (.iconst 2, 1) := by decide +kernel
theorem dX6_appoints_19 : decode cX6_appoints 19 = .ok (.iaload, 1) := by decide +kernel
theorem dX6_appoints_20 : decode cX6_appoints 20 = .ok (.if_icmp .ge 49, 3) := by decide +kernel
theorem dX6_appoints_23 : decode cX6_appoints 23 = .ok (.aload_n 0, 1) := by decide +kernel
theorem dX6_appoints_24 : decode cX6_appoints 24 = .ok (.getfield 31, 3) := by decide +kernel
theorem dX6_appoints_27 : decode cX6_appoints 27 = .ok (.bipush 40, 2) := by decide +kernel
theorem dX6_appoints_29 : decode cX6_appoints 29 = .ok (.iload_n 2, 1) := by decide +kernel
theorem dX6_appoints_30 : decode cX6_appoints 30 = .ok (.iadd, 1) := by decide +kernel
theorem dX6_appoints_31 : decode cX6_appoints 31 = .ok (.iaload, 1) := by decide +kernel
theorem dX6_appoints_32 : decode cX6_appoints 32 = .ok (.istore_n 3, 1) := by decide +kernel
theorem dX6_appoints_33 : decode cX6_appoints 33 = .ok (.aload_n 0, 1) := by decide +kernel
theorem dX6_appoints_34 : decode cX6_appoints 34 = .ok (.getfield 31, 3) := by decide +kernel
theorem dX6_appoints_37 : decode cX6_appoints 37 = .ok (.bipush 40, 2) := by decide +kernel
theorem dX6_appoints_39 : decode cX6_appoints 39 = .ok (.iload_n 2, 1) := by decide +kernel
theorem dX6_appoints_40 : decode cX6_appoints 40 = .ok (.iadd, 1) := by decide +kernel
theorem dX6_appoints_41 : decode cX6_appoints 41 = .ok (.iload_n 1, 1) := by decide +kernel
theorem dX6_appoints_42 : decode cX6_appoints 42 = .ok (.iload_n 2, 1) := by decide +kernel
theorem dX6_appoints_43 : decode cX6_appoints 43 = .ok (.invokestatic 124, 3) := by decide +kernel
theorem dX6_appoints_46 : decode cX6_appoints 46 = .ok (.ifCond .ne 7, 3) := by decide +kernel
theorem dX6_appoints_49 : decode cX6_appoints 49 = .ok (.iconst (-1), 1) := by decide +kernel
theorem dX6_appoints_50 : decode cX6_appoints 50 = .ok (.goto 12, 3) := by decide +kernel
theorem dX6_appoints_53 : decode cX6_appoints 53 = .ok (.iload_n 3, 1) := by decide +kernel
theorem dX6_appoints_54 : decode cX6_appoints 54 = .ok (.ifCond .ge 7, 3) := by decide +kernel
theorem dX6_appoints_57 : decode cX6_appoints 57 = .ok (.iconst 0, 1) := by decide +kernel
theorem dX6_appoints_58 : decode cX6_appoints 58 = .ok (.goto 4, 3) := by decide +kernel
theorem dX6_appoints_61 : decode cX6_appoints 61 = .ok (.iload_n 3, 1) := by decide +kernel
theorem dX6_appoints_62 : decode cX6_appoints 62 = .ok (.iastore, 1) := by decide +kernel
theorem dX6_appoints_63 : decode cX6_appoints 63 = .ok (.iinc 2 1, 3) := by decide +kernel
theorem dX6_appoints_66 : decode cX6_appoints 66 = .ok (.goto (-53), 3) := by decide +kernel
theorem dX6_appoints_69 : decode cX6_appoints 69 = .ok (.return_, 1) := by decide +kernel
set_option maxRecDepth 20000 in
theorem ggX6_doClash_X6_isSo : GoodIn wsX6_doClash wsX6_isSo := goodIn_r _ [5, 6, 7, 8, 4, 9, 10, 11, 12, 13, 14, 15, 16, 17, 18, 19, 20, 21, 22, 23, 24, 25, 26, 27, 28, 29, 30, 31, 32, 33] (by decide +kernel) (by decide +kernel)
set_option maxRecDepth 20000 in
theorem gX6_doClash_X6_isSo : GoodIn wsX6_doClash (wsV RX6 131 RX6 yX6_isSo wsX6_isSo) := goodIn_app (goodIn_of _ (by decide +kernel)) ggX6_doClash_X6_isSo
theorem dX6_doClash_0 : decode cX6_doClash 0 = .ok (.iconst 0, 1) := by decide +kernel
theorem dX6_doClash_1 : decode cX6_doClash 1 = .ok (.istore_n 3, 1) := by decide +kernel
theorem dX6_doClash_2 : decode cX6_doClash 2 = .ok (.iload_n 3, 1) := by decide +kernel
theorem dX6_doClash_3 : decode cX6_doClash 3 = .ok (.bipush 64, 2) := by decide +kernel
theorem dX6_doClash_5 : decode cX6_doClash 5 = .ok (.if_icmp .ge 29, 3) := by decide +kernel
theorem dX6_doClash_8 : decode cX6_doClash 8 = .ok (.aload_n 0, 1) := by decide +kernel
theorem dX6_doClash_9 : decode cX6_doClash 9 = .ok (.iload_n 1, 1) := by decide +kernel
theorem dX6_doClash_10 : decode cX6_doClash 10 = .ok (.iload_n 3, 1) := by decide +kernel
theorem dX6_doClash_11 : decode cX6_doClash 11 = .ok (.invokevirtual 131, 3) := by decide +kernel
theorem dX6_doClash_14 : decode cX6_doClash 14 = .ok (.ifCond .eq 14, 3) := by decide +kernel
theorem dX6_doClash_17 : decode cX6_doClash 17 = .ok (.aload_n 0, 1) := by decide +kernel
theorem dX6_doClash_18 : decode cX6_doClash 18 = .ok (.iload_n 2, 1) := by decide +kernel
theorem dX6_doClash_19 : decode cX6_doClash 19 = .ok (.iload_n 3, 1) := by decide +kernel
theorem dX6_doClash_20 : decode cX6_doClash 20 = .ok (.invokevirtual 131, 3) := by decide +kernel
theorem dX6_doClash_23 : decode cX6_doClash 23 = .ok (.ifCond .eq 5, 3) := by decide +kernel
theorem dX6_doClash_26 : decode cX6_doClash 26 = .ok (.iconst 0, 1) := by decide +kernel
theorem dX6_doClash_27 : decode cX6_doClash 27 = .ok (.ireturn, 1) := by decide +kernel
theorem dX6_doClash_28 : decode cX6_doClash 28 = .ok (.iinc 3 1, 3) := by decide +kernel
theorem dX6_doClash_31 : decode cX6_doClash 31 = .ok (.goto (-29), 3) := by decide +kernel
theorem dX6_doClash_34 : decode cX6_doClash 34 = .ok (.iconst 1, 1) := by decide +kernel
theorem dX6_doClash_35 : decode cX6_doClash 35 = .ok (.ireturn, 1) := by decide +kernel
set_option maxRecDepth 20000 in
theorem ggX6_goes_X6_doClash : GoodIn wsX6_goes wsX6_doClash := goodIn_r _ [9, 10, 11, 12, 8, 13, 2, 14, 15, 16, 17, 18, 19, 20, 21, 22, 23, 24, 25, 26, 27, 28, 29, 30, 31, 32, 33, 34, 35, 36, 37, 38, 39, 40] (by decide +kernel) (by decide +kernel)
set_option maxRecDepth 20000 in
theorem gX6_goes_X6_doClash : GoodIn wsX6_goes (wsV RX6 140 RX6 yX6_doClash wsX6_doClash) := goodIn_app (goodIn_of _ (by decide +kernel)) ggX6_goes_X6_doClash
theorem dX6_goes_0 : decode cX6_goes 0 = .ok (.aload_n 0, 1) := by decide +kernel
theorem dX6_goes_1 : decode cX6_goes 1 = .ok (.bipush (-4), 2) := by decide +kernel
theorem dX6_goes_3 : decode cX6_goes 3 = .ok (.putfield 137, 3) := by decide +kernel
theorem dX6_goes_6 : decode cX6_goes 6 = .ok (.aload_n 0, 1) := by decide +kernel
theorem dX6_goes_7 : decode cX6_goes 7 = .ok (.getfield 31, 3) := by decide +kernel
theorem dX6_goes_10 : decode cX6_goes 10 = .ok (.iconst 1, 1) := by decide +kernel
theorem dX6_goes_11 : decode cX6_goes 11 = .ok (.dup2, 1) := by decide +kernel
theorem dX6_goes_12 : decode cX6_goes 12 = .ok (.iaload, 1) := by decide +kernel
theorem dX6_goes_13 : decode cX6_goes 13 = .ok (.iconst 1, 1) := by decide +kernel
theorem dX6_goes_14 : decode cX6_goes 14 = .ok (.iadd, 1) := by decide +kernel
theorem dX6_goes_15 : decode cX6_goes 15 = .ok (.iastore, 1) := by decide +kernel
theorem dX6_goes_16 : decode cX6_goes 16 = .ok (.iconst 0, 1) := by decide +kernel
theorem dX6_goes_17 : decode cX6_goes 17 = .ok (.istore_n 1, 1) := by decide +kernel
theorem dX6_goes_18 : decode cX6_goes 18 = .ok (.iload_n 1, 1) := by decide +kernel
theorem dX6_goes_19 : decode cX6_goes 19 = .ok (.aload_n 0, 1) := by decide +kernel
theorem dX6_goes_20 : decode cX6_goes 20 = .ok (.getfield 31, 3) := by decide +kernel
theorem dX6_goes_23 : decode cX6_goes 23 = .ok (.iconst 2, 1) := by decide +kernel
theorem dX6_goes_24 : decode cX6_goes 24 = .ok (.iaload, 1) := by decide +kernel
theorem dX6_goes_25 : decode cX6_goes 25 = .ok (.if_icmp .ge 38, 3) := by decide +kernel
theorem dX6_goes_28 : decode cX6_goes 28 = .ok (.aload_n 0, 1) := by decide +kernel
theorem dX6_goes_29 : decode cX6_goes 29 = .ok (.getfield 31, 3) := by decide +kernel
theorem dX6_goes_32 : decode cX6_goes 32 = .ok (.bipush 40, 2) := by decide +kernel
theorem dX6_goes_34 : decode cX6_goes 34 = .ok (.iload_n 1, 1) := by decide +kernel
theorem dX6_goes_35 : decode cX6_goes 35 = .ok (.iadd, 1) := by decide +kernel
theorem dX6_goes_36 : decode cX6_goes 36 = .ok (.dup2, 1) := by decide +kernel
theorem dX6_goes_37 : decode cX6_goes 37 = .ok (.iaload, 1) := by decide +kernel
theorem dX6_goes_38 : decode cX6_goes 38 = .ok (.aload_n 0, 1) := by decide +kernel
theorem dX6_goes_39 : decode cX6_goes 39 = .ok (.getfield 31, 3) := by decide +kernel
theorem dX6_goes_42 : decode cX6_goes 42 = .ok (.bipush 40, 2) := by decide +kernel
theorem dX6_goes_44 : decode cX6_goes 44 = .ok (.iload_n 1, 1) := by decide +kernel
theorem dX6_goes_45 : decode cX6_goes 45 = .ok (.iadd, 1) := by decide +kernel
theorem dX6_goes_46 : decode cX6_goes 46 = .ok (.iaload, 1) := by decide +kernel
theorem dX6_goes_47 : decode cX6_goes 47 = .ok (.ifCond .ge 7, 3) := by decide +kernel
theorem dX6_goes_50 : decode cX6_goes 50 = .ok (.iconst 0, 1) := by decide +kernel
theorem dX6_goes_51 : decode cX6_goes 51 = .ok (.goto 4, 3) := by decide +kernel
theorem dX6_goes_54 : decode cX6_goes 54 = .ok (.iconst 1, 1) := by decide +kernel
theorem dX6_goes_55 : decode cX6_goes 55 = .ok (.iadd, 1) := by decide +kernel
theorem dX6_goes_56 : decode cX6_goes 56 = .ok (.iastore, 1) := by decide +kernel
theorem dX6_goes_57 : decode cX6_goes 57 = .ok (.iinc 1 1, 3) := by decide +kernel
theorem dX6_goes_60 : decode cX6_goes 60 = .ok (.goto (-42), 3) := by decide +kernel
theorem dX6_goes_63 : decode cX6_goes 63 = .ok (.iconst 0, 1) := by decide +kernel
theorem dX6_goes_64 : decode cX6_goes 64 = .ok (.istore_n 1, 1) := by decide +kernel
theorem dX6_goes_65 : decode cX6_goes 65 = .ok (.iload_n 1, 1) := by decide +kernel
theorem dX6_goes_66 : decode cX6_goes 66 = .ok (.aload_n 0, 1) := by decide +kernel
theorem dX6_goes_67 : decode cX6_goes 67 = .ok (.getfield 31, 3) := by decide +kernel
theorem dX6_goes_70 : decode cX6_goes 70 = .ok (.iconst 2, 1) := by decide +kernel
theorem dX6_goes_71 : decode cX6_goes 71 = .ok (.iaload, 1) := by decide +kernel
theorem dX6_goes_72 : decode cX6_goes 72 = .ok (.if_icmp .ge 140, 3) := by decide +kernel
theorem dX6_goes_75 : decode cX6_goes 75 = .ok (.iload_n 1, 1) := by decide +kernel
theorem dX6_goes_76 : decode cX6_goes 76 = .ok (.iconst 1, 1) := by decide +kernel
theorem dX6_goes_77 : decode cX6_goes 77 = .ok (.iadd, 1) := by decide +kernel
theorem dX6_goes_78 : decode cX6_goes 78 = .ok (.istore_n 2, 1) := by decide +kernel
theorem dX6_goes_79 : decode cX6_goes 79 = .ok (.iload_n 2, 1) := by decide +kernel
theorem dX6_goes_80 : decode cX6_goes 80 = .ok (.aload_n 0, 1) := by decide +kernel
theorem dX6_goes_81 : decode cX6_goes 81 = .ok (.getfield 31, 3) := by decide +kernel
theorem dX6_goes_84 : decode cX6_goes 84 = .ok (.iconst 2, 1) := by decide +kernel
theorem dX6_goes_85 : decode cX6_goes 85 = .ok (.iaload, 1) := by decide +kernel
theorem dX6_goes_86 : decode cX6_goes 86 = .ok (.if_icmp .ge 120, 3) := by decide +kernel
theorem dX6_goes_89 : decode cX6_goes 89 = .ok (.aload_n 0, 1) := by decide +kernel
theorem dX6_goes_90 : decode cX6_goes 90 = .ok (.getfield 31, 3) := by decide +kernel
theorem dX6_goes_93 : decode cX6_goes 93 = .ok (.bipush 40, 2) := by decide +kernel
theorem dX6_goes_95 : decode cX6_goes 95 = .ok (.iload_n 1, 1) := by decide +kernel
theorem dX6_goes_96 : decode cX6_goes 96 = .ok (.iadd, 1) := by decide +kernel
theorem dX6_goes_97 : decode cX6_goes 97 = .ok (.iaload, 1) := by decide +kernel
theorem dX6_goes_98 : decode cX6_goes 98 = .ok (.aload_n 0, 1) := by decide +kernel
theorem dX6_goes_99 : decode cX6_goes 99 = .ok (.getfield 105, 3) := by decide +kernel
theorem dX6_goes_102 : decode cX6_goes 102 = .ok (.if_icmp .lt 98, 3) := by decide +kernel
theorem dX6_goes_105 : decode cX6_goes 105 = .ok (.aload_n 0, 1) := by decide +kernel
theorem dX6_goes_106 : decode cX6_goes 106 = .ok (.getfield 31, 3) := by decide +kernel
theorem dX6_goes_109 : decode cX6_goes 109 = .ok (.bipush 40, 2) := by decide +kernel
theorem dX6_goes_111 : decode cX6_goes 111 = .ok (.iload_n 2, 1) := by decide +kernel
theorem dX6_goes_112 : decode cX6_goes 112 = .ok (.iadd, 1) := by decide +kernel
theorem dX6_goes_113 : decode cX6_goes 113 = .ok (.iaload, 1) := by decide +kernel
theorem dX6_goes_114 : decode cX6_goes 114 = .ok (.aload_n 0, 1) := by decide +kernel
theorem dX6_goes_115 : decode cX6_goes 115 = .ok (.getfield 105, 3) := by decide +kernel
theorem dX6_goes_118 : decode cX6_goes 118 = .ok (.if_icmp .lt 82, 3) := by decide +kernel
theorem dX6_goes_121 : decode cX6_goes 121 = .ok (.aload_n 0, 1) := by decide +kernel
theorem dX6_goes_122 : decode cX6_goes 122 = .ok (.iload_n 1, 1) := by decide +kernel
theorem dX6_goes_123 : decode cX6_goes 123 = .ok (.iload_n 2, 1) := by decide +kernel
theorem dX6_goes_124 : decode cX6_goes 124 = .ok (.invokevirtual 140, 3) := by decide +kernel
theorem dX6_goes_127 : decode cX6_goes 127 = .ok (.ifCond .eq 73, 3) := by decide +kernel
theorem dX6_goes_130 : decode cX6_goes 130 = .ok (.aload_n 0, 1) := by decide +kernel
theorem dX6_goes_131 : decode cX6_goes 131 = .ok (.getfield 31, 3) := by decide +kernel
theorem dX6_goes_134 : decode cX6_goes 134 = .ok (.iconst 3, 1) := by decide +kernel
theorem dX6_goes_135 : decode cX6_goes 135 = .ok (.dup2, 1) := by decide +kernel
theorem dX6_goes_136 : decode cX6_goes 136 = .ok (.iaload, 1) := by decide +kernel
theorem dX6_goes_137 : decode cX6_goes 137 = .ok (.iconst 1, 1) := by decide +kernel
theorem dX6_goes_138 : decode cX6_goes 138 = .ok (.iload_n 1, 1) := by decide +kernel
theorem dX6_goes_139 : decode cX6_goes 139 = .ok (.ishl, 1) := by decide +kernel
theorem dX6_goes_140 : decode cX6_goes 140 = .ok (.iconst 1, 1) := by decide +kernel
theorem dX6_goes_141 : decode cX6_goes 141 = .ok (.iload_n 2, 1) := by decide +kernel
theorem dX6_goes_142 : decode cX6_goes 142 = .ok (.ishl, 1) := by decide +kernel
theorem dX6_goes_143 : decode cX6_goes 143 = .ok (.ior, 1) := by decide +kernel
theorem dX6_goes_144 : decode cX6_goes 144 = .ok (.ior, 1) := by decide +kernel
theorem dX6_goes_145 : decode cX6_goes 145 = .ok (.iastore, 1) := by decide +kernel
theorem dX6_goes_146 : decode cX6_goes 146 = .ok (.aload_n 0, 1) := by decide +kernel
theorem dX6_goes_147 : decode cX6_goes 147 = .ok (.getfield 31, 3) := by decide +kernel
theorem dX6_goes_150 : decode cX6_goes 150 = .ok (.bipush 40, 2) := by decide +kernel
theorem dX6_goes_152 : decode cX6_goes 152 = .ok (.iload_n 1, 1) := by decide +kernel
theorem dX6_goes_153 : decode cX6_goes 153 = .ok (.iadd, 1) := by decide +kernel
theorem dX6_goes_154 : decode cX6_goes 154 = .ok (.iconst (-1), 1) := by decide +kernel
theorem dX6_goes_155 : decode cX6_goes 155 = .ok (.iastore, 1) := by decide +kernel
theorem dX6_goes_156 : decode cX6_goes 156 = .ok (.aload_n 0, 1) := by decide +kernel
theorem dX6_goes_157 : decode cX6_goes 157 = .ok (.getfield 31, 3) := by decide +kernel
theorem dX6_goes_160 : decode cX6_goes 160 = .ok (.bipush 40, 2) := by decide +kernel
theorem dX6_goes_162 : decode cX6_goes 162 = .ok (.iload_n 2, 1) := by decide +kernel
theorem dX6_goes_163 : decode cX6_goes 163 = .ok (.iadd, 1) := by decide +kernel
theorem dX6_goes_164 : decode cX6_goes 164 = .ok (.iconst (-1), 1) := by decide +kernel
theorem dX6_goes_165 : decode cX6_goes 165 = .ok (.iastore, 1) := by decide +kernel
theorem dX6_goes_166 : decode cX6_goes 166 = .ok (.aload_n 0, 1) := by decide +kernel
theorem dX6_goes_167 : decode cX6_goes 167 = .ok (.aload_n 0, 1) := by decide +kernel
theorem dX6_goes_168 : decode cX6_goes 168 = .ok (.getfield 137, 3) := by decide +kernel
theorem dX6_goes_171 : decode cX6_goes 171 = .ok (.ifCond .ge 12, 3) := by decide +kernel
theorem dX6_goes_174 : decode cX6_goes 174 = .ok (.bipush 10, 2) := by decide +kernel
theorem dX6_goes_176 : decode cX6_goes 176 = .ok (.iload_n 1, 1) := by decide +kernel
theorem dX6_goes_177 : decode cX6_goes 177 = .ok (.imul, 1) := by decide +kernel
theorem dX6_goes_178 : decode cX6_goes 178 = .ok (.iload_n 2, 1) := by decide +kernel
theorem dX6_goes_179 : decode cX6_goes 179 = .ok (.iadd, 1) := by decide +kernel
theorem dX6_goes_180 : decode cX6_goes 180 = .ok (.goto 7, 3) := by decide +kernel
theorem dX6_goes_183 : decode cX6_goes 183 = .ok (.aload_n 0, 1) := by decide +kernel
theorem dX6_goes_184 : decode cX6_goes 184 = .ok (.getfield 137, 3) := by decide +kernel
theorem dX6_goes_187 : decode cX6_goes 187 = .ok (.putfield 137, 3) := by decide +kernel
theorem dX6_goes_190 : decode cX6_goes 190 = .ok (.aload_n 0, 1) := by decide +kernel
theorem dX6_goes_191 : decode cX6_goes 191 = .ok (.dup, 1) := by decide +kernel
theorem dX6_goes_192 : decode cX6_goes 192 = .ok (.getfield 143, 3) := by decide +kernel
theorem dX6_goes_195 : decode cX6_goes 195 = .ok (.iconst 2, 1) := by decide +kernel
theorem dX6_goes_196 : decode cX6_goes 196 = .ok (.iadd, 1) := by decide +kernel
theorem dX6_goes_197 : decode cX6_goes 197 = .ok (.putfield 143, 3) := by decide +kernel
theorem dX6_goes_200 : decode cX6_goes 200 = .ok (.iinc 2 1, 3) := by decide +kernel
theorem dX6_goes_203 : decode cX6_goes 203 = .ok (.goto (-124), 3) := by decide +kernel
theorem dX6_goes_206 : decode cX6_goes 206 = .ok (.iinc 1 1, 3) := by decide +kernel
theorem dX6_goes_209 : decode cX6_goes 209 = .ok (.goto (-144), 3) := by decide +kernel
theorem dX6_goes_212 : decode cX6_goes 212 = .ok (.return_, 1) := by decide +kernel
theorem dX6_police_0 : decode cX6_police 0 = .ok (.iconst 0, 1) := by decide +kernel
theorem dX6_police_1 : decode cX6_police 1 = .ok (.istore_n 1, 1) := by decide +kernel
theorem dX6_police_2 : decode cX6_police 2 = .ok (.iconst 0, 1) := by decide +kernel
theorem dX6_police_3 : decode cX6_police 3 = .ok (.istore_n 2, 1) := by decide +kernel
theorem dX6_police_4 : decode cX6_police 4 = .ok (.iload_n 2, 1) := by decide +kernel
theorem dX6_police_5 : decode cX6_police 5 = .ok (.aload_n 0, 1) := by decide +kernel
theorem dX6_police_6 : decode cX6_police 6 = .ok (.getfield 31, 3) := by decide +kernel
theorem dX6_police_9 : decode cX6_police 9 = .ok (.iconst 2, 1) := by decide +kernel
theorem dX6_police_10 : decode cX6_police 10 = .ok (.iaload, 1) := by decide +kernel
theorem dX6_police_11 : decode cX6_police 11 = .ok (.if_icmp .ge 31, 3) := by decide +kernel
theorem dX6_police_14 : decode cX6_police 14 = .ok (.iload_n 1, 1) := by decide +kernel
theorem dX6_police_15 : decode cX6_police 15 = .ok (.aload_n 0, 1) := by decide +kernel
theorem dX6_police_16 : decode cX6_police 16 = .ok (.getfield 31, 3) := by decide +kernel
theorem dX6_police_19 : decode cX6_police 19 = .ok (.bipush 40, 2) := by decide +kernel
theorem dX6_police_21 : decode cX6_police 21 = .ok (.iload_n 2, 1) := by decide +kernel
theorem dX6_police_22 : decode cX6_police 22 = .ok (.iadd, 1) := by decide +kernel
theorem dX6_police_23 : decode cX6_police 23 = .ok (.iaload, 1) := by decide +kernel
theorem dX6_police_24 : decode cX6_police 24 = .ok (.ifCond .ge 7, 3) := by decide +kernel
theorem dX6_police_27 : decode cX6_police 27 = .ok (.iconst 0, 1) := by decide +kernel
theorem dX6_police_28 : decode cX6_police 28 = .ok (.goto 6, 3) := by decide +kernel
theorem dX6_police_31 : decode cX6_police 31 = .ok (.iconst 1, 1) := by decide +kernel
theorem dX6_police_32 : decode cX6_police 32 = .ok (.iload_n 2, 1) := by decide +kernel
theorem dX6_police_33 : decode cX6_police 33 = .ok (.ishl, 1) := by decide +kernel
theorem dX6_police_34 : decode cX6_police 34 = .ok (.ior, 1) := by decide +kernel
theorem dX6_police_35 : decode cX6_police 35 = .ok (.istore_n 1, 1) := by decide +kernel
theorem dX6_police_36 : decode cX6_police 36 = .ok (.iinc 2 1, 3) := by decide +kernel
theorem dX6_police_39 : decode cX6_police 39 = .ok (.goto (-35), 3) := by decide +kernel
theorem dX6_police_42 : decode cX6_police 42 = .ok (.iload_n 1, 1) := by decide +kernel
theorem dX6_police_43 : decode cX6_police 43 = .ok (.ireturn, 1) := by decide +kernel
set_option maxRecDepth 20000 in
theorem ggX6_saying_X6_isSaying : GoodIn wsX6_saying wsX6_isSaying := goodIn_r _ [6, 1, 7, 8, 5, 9, 28, 29, 30, 31, 32, 33, 34, 35, 36, 37, 38, 39, 40, 41, 42, 43, 44, 45, 46, 47, 48] (by decide +kernel) (by decide +kernel)
set_option maxRecDepth 20000 in
theorem gX6_saying_X6_isSaying : GoodIn wsX6_saying (wsV RX6 146 RX6 yX6_isSaying wsX6_isSaying) := goodIn_app (goodIn_of _ (by decide +kernel)) ggX6_saying_X6_isSaying
set_option maxRecDepth 20000 in
theorem ggX6_saying_X6_in : GoodIn wsX6_saying wsX6_in := goodIn_r _ [9] (by decide +kernel) (by decide +kernel)
set_option maxRecDepth 20000 in
theorem gX6_saying_X6_in : GoodIn wsX6_saying (va_wsS RX6 64 yX6_in wsX6_in) := goodIn_app (goodIn_of _ (by decide +kernel)) ggX6_saying_X6_in
set_option maxRecDepth 20000 in
theorem ggX6_saying_X6_asItIs : GoodIn wsX6_saying wsX6_asItIs := goodIn_r _ [13, 14, 1, 15, 16, 5, 17, 28, 29, 30, 31, 32, 33, 34, 35, 36, 37, 38, 39, 40, 41, 42, 43, 44, 45, 46, 47, 48] (by decide +kernel) (by decide +kernel)
set_option maxRecDepth 20000 in
theorem gX6_saying_X6_asItIs : GoodIn wsX6_saying (wsV RX6 149 RX6 yX6_asItIs wsX6_asItIs) := goodIn_app (goodIn_of _ (by decide +kernel)) ggX6_saying_X6_asItIs
set_option maxRecDepth 20000 in
theorem ggX6_saying_X6_isSo : GoodIn wsX6_saying wsX6_isSo := goodIn_r _ [21, 14, 22, 23, 5, 24, 25, 26, 27, 28, 29, 30, 31, 32, 33, 34, 35, 36, 37, 38, 39, 40, 41, 42, 43, 44, 45, 46, 47, 48] (by decide +kernel) (by decide +kernel)
set_option maxRecDepth 20000 in
theorem gX6_saying_X6_isSo : GoodIn wsX6_saying (wsV RX6 131 RX6 yX6_isSo wsX6_isSo) := goodIn_app (goodIn_of _ (by decide +kernel)) ggX6_saying_X6_isSo
theorem dX6_saying_0 : decode cX6_saying 0 = .ok (.aload_n 0, 1) := by decide +kernel
theorem dX6_saying_1 : decode cX6_saying 1 = .ok (.iload_n 1, 1) := by decide +kernel
theorem dX6_saying_2 : decode cX6_saying 2 = .ok (.invokevirtual 146, 3) := by decide +kernel
theorem dX6_saying_5 : decode cX6_saying 5 = .ok (.ifCond .eq 13, 3) := by decide +kernel
theorem dX6_saying_8 : decode cX6_saying 8 = .ok (.iload_n 2, 1) := by decide +kernel
theorem dX6_saying_9 : decode cX6_saying 9 = .ok (.iconst 0, 1) := by decide +kernel
theorem dX6_saying_10 : decode cX6_saying 10 = .ok (.bipush 6, 2) := by decide +kernel
theorem dX6_saying_12 : decode cX6_saying 12 = .ok (.invokestatic 64, 3) := by decide +kernel
theorem dX6_saying_15 : decode cX6_saying 15 = .ok (.ifCond .ne 5, 3) := by decide +kernel
theorem dX6_saying_18 : decode cX6_saying 18 = .ok (.iconst (-1), 1) := by decide +kernel
theorem dX6_saying_19 : decode cX6_saying 19 = .ok (.ireturn, 1) := by decide +kernel
theorem dX6_saying_20 : decode cX6_saying 20 = .ok (.aload_n 0, 1) := by decide +kernel
theorem dX6_saying_21 : decode cX6_saying 21 = .ok (.invokevirtual 149, 3) := by decide +kernel
theorem dX6_saying_24 : decode cX6_saying 24 = .ok (.iload_n 2, 1) := by decide +kernel
theorem dX6_saying_25 : decode cX6_saying 25 = .ok (.iconst 4, 1) := by decide +kernel
theorem dX6_saying_26 : decode cX6_saying 26 = .ok (.if_icmp .ge 16, 3) := by decide +kernel
theorem dX6_saying_29 : decode cX6_saying 29 = .ok (.aload_n 0, 1) := by decide +kernel
theorem dX6_saying_30 : decode cX6_saying 30 = .ok (.getfield 7, 3) := by decide +kernel
theorem dX6_saying_33 : decode cX6_saying 33 = .ok (.iconst 4, 1) := by decide +kernel
theorem dX6_saying_34 : decode cX6_saying 34 = .ok (.iconst 4, 1) := by decide +kernel
theorem dX6_saying_35 : decode cX6_saying 35 = .ok (.iload_n 1, 1) := by decide +kernel
theorem dX6_saying_36 : decode cX6_saying 36 = .ok (.imul, 1) := by decide +kernel
theorem dX6_saying_37 : decode cX6_saying 37 = .ok (.iadd, 1) := by decide +kernel
theorem dX6_saying_38 : decode cX6_saying 38 = .ok (.iload_n 2, 1) := by decide +kernel
theorem dX6_saying_39 : decode cX6_saying 39 = .ok (.iadd, 1) := by decide +kernel
theorem dX6_saying_40 : decode cX6_saying 40 = .ok (.iaload, 1) := by decide +kernel
theorem dX6_saying_41 : decode cX6_saying 41 = .ok (.ireturn, 1) := by decide +kernel
theorem dX6_saying_42 : decode cX6_saying 42 = .ok (.iload_n 2, 1) := by decide +kernel
theorem dX6_saying_43 : decode cX6_saying 43 = .ok (.iconst 4, 1) := by decide +kernel
theorem dX6_saying_44 : decode cX6_saying 44 = .ok (.if_icmp .ne 25, 3) := by decide +kernel
theorem dX6_saying_47 : decode cX6_saying 47 = .ok (.aload_n 0, 1) := by decide +kernel
theorem dX6_saying_48 : decode cX6_saying 48 = .ok (.iload_n 1, 1) := by decide +kernel
theorem dX6_saying_49 : decode cX6_saying 49 = .ok (.aload_n 0, 1) := by decide +kernel
theorem dX6_saying_50 : decode cX6_saying 50 = .ok (.getfield 7, 3) := by decide +kernel
theorem dX6_saying_53 : decode cX6_saying 53 = .ok (.iconst 0, 1) := by decide +kernel
theorem dX6_saying_54 : decode cX6_saying 54 = .ok (.iaload, 1) := by decide +kernel
theorem dX6_saying_55 : decode cX6_saying 55 = .ok (.invokevirtual 131, 3) := by decide +kernel
theorem dX6_saying_58 : decode cX6_saying 58 = .ok (.ifCond .eq 7, 3) := by decide +kernel
theorem dX6_saying_61 : decode cX6_saying 61 = .ok (.iconst 1, 1) := by decide +kernel
theorem dX6_saying_62 : decode cX6_saying 62 = .ok (.goto 51, 3) := by decide +kernel
theorem dX6_saying_65 : decode cX6_saying 65 = .ok (.iconst 0, 1) := by decide +kernel
theorem dX6_saying_66 : decode cX6_saying 66 = .ok (.goto 47, 3) := by decide +kernel
theorem dX6_saying_69 : decode cX6_saying 69 = .ok (.iload_n 2, 1) := by decide +kernel
theorem dX6_saying_70 : decode cX6_saying 70 = .ok (.iconst 5, 1) := by decide +kernel
theorem dX6_saying_71 : decode cX6_saying 71 = .ok (.if_icmp .ne 16, 3) := by decide +kernel
theorem dX6_saying_74 : decode cX6_saying 74 = .ok (.aload_n 0, 1) := by decide +kernel
theorem dX6_saying_75 : decode cX6_saying 75 = .ok (.getfield 7, 3) := by decide +kernel
theorem dX6_saying_78 : decode cX6_saying 78 = .ok (.iconst 3, 1) := by decide +kernel
theorem dX6_saying_79 : decode cX6_saying 79 = .ok (.iaload, 1) := by decide +kernel
theorem dX6_saying_80 : decode cX6_saying 80 = .ok (.iload_n 1, 1) := by decide +kernel
theorem dX6_saying_81 : decode cX6_saying 81 = .ok (.ishr, 1) := by decide +kernel
theorem dX6_saying_82 : decode cX6_saying 82 = .ok (.iconst 1, 1) := by decide +kernel
theorem dX6_saying_83 : decode cX6_saying 83 = .ok (.iand, 1) := by decide +kernel
theorem dX6_saying_84 : decode cX6_saying 84 = .ok (.goto 29, 3) := by decide +kernel
theorem dX6_saying_87 : decode cX6_saying 87 = .ok (.aload_n 0, 1) := by decide +kernel
theorem dX6_saying_88 : decode cX6_saying 88 = .ok (.getfield 7, 3) := by decide +kernel
theorem dX6_saying_91 : decode cX6_saying 91 = .ok (.bipush 40, 2) := by decide +kernel
theorem dX6_saying_93 : decode cX6_saying 93 = .ok (.iload_n 1, 1) := by decide +kernel
theorem dX6_saying_94 : decode cX6_saying 94 = .ok (.iadd, 1) := by decide +kernel
theorem dX6_saying_95 : decode cX6_saying 95 = .ok (.iaload, 1) := by decide +kernel
theorem dX6_saying_96 : decode cX6_saying 96 = .ok (.ifCond .ge 8, 3) := by decide +kernel
theorem dX6_saying_99 : decode cX6_saying 99 = .ok (.bipush (-4), 2) := by decide +kernel
theorem dX6_saying_101 : decode cX6_saying 101 = .ok (.goto 12, 3) := by decide +kernel
theorem dX6_saying_104 : decode cX6_saying 104 = .ok (.aload_n 0, 1) := by decide +kernel
theorem dX6_saying_105 : decode cX6_saying 105 = .ok (.getfield 7, 3) := by decide +kernel
theorem dX6_saying_108 : decode cX6_saying 108 = .ok (.bipush 40, 2) := by decide +kernel
theorem dX6_saying_110 : decode cX6_saying 110 = .ok (.iload_n 1, 1) := by decide +kernel
theorem dX6_saying_111 : decode cX6_saying 111 = .ok (.iadd, 1) := by decide +kernel
theorem dX6_saying_112 : decode cX6_saying 112 = .ok (.iaload, 1) := by decide +kernel
theorem dX6_saying_113 : decode cX6_saying 113 = .ok (.ireturn, 1) := by decide +kernel
set_option maxRecDepth 20000 in
theorem ggX6_fact_X6_isFact : GoodIn wsX6_fact wsX6_isFact := goodIn_r _ [5, 6, 7, 4, 8] (by decide +kernel) (by decide +kernel)
set_option maxRecDepth 20000 in
theorem gX6_fact_X6_isFact : GoodIn wsX6_fact (va_wsS RX6 152 yX6_isFact wsX6_isFact) := goodIn_app (goodIn_of _ (by decide +kernel)) ggX6_fact_X6_isFact
theorem dX6_fact_0 : decode cX6_fact 0 = .ok (.iload_n 1, 1) := by decide +kernel
theorem dX6_fact_1 : decode cX6_fact 1 = .ok (.invokestatic 152, 3) := by decide +kernel
theorem dX6_fact_4 : decode cX6_fact 4 = .ok (.ifCond .eq 16, 3) := by decide +kernel
theorem dX6_fact_7 : decode cX6_fact 7 = .ok (.aload_n 0, 1) := by decide +kernel
theorem dX6_fact_8 : decode cX6_fact 8 = .ok (.getfield 7, 3) := by decide +kernel
theorem dX6_fact_11 : decode cX6_fact 11 = .ok (.iconst 0, 1) := by decide +kernel
theorem dX6_fact_12 : decode cX6_fact 12 = .ok (.iaload, 1) := by decide +kernel
theorem dX6_fact_13 : decode cX6_fact 13 = .ok (.iload_n 1, 1) := by decide +kernel
theorem dX6_fact_14 : decode cX6_fact 14 = .ok (.ishr, 1) := by decide +kernel
theorem dX6_fact_15 : decode cX6_fact 15 = .ok (.iconst 1, 1) := by decide +kernel
theorem dX6_fact_16 : decode cX6_fact 16 = .ok (.iand, 1) := by decide +kernel
theorem dX6_fact_17 : decode cX6_fact 17 = .ok (.goto 4, 3) := by decide +kernel
theorem dX6_fact_20 : decode cX6_fact 20 = .ok (.iconst (-1), 1) := by decide +kernel
theorem dX6_fact_21 : decode cX6_fact 21 = .ok (.ireturn, 1) := by decide +kernel
set_option maxRecDepth 20000 in
theorem ggX6_clash_X6_isSaying : GoodIn wsX6_clash wsX6_isSaying := goodIn_r _ [5, 6, 7, 8, 4, 9, 32, 33, 34, 35, 36, 37, 38, 39, 40, 41, 42, 43, 44, 45, 46, 47, 48, 49, 50, 51, 52] (by decide +kernel) (by decide +kernel)
set_option maxRecDepth 20000 in
theorem gX6_clash_X6_isSaying : GoodIn wsX6_clash (wsV RX6 146 RX6 yX6_isSaying wsX6_isSaying) := goodIn_app (goodIn_of _ (by decide +kernel)) ggX6_clash_X6_isSaying
set_option maxRecDepth 20000 in
theorem ggX6_clash_X6_asItIs : GoodIn wsX6_clash wsX6_asItIs := goodIn_r _ [13, 14, 6, 15, 16, 4, 17, 32, 33, 34, 35, 36, 37, 38, 39, 40, 41, 42, 43, 44, 45, 46, 47, 48, 49, 50, 51, 52] (by decide +kernel) (by decide +kernel)
set_option maxRecDepth 20000 in
theorem gX6_clash_X6_asItIs : GoodIn wsX6_clash (wsV RX6 149 RX6 yX6_asItIs wsX6_asItIs) := goodIn_app (goodIn_of _ (by decide +kernel)) ggX6_clash_X6_asItIs
set_option maxRecDepth 20000 in
theorem ggX6_clash_X6_doClash : GoodIn wsX6_clash wsX6_doClash := goodIn_r _ [21, 22, 23, 24, 4, 25, 14, 26, 27, 28, 29, 30, 31, 32, 33, 34, 35, 36, 37, 38, 39, 40, 41, 42, 43, 44, 45, 46, 47, 48, 49, 50, 51, 52] (by decide +kernel) (by decide +kernel)
set_option maxRecDepth 20000 in
theorem gX6_clash_X6_doClash : GoodIn wsX6_clash (wsV RX6 140 RX6 yX6_doClash wsX6_doClash) := goodIn_app (goodIn_of _ (by decide +kernel)) ggX6_clash_X6_doClash
theorem dX6_clash_0 : decode cX6_clash 0 = .ok (.aload_n 0, 1) := by decide +kernel
theorem dX6_clash_1 : decode cX6_clash 1 = .ok (.iload_n 1, 1) := by decide +kernel
theorem dX6_clash_2 : decode cX6_clash 2 = .ok (.invokevirtual 146, 3) := by decide +kernel
theorem dX6_clash_5 : decode cX6_clash 5 = .ok (.ifCond .eq 16, 3) := by decide +kernel
theorem dX6_clash_8 : decode cX6_clash 8 = .ok (.aload_n 0, 1) := by decide +kernel
theorem dX6_clash_9 : decode cX6_clash 9 = .ok (.iload_n 2, 1) := by decide +kernel
theorem dX6_clash_10 : decode cX6_clash 10 = .ok (.invokevirtual 146, 3) := by decide +kernel
theorem dX6_clash_13 : decode cX6_clash 13 = .ok (.ifCond .eq 8, 3) := by decide +kernel
theorem dX6_clash_16 : decode cX6_clash 16 = .ok (.iload_n 1, 1) := by decide +kernel
theorem dX6_clash_17 : decode cX6_clash 17 = .ok (.iload_n 2, 1) := by decide +kernel
theorem dX6_clash_18 : decode cX6_clash 18 = .ok (.if_icmp .ne 5, 3) := by decide +kernel
theorem dX6_clash_21 : decode cX6_clash 21 = .ok (.iconst (-1), 1) := by decide +kernel
theorem dX6_clash_22 : decode cX6_clash 22 = .ok (.ireturn, 1) := by decide +kernel
theorem dX6_clash_23 : decode cX6_clash 23 = .ok (.aload_n 0, 1) := by decide +kernel
theorem dX6_clash_24 : decode cX6_clash 24 = .ok (.invokevirtual 149, 3) := by decide +kernel
theorem dX6_clash_27 : decode cX6_clash 27 = .ok (.aload_n 0, 1) := by decide +kernel
theorem dX6_clash_28 : decode cX6_clash 28 = .ok (.iload_n 1, 1) := by decide +kernel
theorem dX6_clash_29 : decode cX6_clash 29 = .ok (.iload_n 2, 1) := by decide +kernel
theorem dX6_clash_30 : decode cX6_clash 30 = .ok (.invokevirtual 140, 3) := by decide +kernel
theorem dX6_clash_33 : decode cX6_clash 33 = .ok (.ifCond .eq 7, 3) := by decide +kernel
theorem dX6_clash_36 : decode cX6_clash 36 = .ok (.iconst 1, 1) := by decide +kernel
theorem dX6_clash_37 : decode cX6_clash 37 = .ok (.goto 4, 3) := by decide +kernel
theorem dX6_clash_40 : decode cX6_clash 40 = .ok (.iconst 0, 1) := by decide +kernel
theorem dX6_clash_41 : decode cX6_clash 41 = .ok (.ireturn, 1) := by decide +kernel
set_option maxRecDepth 20000 in
theorem ggX6_remembers_X6_copies : GoodIn wsX6_remembers wsX6_copies := goodIn_r _ [7] (by decide +kernel) (by decide +kernel)
set_option maxRecDepth 20000 in
theorem gX6_remembers_X6_copies : GoodIn wsX6_remembers (va_wsS RX6 108 yX6_copies wsX6_copies) := goodIn_app (goodIn_of _ (by decide +kernel)) ggX6_remembers_X6_copies
theorem dX6_remembers_0 : decode cX6_remembers 0 = .ok (.aload_n 0, 1) := by decide +kernel
theorem dX6_remembers_1 : decode cX6_remembers 1 = .ok (.getfield 115, 3) := by decide +kernel
theorem dX6_remembers_4 : decode cX6_remembers 4 = .ok (.bipush 8, 2) := by decide +kernel
theorem dX6_remembers_6 : decode cX6_remembers 6 = .ok (.if_icmp .ne 43, 3) := by decide +kernel
theorem dX6_remembers_9 : decode cX6_remembers 9 = .ok (.iconst 0, 1) := by decide +kernel
theorem dX6_remembers_10 : decode cX6_remembers 10 = .ok (.istore_n 1, 1) := by decide +kernel
theorem dX6_remembers_11 : decode cX6_remembers 11 = .ok (.iload_n 1, 1) := by decide +kernel
theorem dX6_remembers_12 : decode cX6_remembers 12 = .ok (.sipush 343, 3) := by decide +kernel
theorem dX6_remembers_15 : decode cX6_remembers 15 = .ok (.if_icmp .ge 24, 3) := by decide +kernel
theorem dX6_remembers_18 : decode cX6_remembers 18 = .ok (.aload_n 0, 1) := by decide +kernel
theorem dX6_remembers_19 : decode cX6_remembers 19 = .ok (.getfield 13, 3) := by decide +kernel
theorem dX6_remembers_22 : decode cX6_remembers 22 = .ok (.iload_n 1, 1) := by decide +kernel
theorem dX6_remembers_23 : decode cX6_remembers 23 = .ok (.aload_n 0, 1) := by decide +kernel
theorem dX6_remembers_24 : decode cX6_remembers 24 = .ok (.getfield 13, 3) := by decide +kernel
theorem dX6_remembers_27 : decode cX6_remembers 27 = .ok (.iload_n 1, 1) := by decide +kernel
theorem dX6_remembers_28 : decode cX6_remembers 28 = .ok (.bipush 49, 2) := by decide +kernel
theorem dX6_remembers_30 : decode cX6_remembers 30 = .ok (.iadd, 1) := by decide +kernel
theorem dX6_remembers_31 : decode cX6_remembers 31 = .ok (.iaload, 1) := by decide +kernel
theorem dX6_remembers_32 : decode cX6_remembers 32 = .ok (.iastore, 1) := by decide +kernel
theorem dX6_remembers_33 : decode cX6_remembers 33 = .ok (.iinc 1 1, 3) := by decide +kernel
theorem dX6_remembers_36 : decode cX6_remembers 36 = .ok (.goto (-25), 3) := by decide +kernel
theorem dX6_remembers_39 : decode cX6_remembers 39 = .ok (.aload_n 0, 1) := by decide +kernel
theorem dX6_remembers_40 : decode cX6_remembers 40 = .ok (.dup, 1) := by decide +kernel
theorem dX6_remembers_41 : decode cX6_remembers 41 = .ok (.getfield 115, 3) := by decide +kernel
theorem dX6_remembers_44 : decode cX6_remembers 44 = .ok (.iconst 1, 1) := by decide +kernel
theorem dX6_remembers_45 : decode cX6_remembers 45 = .ok (.isub, 1) := by decide +kernel
theorem dX6_remembers_46 : decode cX6_remembers 46 = .ok (.putfield 115, 3) := by decide +kernel
theorem dX6_remembers_49 : decode cX6_remembers 49 = .ok (.aload_n 0, 1) := by decide +kernel
theorem dX6_remembers_50 : decode cX6_remembers 50 = .ok (.getfield 13, 3) := by decide +kernel
theorem dX6_remembers_53 : decode cX6_remembers 53 = .ok (.bipush 49, 2) := by decide +kernel
theorem dX6_remembers_55 : decode cX6_remembers 55 = .ok (.aload_n 0, 1) := by decide +kernel
theorem dX6_remembers_56 : decode cX6_remembers 56 = .ok (.getfield 115, 3) := by decide +kernel
theorem dX6_remembers_59 : decode cX6_remembers 59 = .ok (.imul, 1) := by decide +kernel
theorem dX6_remembers_60 : decode cX6_remembers 60 = .ok (.aload_n 0, 1) := by decide +kernel
theorem dX6_remembers_61 : decode cX6_remembers 61 = .ok (.getfield 7, 3) := by decide +kernel
theorem dX6_remembers_64 : decode cX6_remembers 64 = .ok (.iconst 0, 1) := by decide +kernel
theorem dX6_remembers_65 : decode cX6_remembers 65 = .ok (.invokestatic 108, 3) := by decide +kernel
theorem dX6_remembers_68 : decode cX6_remembers 68 = .ok (.aload_n 0, 1) := by decide +kernel
theorem dX6_remembers_69 : decode cX6_remembers 69 = .ok (.dup, 1) := by decide +kernel
theorem dX6_remembers_70 : decode cX6_remembers 70 = .ok (.getfield 115, 3) := by decide +kernel
theorem dX6_remembers_73 : decode cX6_remembers 73 = .ok (.iconst 1, 1) := by decide +kernel
theorem dX6_remembers_74 : decode cX6_remembers 74 = .ok (.iadd, 1) := by decide +kernel
theorem dX6_remembers_75 : decode cX6_remembers 75 = .ok (.putfield 115, 3) := by decide +kernel
theorem dX6_remembers_78 : decode cX6_remembers 78 = .ok (.return_, 1) := by decide +kernel
set_option maxRecDepth 20000 in
theorem ggX6_pass_X6_in : GoodIn wsX6_pass wsX6_in := goodIn_r _ [6] (by decide +kernel) (by decide +kernel)
set_option maxRecDepth 20000 in
theorem gX6_pass_X6_in : GoodIn wsX6_pass (va_wsS RX6 64 yX6_in wsX6_in) := goodIn_app (goodIn_of _ (by decide +kernel)) ggX6_pass_X6_in
set_option maxRecDepth 20000 in
theorem ggX6_pass_X6_remembers : GoodIn wsX6_pass wsX6_remembers := goodIn_r _ [10, 11, 12, 1, 13, 14, 5, 15, 41, 42, 43, 44, 45, 46, 47, 48, 49, 50, 51, 52, 53, 54, 55, 56, 57, 58, 59, 60, 61] (by decide +kernel) (by decide +kernel)
set_option maxRecDepth 20000 in
theorem gX6_pass_X6_remembers : GoodIn wsX6_pass (wsV RX6 155 RX6 yX6_remembers wsX6_remembers) := goodIn_app (goodIn_of _ (by decide +kernel)) ggX6_pass_X6_remembers
set_option maxRecDepth 20000 in
theorem ggX6_pass_X6_asItIs : GoodIn wsX6_pass wsX6_asItIs := goodIn_r _ [19, 2, 1, 13, 14, 5, 15, 41, 42, 43, 44, 45, 46, 47, 48, 49, 50, 51, 52, 53, 54, 55, 56, 57, 58, 59, 60, 61] (by decide +kernel) (by decide +kernel)
set_option maxRecDepth 20000 in
theorem gX6_pass_X6_asItIs : GoodIn wsX6_pass (wsV RX6 149 RX6 yX6_asItIs wsX6_asItIs) := goodIn_app (goodIn_of _ (by decide +kernel)) ggX6_pass_X6_asItIs
set_option maxRecDepth 20000 in
theorem ggX6_pass_X6_goes : GoodIn wsX6_pass wsX6_goes := goodIn_r _ [23, 24, 2, 25, 26, 27, 28, 29, 5, 30, 31, 32, 33, 34, 35, 36, 37, 38, 39, 40, 41, 42, 43, 44, 45, 46, 47, 48, 49, 50, 51, 52, 53, 54, 55, 56, 57, 58, 59, 60, 61] (by decide +kernel) (by decide +kernel)
set_option maxRecDepth 20000 in
theorem gX6_pass_X6_goes : GoodIn wsX6_pass (wsV RX6 158 RX6 yX6_goes wsX6_goes) := goodIn_app (goodIn_of _ (by decide +kernel)) ggX6_pass_X6_goes
set_option maxRecDepth 20000 in
theorem ggX6_pass_X6_copies : GoodIn wsX6_pass wsX6_copies := goodIn_r _ [15] (by decide +kernel) (by decide +kernel)
set_option maxRecDepth 20000 in
theorem gX6_pass_X6_copies : GoodIn wsX6_pass (va_wsS RX6 108 yX6_copies wsX6_copies) := goodIn_app (goodIn_of _ (by decide +kernel)) ggX6_pass_X6_copies
theorem dX6_pass_0 : decode cX6_pass 0 = .ok (.iload_n 1, 1) := by decide +kernel
theorem dX6_pass_1 : decode cX6_pass 1 = .ok (.iconst 1, 1) := by decide +kernel
theorem dX6_pass_2 : decode cX6_pass 2 = .ok (.bipush 30, 2) := by decide +kernel
theorem dX6_pass_4 : decode cX6_pass 4 = .ok (.invokestatic 64, 3) := by decide +kernel
theorem dX6_pass_7 : decode cX6_pass 7 = .ok (.ifCond .ne 5, 3) := by decide +kernel
theorem dX6_pass_10 : decode cX6_pass 10 = .ok (.iconst (-1), 1) := by decide +kernel
theorem dX6_pass_11 : decode cX6_pass 11 = .ok (.ireturn, 1) := by decide +kernel
theorem dX6_pass_12 : decode cX6_pass 12 = .ok (.aload_n 0, 1) := by decide +kernel
theorem dX6_pass_13 : decode cX6_pass 13 = .ok (.invokevirtual 155, 3) := by decide +kernel
theorem dX6_pass_16 : decode cX6_pass 16 = .ok (.aload_n 0, 1) := by decide +kernel
theorem dX6_pass_17 : decode cX6_pass 17 = .ok (.invokevirtual 149, 3) := by decide +kernel
theorem dX6_pass_20 : decode cX6_pass 20 = .ok (.iconst 0, 1) := by decide +kernel
theorem dX6_pass_21 : decode cX6_pass 21 = .ok (.istore_n 2, 1) := by decide +kernel
theorem dX6_pass_22 : decode cX6_pass 22 = .ok (.iload_n 2, 1) := by decide +kernel
theorem dX6_pass_23 : decode cX6_pass 23 = .ok (.iload_n 1, 1) := by decide +kernel
theorem dX6_pass_24 : decode cX6_pass 24 = .ok (.if_icmp .ge 13, 3) := by decide +kernel
theorem dX6_pass_27 : decode cX6_pass 27 = .ok (.aload_n 0, 1) := by decide +kernel
theorem dX6_pass_28 : decode cX6_pass 28 = .ok (.invokevirtual 158, 3) := by decide +kernel
theorem dX6_pass_31 : decode cX6_pass 31 = .ok (.iinc 2 1, 3) := by decide +kernel
theorem dX6_pass_34 : decode cX6_pass 34 = .ok (.goto (-12), 3) := by decide +kernel
theorem dX6_pass_37 : decode cX6_pass 37 = .ok (.aload_n 0, 1) := by decide +kernel
theorem dX6_pass_38 : decode cX6_pass 38 = .ok (.getfield 7, 3) := by decide +kernel
theorem dX6_pass_41 : decode cX6_pass 41 = .ok (.iconst 0, 1) := by decide +kernel
theorem dX6_pass_42 : decode cX6_pass 42 = .ok (.aload_n 0, 1) := by decide +kernel
theorem dX6_pass_43 : decode cX6_pass 43 = .ok (.getfield 31, 3) := by decide +kernel
theorem dX6_pass_46 : decode cX6_pass 46 = .ok (.iconst 0, 1) := by decide +kernel
theorem dX6_pass_47 : decode cX6_pass 47 = .ok (.invokestatic 108, 3) := by decide +kernel
theorem dX6_pass_50 : decode cX6_pass 50 = .ok (.aload_n 0, 1) := by decide +kernel
theorem dX6_pass_51 : decode cX6_pass 51 = .ok (.getfield 7, 3) := by decide +kernel
theorem dX6_pass_54 : decode cX6_pass 54 = .ok (.iconst 1, 1) := by decide +kernel
theorem dX6_pass_55 : decode cX6_pass 55 = .ok (.iaload, 1) := by decide +kernel
theorem dX6_pass_56 : decode cX6_pass 56 = .ok (.ireturn, 1) := by decide +kernel
set_option maxRecDepth 20000 in
theorem ggX6_say_X6_in : GoodIn wsX6_say wsX6_in := goodIn_r _ [6] (by decide +kernel) (by decide +kernel)
set_option maxRecDepth 20000 in
theorem gX6_say_X6_in : GoodIn wsX6_say (va_wsS RX6 64 yX6_in wsX6_in) := goodIn_app (goodIn_of _ (by decide +kernel)) ggX6_say_X6_in
set_option maxRecDepth 20000 in
theorem ggX6_say_X6_remembers : GoodIn wsX6_say wsX6_remembers := goodIn_r _ [10, 11, 12, 1, 13, 14, 5, 15, 41, 42, 43, 44, 45, 46, 47, 48, 49, 50, 51, 52, 53, 54, 55, 56, 57, 58, 59, 60, 61] (by decide +kernel) (by decide +kernel)
set_option maxRecDepth 20000 in
theorem gX6_say_X6_remembers : GoodIn wsX6_say (wsV RX6 155 RX6 yX6_remembers wsX6_remembers) := goodIn_app (goodIn_of _ (by decide +kernel)) ggX6_say_X6_remembers
set_option maxRecDepth 20000 in
theorem ggX6_say_X6_asItIs : GoodIn wsX6_say wsX6_asItIs := goodIn_r _ [19, 2, 1, 13, 14, 5, 15, 41, 42, 43, 44, 45, 46, 47, 48, 49, 50, 51, 52, 53, 54, 55, 56, 57, 58, 59, 60, 61] (by decide +kernel) (by decide +kernel)
set_option maxRecDepth 20000 in
theorem gX6_say_X6_asItIs : GoodIn wsX6_say (wsV RX6 149 RX6 yX6_asItIs wsX6_asItIs) := goodIn_app (goodIn_of _ (by decide +kernel)) ggX6_say_X6_asItIs
set_option maxRecDepth 20000 in
theorem ggX6_say_X6_puts : GoodIn wsX6_say wsX6_puts := goodIn_r _ [22] (by decide +kernel) (by decide +kernel)
set_option maxRecDepth 20000 in
theorem gX6_say_X6_puts : GoodIn wsX6_say (va_wsS RX6 60 yX6_puts wsX6_puts) := goodIn_app (goodIn_of _ (by decide +kernel)) ggX6_say_X6_puts
set_option maxRecDepth 20000 in
theorem ggX6_say_X6_appoints : GoodIn wsX6_say wsX6_appoints := goodIn_r _ [26, 2, 27, 28, 29, 5, 30, 31, 32, 33, 34, 35, 36, 37, 38, 39, 40, 41, 42, 43, 44, 45, 46, 47, 48, 49, 50, 51, 52, 53, 54, 55, 56, 57, 58, 59, 60, 61] (by decide +kernel) (by decide +kernel)
set_option maxRecDepth 20000 in
theorem gX6_say_X6_appoints : GoodIn wsX6_say (wsV RX6 112 RX6 yX6_appoints wsX6_appoints) := goodIn_app (goodIn_of _ (by decide +kernel)) ggX6_say_X6_appoints
set_option maxRecDepth 20000 in
theorem ggX6_say_X6_copies : GoodIn wsX6_say wsX6_copies := goodIn_r _ [15] (by decide +kernel) (by decide +kernel)
set_option maxRecDepth 20000 in
theorem gX6_say_X6_copies : GoodIn wsX6_say (va_wsS RX6 108 yX6_copies wsX6_copies) := goodIn_app (goodIn_of _ (by decide +kernel)) ggX6_say_X6_copies
theorem dX6_say_0 : decode cX6_say 0 = .ok (.iload_n 1, 1) := by decide +kernel
theorem dX6_say_1 : decode cX6_say 1 = .ok (.iconst 0, 1) := by decide +kernel
theorem dX6_say_2 : decode cX6_say 2 = .ok (.iconst 4, 1) := by decide +kernel
theorem dX6_say_3 : decode cX6_say 3 = .ok (.invokestatic 64, 3) := by decide +kernel
theorem dX6_say_6 : decode cX6_say 6 = .ok (.ifCond .eq 37, 3) := by decide +kernel
theorem dX6_say_9 : decode cX6_say 9 = .ok (.iload_n 2, 1) := by decide +kernel
theorem dX6_say_10 : decode cX6_say 10 = .ok (.iconst 0, 1) := by decide +kernel
theorem dX6_say_11 : decode cX6_say 11 = .ok (.bipush 11, 2) := by decide +kernel
theorem dX6_say_13 : decode cX6_say 13 = .ok (.invokestatic 64, 3) := by decide +kernel
theorem dX6_say_16 : decode cX6_say 16 = .ok (.ifCond .eq 27, 3) := by decide +kernel
theorem dX6_say_19 : decode cX6_say 19 = .ok (.iload_n 1, 1) := by decide +kernel
theorem dX6_say_20 : decode cX6_say 20 = .ok (.ifCond .eq 13, 3) := by decide +kernel
theorem dX6_say_23 : decode cX6_say 23 = .ok (.iload_n 3, 1) := by decide +kernel
theorem dX6_say_24 : decode cX6_say 24 = .ok (.iconst 0, 1) := by decide +kernel
theorem dX6_say_25 : decode cX6_say 25 = .ok (.bipush 11, 2) := by decide +kernel
theorem dX6_say_27 : decode cX6_say 27 = .ok (.invokestatic 64, 3) := by decide +kernel
theorem dX6_say_30 : decode cX6_say 30 = .ok (.ifCond .eq 13, 3) := by decide +kernel
theorem dX6_say_33 : decode cX6_say 33 = .ok (.iload 4, 2) := by decide +kernel
theorem dX6_say_35 : decode cX6_say 35 = .ok (.iconst 0, 1) := by decide +kernel
theorem dX6_say_36 : decode cX6_say 36 = .ok (.iconst 5, 1) := by decide +kernel
theorem dX6_say_37 : decode cX6_say 37 = .ok (.invokestatic 64, 3) := by decide +kernel
theorem dX6_say_40 : decode cX6_say 40 = .ok (.ifCond .ne 5, 3) := by decide +kernel
theorem dX6_say_43 : decode cX6_say 43 = .ok (.iconst (-1), 1) := by decide +kernel
theorem dX6_say_44 : decode cX6_say 44 = .ok (.ireturn, 1) := by decide +kernel
theorem dX6_say_45 : decode cX6_say 45 = .ok (.aload_n 0, 1) := by decide +kernel
theorem dX6_say_46 : decode cX6_say 46 = .ok (.getfield 7, 3) := by decide +kernel
theorem dX6_say_49 : decode cX6_say 49 = .ok (.iconst 2, 1) := by decide +kernel
theorem dX6_say_50 : decode cX6_say 50 = .ok (.iaload, 1) := by decide +kernel
theorem dX6_say_51 : decode cX6_say 51 = .ok (.bipush 9, 2) := by decide +kernel
theorem dX6_say_53 : decode cX6_say 53 = .ok (.if_icmp .ne 6, 3) := by decide +kernel
theorem dX6_say_56 : decode cX6_say 56 = .ok (.bipush (-3), 2) := by decide +kernel
theorem dX6_say_58 : decode cX6_say 58 = .ok (.ireturn, 1) := by decide +kernel
theorem dX6_say_59 : decode cX6_say 59 = .ok (.aload_n 0, 1) := by decide +kernel
theorem dX6_say_60 : decode cX6_say 60 = .ok (.invokevirtual 155, 3) := by decide +kernel
theorem dX6_say_63 : decode cX6_say 63 = .ok (.aload_n 0, 1) := by decide +kernel
theorem dX6_say_64 : decode cX6_say 64 = .ok (.invokevirtual 149, 3) := by decide +kernel
theorem dX6_say_67 : decode cX6_say 67 = .ok (.aload_n 0, 1) := by decide +kernel
theorem dX6_say_68 : decode cX6_say 68 = .ok (.getfield 31, 3) := by decide +kernel
theorem dX6_say_71 : decode cX6_say 71 = .ok (.iload_n 1, 1) := by decide +kernel
theorem dX6_say_72 : decode cX6_say 72 = .ok (.iload_n 2, 1) := by decide +kernel
theorem dX6_say_73 : decode cX6_say 73 = .ok (.iload_n 3, 1) := by decide +kernel
theorem dX6_say_74 : decode cX6_say 74 = .ok (.iload 4, 2) := by decide +kernel
theorem dX6_say_76 : decode cX6_say 76 = .ok (.invokestatic 60, 3) := by decide +kernel
theorem dX6_say_79 : decode cX6_say 79 = .ok (.aload_n 0, 1) := by decide +kernel
theorem dX6_say_80 : decode cX6_say 80 = .ok (.invokevirtual 112, 3) := by decide +kernel
theorem dX6_say_83 : decode cX6_say 83 = .ok (.aload_n 0, 1) := by decide +kernel
theorem dX6_say_84 : decode cX6_say 84 = .ok (.getfield 7, 3) := by decide +kernel
theorem dX6_say_87 : decode cX6_say 87 = .ok (.iconst 0, 1) := by decide +kernel
theorem dX6_say_88 : decode cX6_say 88 = .ok (.aload_n 0, 1) := by decide +kernel
theorem dX6_say_89 : decode cX6_say 89 = .ok (.getfield 31, 3) := by decide +kernel
theorem dX6_say_92 : decode cX6_say 92 = .ok (.iconst 0, 1) := by decide +kernel
theorem dX6_say_93 : decode cX6_say 93 = .ok (.invokestatic 108, 3) := by decide +kernel
theorem dX6_say_96 : decode cX6_say 96 = .ok (.aload_n 0, 1) := by decide +kernel
theorem dX6_say_97 : decode cX6_say 97 = .ok (.getfield 7, 3) := by decide +kernel
theorem dX6_say_100 : decode cX6_say 100 = .ok (.iconst 2, 1) := by decide +kernel
theorem dX6_say_101 : decode cX6_say 101 = .ok (.iaload, 1) := by decide +kernel
theorem dX6_say_102 : decode cX6_say 102 = .ok (.iconst 1, 1) := by decide +kernel
theorem dX6_say_103 : decode cX6_say 103 = .ok (.isub, 1) := by decide +kernel
theorem dX6_say_104 : decode cX6_say 104 = .ok (.ireturn, 1) := by decide +kernel
set_option maxRecDepth 20000 in
theorem ggX6_canBeWithdrawn_X6_has : GoodIn wsX6_canBeWithdrawn wsX6_has := goodIn_r _ [6] (by decide +kernel) (by decide +kernel)
set_option maxRecDepth 20000 in
theorem gX6_canBeWithdrawn_X6_has : GoodIn wsX6_canBeWithdrawn (va_wsS RX6 124 yX6_has wsX6_has) := goodIn_app (goodIn_of _ (by decide +kernel)) ggX6_canBeWithdrawn_X6_has
theorem dX6_canBeWithdrawn_0 : decode cX6_canBeWithdrawn 0 = .ok (.aload_n 0, 1) := by decide +kernel
theorem dX6_canBeWithdrawn_1 : decode cX6_canBeWithdrawn 1 = .ok (.getfield 31, 3) := by decide +kernel
theorem dX6_canBeWithdrawn_4 : decode cX6_canBeWithdrawn 4 = .ok (.iconst 3, 1) := by decide +kernel
theorem dX6_canBeWithdrawn_5 : decode cX6_canBeWithdrawn 5 = .ok (.iaload, 1) := by decide +kernel
theorem dX6_canBeWithdrawn_6 : decode cX6_canBeWithdrawn 6 = .ok (.iload_n 1, 1) := by decide +kernel
theorem dX6_canBeWithdrawn_7 : decode cX6_canBeWithdrawn 7 = .ok (.invokestatic 124, 3) := by decide +kernel
theorem dX6_canBeWithdrawn_10 : decode cX6_canBeWithdrawn 10 = .ok (.ifCond .ne 23, 3) := by decide +kernel
theorem dX6_canBeWithdrawn_13 : decode cX6_canBeWithdrawn 13 = .ok (.aload_n 0, 1) := by decide +kernel
theorem dX6_canBeWithdrawn_14 : decode cX6_canBeWithdrawn 14 = .ok (.getfield 31, 3) := by decide +kernel
theorem dX6_canBeWithdrawn_17 : decode cX6_canBeWithdrawn 17 = .ok (.bipush 40, 2) := by decide +kernel
theorem dX6_canBeWithdrawn_19 : decode cX6_canBeWithdrawn 19 = .ok (.iload_n 1, 1) := by decide +kernel
theorem dX6_canBeWithdrawn_20 : decode cX6_canBeWithdrawn 20 = .ok (.iadd, 1) := by decide +kernel
theorem dX6_canBeWithdrawn_21 : decode cX6_canBeWithdrawn 21 = .ok (.iaload, 1) := by decide +kernel
theorem dX6_canBeWithdrawn_22 : decode cX6_canBeWithdrawn 22 = .ok (.aload_n 0, 1) := by decide +kernel
theorem dX6_canBeWithdrawn_23 : decode cX6_canBeWithdrawn 23 = .ok (.getfield 105, 3) := by decide +kernel
theorem dX6_canBeWithdrawn_26 : decode cX6_canBeWithdrawn 26 = .ok (.if_icmp .ge 7, 3) := by decide +kernel
theorem dX6_canBeWithdrawn_29 : decode cX6_canBeWithdrawn 29 = .ok (.iconst 1, 1) := by decide +kernel
theorem dX6_canBeWithdrawn_30 : decode cX6_canBeWithdrawn 30 = .ok (.goto 4, 3) := by decide +kernel
theorem dX6_canBeWithdrawn_33 : decode cX6_canBeWithdrawn 33 = .ok (.iconst 0, 1) := by decide +kernel
theorem dX6_canBeWithdrawn_34 : decode cX6_canBeWithdrawn 34 = .ok (.ireturn, 1) := by decide +kernel
theorem dX6_withdraws_0 : decode cX6_withdraws 0 = .ok (.aload_n 0, 1) := by decide +kernel
theorem dX6_withdraws_1 : decode cX6_withdraws 1 = .ok (.getfield 31, 3) := by decide +kernel
theorem dX6_withdraws_4 : decode cX6_withdraws 4 = .ok (.iconst 3, 1) := by decide +kernel
theorem dX6_withdraws_5 : decode cX6_withdraws 5 = .ok (.dup2, 1) := by decide +kernel
theorem dX6_withdraws_6 : decode cX6_withdraws 6 = .ok (.iaload, 1) := by decide +kernel
theorem dX6_withdraws_7 : decode cX6_withdraws 7 = .ok (.iconst 1, 1) := by decide +kernel
theorem dX6_withdraws_8 : decode cX6_withdraws 8 = .ok (.iload_n 1, 1) := by decide +kernel
theorem dX6_withdraws_9 : decode cX6_withdraws 9 = .ok (.ishl, 1) := by decide +kernel
theorem dX6_withdraws_10 : decode cX6_withdraws 10 = .ok (.ior, 1) := by decide +kernel
theorem dX6_withdraws_11 : decode cX6_withdraws 11 = .ok (.iastore, 1) := by decide +kernel
theorem dX6_withdraws_12 : decode cX6_withdraws 12 = .ok (.aload_n 0, 1) := by decide +kernel
theorem dX6_withdraws_13 : decode cX6_withdraws 13 = .ok (.getfield 31, 3) := by decide +kernel
theorem dX6_withdraws_16 : decode cX6_withdraws 16 = .ok (.bipush 40, 2) := by decide +kernel
theorem dX6_withdraws_18 : decode cX6_withdraws 18 = .ok (.iload_n 1, 1) := by decide +kernel
theorem dX6_withdraws_19 : decode cX6_withdraws 19 = .ok (.iadd, 1) := by decide +kernel
theorem dX6_withdraws_20 : decode cX6_withdraws 20 = .ok (.iconst (-1), 1) := by decide +kernel
theorem dX6_withdraws_21 : decode cX6_withdraws 21 = .ok (.iastore, 1) := by decide +kernel
theorem dX6_withdraws_22 : decode cX6_withdraws 22 = .ok (.return_, 1) := by decide +kernel
set_option maxRecDepth 20000 in
theorem ggX6_withdraw_X6_isSaying : GoodIn wsX6_withdraw wsX6_isSaying := goodIn_r _ [7, 1, 8, 9, 6, 10, 43, 44, 45, 46, 47, 48, 49, 50, 51, 52, 53, 54, 55, 56, 57, 58, 59, 60, 61, 62, 63] (by decide +kernel) (by decide +kernel)
set_option maxRecDepth 20000 in
theorem gX6_withdraw_X6_isSaying : GoodIn wsX6_withdraw (wsV RX6 146 RX6 yX6_isSaying wsX6_isSaying) := goodIn_app (goodIn_of _ (by decide +kernel)) ggX6_withdraw_X6_isSaying
set_option maxRecDepth 20000 in
theorem ggX6_withdraw_X6_asItIs : GoodIn wsX6_withdraw wsX6_asItIs := goodIn_r _ [14, 2, 1, 15, 16, 6, 17, 43, 44, 45, 46, 47, 48, 49, 50, 51, 52, 53, 54, 55, 56, 57, 58, 59, 60, 61, 62, 63] (by decide +kernel) (by decide +kernel)
set_option maxRecDepth 20000 in
theorem gX6_withdraw_X6_asItIs : GoodIn wsX6_withdraw (wsV RX6 149 RX6 yX6_asItIs wsX6_asItIs) := goodIn_app (goodIn_of _ (by decide +kernel)) ggX6_withdraw_X6_asItIs
set_option maxRecDepth 20000 in
theorem ggX6_withdraw_X6_canBeWithdrawn : GoodIn wsX6_withdraw wsX6_canBeWithdrawn := goodIn_r _ [21, 2, 22, 23, 24, 6, 25, 43, 44, 45, 46, 47, 48, 49, 50, 51, 52, 53, 54, 55, 56, 57, 58, 59, 60, 61, 62, 63] (by decide +kernel) (by decide +kernel)
set_option maxRecDepth 20000 in
theorem gX6_withdraw_X6_canBeWithdrawn : GoodIn wsX6_withdraw (wsV RX6 161 RX6 yX6_canBeWithdrawn wsX6_canBeWithdrawn) := goodIn_app (goodIn_of _ (by decide +kernel)) ggX6_withdraw_X6_canBeWithdrawn
set_option maxRecDepth 20000 in
theorem ggX6_withdraw_X6_remembers : GoodIn wsX6_withdraw wsX6_remembers := goodIn_r _ [29, 30, 31, 1, 15, 16, 6, 17, 43, 44, 45, 46, 47, 48, 49, 50, 51, 52, 53, 54, 55, 56, 57, 58, 59, 60, 61, 62, 63] (by decide +kernel) (by decide +kernel)
set_option maxRecDepth 20000 in
theorem gX6_withdraw_X6_remembers : GoodIn wsX6_withdraw (wsV RX6 155 RX6 yX6_remembers wsX6_remembers) := goodIn_app (goodIn_of _ (by decide +kernel)) ggX6_withdraw_X6_remembers
set_option maxRecDepth 20000 in
theorem ggX6_withdraw_X6_withdraws : GoodIn wsX6_withdraw wsX6_withdraws := goodIn_r _ [35, 2, 43, 44, 45, 46, 47, 48, 49, 50, 51, 52, 53, 54, 55, 56, 57, 58, 59, 60, 61, 62, 63] (by decide +kernel) (by decide +kernel)
set_option maxRecDepth 20000 in
theorem gX6_withdraw_X6_withdraws : GoodIn wsX6_withdraw (wsV RX6 164 RX6 yX6_withdraws wsX6_withdraws) := goodIn_app (goodIn_of _ (by decide +kernel)) ggX6_withdraw_X6_withdraws
set_option maxRecDepth 20000 in
theorem ggX6_withdraw_X6_copies : GoodIn wsX6_withdraw wsX6_copies := goodIn_r _ [17] (by decide +kernel) (by decide +kernel)
set_option maxRecDepth 20000 in
theorem gX6_withdraw_X6_copies : GoodIn wsX6_withdraw (va_wsS RX6 108 yX6_copies wsX6_copies) := goodIn_app (goodIn_of _ (by decide +kernel)) ggX6_withdraw_X6_copies
set_option maxRecDepth 20000 in
theorem ggX6_withdraw_X6_police : GoodIn wsX6_withdraw wsX6_police := goodIn_r _ [39, 2, 43, 44, 45, 46, 47, 48, 49, 50, 51, 52, 53, 54, 55, 56, 57, 58, 59, 60, 61, 62, 63] (by decide +kernel) (by decide +kernel)
set_option maxRecDepth 20000 in
theorem gX6_withdraw_X6_police : GoodIn wsX6_withdraw (wsV RX6 168 RX6 yX6_police wsX6_police) := goodIn_app (goodIn_of _ (by decide +kernel)) ggX6_withdraw_X6_police
set_option maxRecDepth 20000 in
theorem ggX6_withdraw_X6_bits : GoodIn wsX6_withdraw wsX6_bits := goodIn_r _ [42] (by decide +kernel) (by decide +kernel)
set_option maxRecDepth 20000 in
theorem gX6_withdraw_X6_bits : GoodIn wsX6_withdraw (va_wsS RX6 171 yX6_bits wsX6_bits) := goodIn_app (goodIn_of _ (by decide +kernel)) ggX6_withdraw_X6_bits
theorem dX6_withdraw_0 : decode cX6_withdraw 0 = .ok (.aload_n 0, 1) := by decide +kernel
theorem dX6_withdraw_1 : decode cX6_withdraw 1 = .ok (.iload_n 1, 1) := by decide +kernel
theorem dX6_withdraw_2 : decode cX6_withdraw 2 = .ok (.invokevirtual 146, 3) := by decide +kernel
theorem dX6_withdraw_5 : decode cX6_withdraw 5 = .ok (.ifCond .ne 5, 3) := by decide +kernel
theorem dX6_withdraw_8 : decode cX6_withdraw 8 = .ok (.iconst (-1), 1) := by decide +kernel
theorem dX6_withdraw_9 : decode cX6_withdraw 9 = .ok (.ireturn, 1) := by decide +kernel
theorem dX6_withdraw_10 : decode cX6_withdraw 10 = .ok (.aload_n 0, 1) := by decide +kernel
theorem dX6_withdraw_11 : decode cX6_withdraw 11 = .ok (.invokevirtual 149, 3) := by decide +kernel
theorem dX6_withdraw_14 : decode cX6_withdraw 14 = .ok (.aload_n 0, 1) := by decide +kernel
theorem dX6_withdraw_15 : decode cX6_withdraw 15 = .ok (.iload_n 1, 1) := by decide +kernel
theorem dX6_withdraw_16 : decode cX6_withdraw 16 = .ok (.invokevirtual 161, 3) := by decide +kernel
theorem dX6_withdraw_19 : decode cX6_withdraw 19 = .ok (.ifCond .ne 6, 3) := by decide +kernel
theorem dX6_withdraw_22 : decode cX6_withdraw 22 = .ok (.bipush (-2), 2) := by decide +kernel
theorem dX6_withdraw_24 : decode cX6_withdraw 24 = .ok (.ireturn, 1) := by decide +kernel
theorem dX6_withdraw_25 : decode cX6_withdraw 25 = .ok (.aload_n 0, 1) := by decide +kernel
theorem dX6_withdraw_26 : decode cX6_withdraw 26 = .ok (.invokevirtual 155, 3) := by decide +kernel
theorem dX6_withdraw_29 : decode cX6_withdraw 29 = .ok (.aload_n 0, 1) := by decide +kernel
theorem dX6_withdraw_30 : decode cX6_withdraw 30 = .ok (.iload_n 1, 1) := by decide +kernel
theorem dX6_withdraw_31 : decode cX6_withdraw 31 = .ok (.invokevirtual 164, 3) := by decide +kernel
theorem dX6_withdraw_34 : decode cX6_withdraw 34 = .ok (.aload_n 0, 1) := by decide +kernel
theorem dX6_withdraw_35 : decode cX6_withdraw 35 = .ok (.getfield 7, 3) := by decide +kernel
theorem dX6_withdraw_38 : decode cX6_withdraw 38 = .ok (.iconst 0, 1) := by decide +kernel
theorem dX6_withdraw_39 : decode cX6_withdraw 39 = .ok (.aload_n 0, 1) := by decide +kernel
theorem dX6_withdraw_40 : decode cX6_withdraw 40 = .ok (.getfield 31, 3) := by decide +kernel
theorem dX6_withdraw_43 : decode cX6_withdraw 43 = .ok (.iconst 0, 1) := by decide +kernel
theorem dX6_withdraw_44 : decode cX6_withdraw 44 = .ok (.invokestatic 108, 3) := by decide +kernel
theorem dX6_withdraw_47 : decode cX6_withdraw 47 = .ok (.aload_n 0, 1) := by decide +kernel
theorem dX6_withdraw_48 : decode cX6_withdraw 48 = .ok (.invokevirtual 168, 3) := by decide +kernel
theorem dX6_withdraw_51 : decode cX6_withdraw 51 = .ok (.invokestatic 171, 3) := by decide +kernel
theorem dX6_withdraw_54 : decode cX6_withdraw 54 = .ok (.ireturn, 1) := by decide +kernel
set_option maxRecDepth 20000 in
theorem ggX6_turn_X6_isFact : GoodIn wsX6_turn wsX6_isFact := goodIn_r _ [6, 7, 8, 5, 9] (by decide +kernel) (by decide +kernel)
set_option maxRecDepth 20000 in
theorem gX6_turn_X6_isFact : GoodIn wsX6_turn (va_wsS RX6 152 yX6_isFact wsX6_isFact) := goodIn_app (goodIn_of _ (by decide +kernel)) ggX6_turn_X6_isFact
set_option maxRecDepth 20000 in
theorem ggX6_turn_X6_remembers : GoodIn wsX6_turn wsX6_remembers := goodIn_r _ [13, 14, 15, 2, 16, 17, 5, 18, 48, 49, 50, 51, 52, 53, 54, 55, 56, 57, 58, 59, 60, 61, 62, 63, 64, 65, 66, 67, 68] (by decide +kernel) (by decide +kernel)
set_option maxRecDepth 20000 in
theorem gX6_turn_X6_remembers : GoodIn wsX6_turn (wsV RX6 155 RX6 yX6_remembers wsX6_remembers) := goodIn_app (goodIn_of _ (by decide +kernel)) ggX6_turn_X6_remembers
set_option maxRecDepth 20000 in
theorem ggX6_turn_X6_asItIs : GoodIn wsX6_turn wsX6_asItIs := goodIn_r _ [22, 1, 2, 16, 17, 5, 18, 48, 49, 50, 51, 52, 53, 54, 55, 56, 57, 58, 59, 60, 61, 62, 63, 64, 65, 66, 67, 68] (by decide +kernel) (by decide +kernel)
set_option maxRecDepth 20000 in
theorem gX6_turn_X6_asItIs : GoodIn wsX6_turn (wsV RX6 149 RX6 yX6_asItIs wsX6_asItIs) := goodIn_app (goodIn_of _ (by decide +kernel)) ggX6_turn_X6_asItIs
set_option maxRecDepth 20000 in
theorem ggX6_turn_X6_appoints : GoodIn wsX6_turn wsX6_appoints := goodIn_r _ [26, 1, 27, 28, 29, 5, 30, 31, 32, 33, 34, 35, 36, 37, 38, 39, 40, 48, 49, 50, 51, 52, 53, 54, 55, 56, 57, 58, 59, 60, 61, 62, 63, 64, 65, 66, 67, 68] (by decide +kernel) (by decide +kernel)
set_option maxRecDepth 20000 in
theorem gX6_turn_X6_appoints : GoodIn wsX6_turn (wsV RX6 112 RX6 yX6_appoints wsX6_appoints) := goodIn_app (goodIn_of _ (by decide +kernel)) ggX6_turn_X6_appoints
set_option maxRecDepth 20000 in
theorem ggX6_turn_X6_copies : GoodIn wsX6_turn wsX6_copies := goodIn_r _ [18] (by decide +kernel) (by decide +kernel)
set_option maxRecDepth 20000 in
theorem gX6_turn_X6_copies : GoodIn wsX6_turn (va_wsS RX6 108 yX6_copies wsX6_copies) := goodIn_app (goodIn_of _ (by decide +kernel)) ggX6_turn_X6_copies
set_option maxRecDepth 20000 in
theorem ggX6_turn_X6_police : GoodIn wsX6_turn wsX6_police := goodIn_r _ [44, 1, 48, 49, 50, 51, 52, 53, 54, 55, 56, 57, 58, 59, 60, 61, 62, 63, 64, 65, 66, 67, 68] (by decide +kernel) (by decide +kernel)
set_option maxRecDepth 20000 in
theorem gX6_turn_X6_police : GoodIn wsX6_turn (wsV RX6 168 RX6 yX6_police wsX6_police) := goodIn_app (goodIn_of _ (by decide +kernel)) ggX6_turn_X6_police
set_option maxRecDepth 20000 in
theorem ggX6_turn_X6_bits : GoodIn wsX6_turn wsX6_bits := goodIn_r _ [47] (by decide +kernel) (by decide +kernel)
set_option maxRecDepth 20000 in
theorem gX6_turn_X6_bits : GoodIn wsX6_turn (va_wsS RX6 171 yX6_bits wsX6_bits) := goodIn_app (goodIn_of _ (by decide +kernel)) ggX6_turn_X6_bits
theorem dX6_turn_0 : decode cX6_turn 0 = .ok (.iload_n 1, 1) := by decide +kernel
theorem dX6_turn_1 : decode cX6_turn 1 = .ok (.invokestatic 152, 3) := by decide +kernel
theorem dX6_turn_4 : decode cX6_turn 4 = .ok (.ifCond .ne 5, 3) := by decide +kernel
theorem dX6_turn_7 : decode cX6_turn 7 = .ok (.iconst (-1), 1) := by decide +kernel
theorem dX6_turn_8 : decode cX6_turn 8 = .ok (.ireturn, 1) := by decide +kernel
theorem dX6_turn_9 : decode cX6_turn 9 = .ok (.aload_n 0, 1) := by decide +kernel
theorem dX6_turn_10 : decode cX6_turn 10 = .ok (.invokevirtual 155, 3) := by decide +kernel
theorem dX6_turn_13 : decode cX6_turn 13 = .ok (.aload_n 0, 1) := by decide +kernel
theorem dX6_turn_14 : decode cX6_turn 14 = .ok (.invokevirtual 149, 3) := by decide +kernel
theorem dX6_turn_17 : decode cX6_turn 17 = .ok (.aload_n 0, 1) := by decide +kernel
theorem dX6_turn_18 : decode cX6_turn 18 = .ok (.getfield 31, 3) := by decide +kernel
theorem dX6_turn_21 : decode cX6_turn 21 = .ok (.iconst 0, 1) := by decide +kernel
theorem dX6_turn_22 : decode cX6_turn 22 = .ok (.dup2, 1) := by decide +kernel
theorem dX6_turn_23 : decode cX6_turn 23 = .ok (.iaload, 1) := by decide +kernel
theorem dX6_turn_24 : decode cX6_turn 24 = .ok (.iconst 1, 1) := by decide +kernel
theorem dX6_turn_25 : decode cX6_turn 25 = .ok (.iload_n 1, 1) := by decide +kernel
theorem dX6_turn_26 : decode cX6_turn 26 = .ok (.ishl, 1) := by decide +kernel
theorem dX6_turn_27 : decode cX6_turn 27 = .ok (.ixor, 1) := by decide +kernel
theorem dX6_turn_28 : decode cX6_turn 28 = .ok (.iastore, 1) := by decide +kernel
theorem dX6_turn_29 : decode cX6_turn 29 = .ok (.aload_n 0, 1) := by decide +kernel
theorem dX6_turn_30 : decode cX6_turn 30 = .ok (.invokevirtual 112, 3) := by decide +kernel
theorem dX6_turn_33 : decode cX6_turn 33 = .ok (.aload_n 0, 1) := by decide +kernel
theorem dX6_turn_34 : decode cX6_turn 34 = .ok (.getfield 7, 3) := by decide +kernel
theorem dX6_turn_37 : decode cX6_turn 37 = .ok (.iconst 0, 1) := by decide +kernel
theorem dX6_turn_38 : decode cX6_turn 38 = .ok (.aload_n 0, 1) := by decide +kernel
theorem dX6_turn_39 : decode cX6_turn 39 = .ok (.getfield 31, 3) := by decide +kernel
theorem dX6_turn_42 : decode cX6_turn 42 = .ok (.iconst 0, 1) := by decide +kernel
theorem dX6_turn_43 : decode cX6_turn 43 = .ok (.invokestatic 108, 3) := by decide +kernel
theorem dX6_turn_46 : decode cX6_turn 46 = .ok (.aload_n 0, 1) := by decide +kernel
theorem dX6_turn_47 : decode cX6_turn 47 = .ok (.invokevirtual 168, 3) := by decide +kernel
theorem dX6_turn_50 : decode cX6_turn 50 = .ok (.invokestatic 171, 3) := by decide +kernel
theorem dX6_turn_53 : decode cX6_turn 53 = .ok (.ireturn, 1) := by decide +kernel
set_option maxRecDepth 20000 in
theorem ggX6_undo_X6_copies : GoodIn wsX6_undo wsX6_copies := goodIn_r _ [7] (by decide +kernel) (by decide +kernel)
set_option maxRecDepth 20000 in
theorem gX6_undo_X6_copies : GoodIn wsX6_undo (va_wsS RX6 108 yX6_copies wsX6_copies) := goodIn_app (goodIn_of _ (by decide +kernel)) ggX6_undo_X6_copies
theorem dX6_undo_0 : decode cX6_undo 0 = .ok (.aload_n 0, 1) := by decide +kernel
theorem dX6_undo_1 : decode cX6_undo 1 = .ok (.getfield 115, 3) := by decide +kernel
theorem dX6_undo_4 : decode cX6_undo 4 = .ok (.ifCond .ne 6, 3) := by decide +kernel
theorem dX6_undo_7 : decode cX6_undo 7 = .ok (.bipush (-2), 2) := by decide +kernel
theorem dX6_undo_9 : decode cX6_undo 9 = .ok (.ireturn, 1) := by decide +kernel
theorem dX6_undo_10 : decode cX6_undo 10 = .ok (.aload_n 0, 1) := by decide +kernel
theorem dX6_undo_11 : decode cX6_undo 11 = .ok (.dup, 1) := by decide +kernel
theorem dX6_undo_12 : decode cX6_undo 12 = .ok (.getfield 115, 3) := by decide +kernel
theorem dX6_undo_15 : decode cX6_undo 15 = .ok (.iconst 1, 1) := by decide +kernel
theorem dX6_undo_16 : decode cX6_undo 16 = .ok (.isub, 1) := by decide +kernel
theorem dX6_undo_17 : decode cX6_undo 17 = .ok (.putfield 115, 3) := by decide +kernel
theorem dX6_undo_20 : decode cX6_undo 20 = .ok (.aload_n 0, 1) := by decide +kernel
theorem dX6_undo_21 : decode cX6_undo 21 = .ok (.getfield 7, 3) := by decide +kernel
theorem dX6_undo_24 : decode cX6_undo 24 = .ok (.iconst 0, 1) := by decide +kernel
theorem dX6_undo_25 : decode cX6_undo 25 = .ok (.aload_n 0, 1) := by decide +kernel
theorem dX6_undo_26 : decode cX6_undo 26 = .ok (.getfield 13, 3) := by decide +kernel
theorem dX6_undo_29 : decode cX6_undo 29 = .ok (.bipush 49, 2) := by decide +kernel
theorem dX6_undo_31 : decode cX6_undo 31 = .ok (.aload_n 0, 1) := by decide +kernel
theorem dX6_undo_32 : decode cX6_undo 32 = .ok (.getfield 115, 3) := by decide +kernel
theorem dX6_undo_35 : decode cX6_undo 35 = .ok (.imul, 1) := by decide +kernel
theorem dX6_undo_36 : decode cX6_undo 36 = .ok (.invokestatic 108, 3) := by decide +kernel
theorem dX6_undo_39 : decode cX6_undo 39 = .ok (.aload_n 0, 1) := by decide +kernel
theorem dX6_undo_40 : decode cX6_undo 40 = .ok (.getfield 115, 3) := by decide +kernel
theorem dX6_undo_43 : decode cX6_undo 43 = .ok (.ireturn, 1) := by decide +kernel
set_option maxRecDepth 20000 in
theorem ggX6_behind_X6_in : GoodIn wsX6_behind wsX6_in := goodIn_r _ [4] (by decide +kernel) (by decide +kernel)
set_option maxRecDepth 20000 in
theorem gX6_behind_X6_in : GoodIn wsX6_behind (va_wsS RX6 64 yX6_in wsX6_in) := goodIn_app (goodIn_of _ (by decide +kernel)) ggX6_behind_X6_in
set_option maxRecDepth 20000 in
theorem ggX6_behind_X6_asItIs : GoodIn wsX6_behind wsX6_asItIs := goodIn_r _ [8, 9, 10, 11, 12, 3, 13, 39, 40, 41, 42, 43, 44, 45, 46, 47, 48, 49, 50, 51, 52, 53, 54, 55, 56, 57, 58, 59] (by decide +kernel) (by decide +kernel)
set_option maxRecDepth 20000 in
theorem gX6_behind_X6_asItIs : GoodIn wsX6_behind (wsV RX6 149 RX6 yX6_asItIs wsX6_asItIs) := goodIn_app (goodIn_of _ (by decide +kernel)) ggX6_behind_X6_asItIs
set_option maxRecDepth 20000 in
theorem ggX6_behind_X6_goes : GoodIn wsX6_behind wsX6_goes := goodIn_r _ [17, 18, 9, 19, 20, 21, 22, 23, 3, 24, 25, 26, 27, 28, 29, 30, 31, 32, 33, 34, 39, 40, 41, 42, 43, 44, 45, 46, 47, 48, 49, 50, 51, 52, 53, 54, 55, 56, 57, 58, 59] (by decide +kernel) (by decide +kernel)
set_option maxRecDepth 20000 in
theorem gX6_behind_X6_goes : GoodIn wsX6_behind (wsV RX6 158 RX6 yX6_goes wsX6_goes) := goodIn_app (goodIn_of _ (by decide +kernel)) ggX6_behind_X6_goes
set_option maxRecDepth 20000 in
theorem ggX6_behind_X6_police : GoodIn wsX6_behind wsX6_police := goodIn_r _ [38, 9, 39, 40, 41, 42, 43, 44, 45, 46, 47, 48, 49, 50, 51, 52, 53, 54, 55, 56, 57, 58, 59] (by decide +kernel) (by decide +kernel)
set_option maxRecDepth 20000 in
theorem gX6_behind_X6_police : GoodIn wsX6_behind (wsV RX6 168 RX6 yX6_police wsX6_police) := goodIn_app (goodIn_of _ (by decide +kernel)) ggX6_behind_X6_police
theorem dX6_behind_0 : decode cX6_behind 0 = .ok (.iload_n 1, 1) := by decide +kernel
theorem dX6_behind_1 : decode cX6_behind 1 = .ok (.iconst 0, 1) := by decide +kernel
theorem dX6_behind_2 : decode cX6_behind 2 = .ok (.bipush 60, 2) := by decide +kernel
theorem dX6_behind_4 : decode cX6_behind 4 = .ok (.invokestatic 64, 3) := by decide +kernel
theorem dX6_behind_7 : decode cX6_behind 7 = .ok (.ifCond .ne 5, 3) := by decide +kernel
theorem dX6_behind_10 : decode cX6_behind 10 = .ok (.iconst (-1), 1) := by decide +kernel
theorem dX6_behind_11 : decode cX6_behind 11 = .ok (.ireturn, 1) := by decide +kernel
theorem dX6_behind_12 : decode cX6_behind 12 = .ok (.aload_n 0, 1) := by decide +kernel
theorem dX6_behind_13 : decode cX6_behind 13 = .ok (.invokevirtual 149, 3) := by decide +kernel
theorem dX6_behind_16 : decode cX6_behind 16 = .ok (.iconst 0, 1) := by decide +kernel
theorem dX6_behind_17 : decode cX6_behind 17 = .ok (.istore_n 2, 1) := by decide +kernel
theorem dX6_behind_18 : decode cX6_behind 18 = .ok (.iload_n 2, 1) := by decide +kernel
theorem dX6_behind_19 : decode cX6_behind 19 = .ok (.iload_n 1, 1) := by decide +kernel
theorem dX6_behind_20 : decode cX6_behind 20 = .ok (.if_icmp .ge 13, 3) := by decide +kernel
theorem dX6_behind_23 : decode cX6_behind 23 = .ok (.aload_n 0, 1) := by decide +kernel
theorem dX6_behind_24 : decode cX6_behind 24 = .ok (.invokevirtual 158, 3) := by decide +kernel
theorem dX6_behind_27 : decode cX6_behind 27 = .ok (.iinc 2 1, 3) := by decide +kernel
theorem dX6_behind_30 : decode cX6_behind 30 = .ok (.goto (-12), 3) := by decide +kernel
theorem dX6_behind_33 : decode cX6_behind 33 = .ok (.aload_n 0, 1) := by decide +kernel
theorem dX6_behind_34 : decode cX6_behind 34 = .ok (.invokevirtual 168, 3) := by decide +kernel
theorem dX6_behind_37 : decode cX6_behind 37 = .ok (.ireturn, 1) := by decide +kernel
set_option maxRecDepth 20000 in
theorem ggX6_fall_X6_in : GoodIn wsX6_fall wsX6_in := goodIn_r _ [5] (by decide +kernel) (by decide +kernel)
set_option maxRecDepth 20000 in
theorem gX6_fall_X6_in : GoodIn wsX6_fall (va_wsS RX6 64 yX6_in wsX6_in) := goodIn_app (goodIn_of _ (by decide +kernel)) ggX6_fall_X6_in
set_option maxRecDepth 20000 in
theorem ggX6_fall_X6_asItIs : GoodIn wsX6_fall wsX6_asItIs := goodIn_r _ [9, 10, 11, 12, 13, 4, 14, 35, 36, 37, 38, 39, 40, 41, 42, 43, 44, 45, 46, 47, 48, 49, 50, 51, 52, 53, 54, 55] (by decide +kernel) (by decide +kernel)
set_option maxRecDepth 20000 in
theorem gX6_fall_X6_asItIs : GoodIn wsX6_fall (wsV RX6 149 RX6 yX6_asItIs wsX6_asItIs) := goodIn_app (goodIn_of _ (by decide +kernel)) ggX6_fall_X6_asItIs
set_option maxRecDepth 20000 in
theorem ggX6_fall_X6_goes : GoodIn wsX6_fall wsX6_goes := goodIn_r _ [18, 1, 10, 19, 20, 21, 22, 23, 4, 24, 25, 26, 27, 28, 29, 30, 31, 32, 33, 34, 35, 36, 37, 38, 39, 40, 41, 42, 43, 44, 45, 46, 47, 48, 49, 50, 51, 52, 53, 54, 55] (by decide +kernel) (by decide +kernel)
set_option maxRecDepth 20000 in
theorem gX6_fall_X6_goes : GoodIn wsX6_fall (wsV RX6 158 RX6 yX6_goes wsX6_goes) := goodIn_app (goodIn_of _ (by decide +kernel)) ggX6_fall_X6_goes
theorem dX6_fall_0 : decode cX6_fall 0 = .ok (.iload_n 1, 1) := by decide +kernel
theorem dX6_fall_1 : decode cX6_fall 1 = .ok (.iconst 0, 1) := by decide +kernel
theorem dX6_fall_2 : decode cX6_fall 2 = .ok (.iconst 1, 1) := by decide +kernel
theorem dX6_fall_3 : decode cX6_fall 3 = .ok (.invokestatic 64, 3) := by decide +kernel
theorem dX6_fall_6 : decode cX6_fall 6 = .ok (.ifCond .ne 5, 3) := by decide +kernel
theorem dX6_fall_9 : decode cX6_fall 9 = .ok (.iconst (-1), 1) := by decide +kernel
theorem dX6_fall_10 : decode cX6_fall 10 = .ok (.ireturn, 1) := by decide +kernel
theorem dX6_fall_11 : decode cX6_fall 11 = .ok (.aload_n 0, 1) := by decide +kernel
theorem dX6_fall_12 : decode cX6_fall 12 = .ok (.invokevirtual 149, 3) := by decide +kernel
theorem dX6_fall_15 : decode cX6_fall 15 = .ok (.iconst 1, 1) := by decide +kernel
theorem dX6_fall_16 : decode cX6_fall 16 = .ok (.istore_n 2, 1) := by decide +kernel
theorem dX6_fall_17 : decode cX6_fall 17 = .ok (.iload_n 2, 1) := by decide +kernel
theorem dX6_fall_18 : decode cX6_fall 18 = .ok (.bipush 60, 2) := by decide +kernel
theorem dX6_fall_20 : decode cX6_fall 20 = .ok (.if_icmp .gt 33, 3) := by decide +kernel
theorem dX6_fall_23 : decode cX6_fall 23 = .ok (.aload_n 0, 1) := by decide +kernel
theorem dX6_fall_24 : decode cX6_fall 24 = .ok (.invokevirtual 158, 3) := by decide +kernel
theorem dX6_fall_27 : decode cX6_fall 27 = .ok (.aload_n 0, 1) := by decide +kernel
theorem dX6_fall_28 : decode cX6_fall 28 = .ok (.getfield 137, 3) := by decide +kernel
theorem dX6_fall_31 : decode cX6_fall 31 = .ok (.ifCond .lt 16, 3) := by decide +kernel
theorem dX6_fall_34 : decode cX6_fall 34 = .ok (.iload_n 1, 1) := by decide +kernel
theorem dX6_fall_35 : decode cX6_fall 35 = .ok (.ifCond .ne 10, 3) := by decide +kernel
theorem dX6_fall_38 : decode cX6_fall 38 = .ok (.aload_n 0, 1) := by decide +kernel
theorem dX6_fall_39 : decode cX6_fall 39 = .ok (.getfield 137, 3) := by decide +kernel
theorem dX6_fall_42 : decode cX6_fall 42 = .ok (.goto 4, 3) := by decide +kernel
theorem dX6_fall_45 : decode cX6_fall 45 = .ok (.iload_n 2, 1) := by decide +kernel
theorem dX6_fall_46 : decode cX6_fall 46 = .ok (.ireturn, 1) := by decide +kernel
theorem dX6_fall_47 : decode cX6_fall 47 = .ok (.iinc 2 1, 3) := by decide +kernel
theorem dX6_fall_50 : decode cX6_fall 50 = .ok (.goto (-33), 3) := by decide +kernel
theorem dX6_fall_53 : decode cX6_fall 53 = .ok (.bipush (-4), 2) := by decide +kernel
theorem dX6_fall_55 : decode cX6_fall 55 = .ok (.ireturn, 1) := by decide +kernel
set_option maxRecDepth 20000 in
theorem ggX6_findWorlds_X6_asItIs : GoodIn wsX6_findWorlds wsX6_asItIs := goodIn_r _ [6, 7, 8, 9, 10, 5, 11, 30, 31, 32, 33, 34, 35, 36, 37, 38, 39, 40, 41, 42, 43, 44, 45, 46, 47, 48, 49, 50] (by decide +kernel) (by decide +kernel)
set_option maxRecDepth 20000 in
theorem gX6_findWorlds_X6_asItIs : GoodIn wsX6_findWorlds (wsV RX6 149 RX6 yX6_asItIs wsX6_asItIs) := goodIn_app (goodIn_of _ (by decide +kernel)) ggX6_findWorlds_X6_asItIs
set_option maxRecDepth 20000 in
theorem ggX6_findWorlds_X6_standing : GoodIn wsX6_findWorlds wsX6_standing := goodIn_r _ [15, 7, 30, 31, 32, 33, 34, 35, 36, 37, 38, 39, 40, 41, 42, 43, 44, 45, 46, 47, 48, 49, 50] (by decide +kernel) (by decide +kernel)
set_option maxRecDepth 20000 in
theorem gX6_findWorlds_X6_standing : GoodIn wsX6_findWorlds (wsV RX6 174 RX6 yX6_standing wsX6_standing) := goodIn_app (goodIn_of _ (by decide +kernel)) ggX6_findWorlds_X6_standing
set_option maxRecDepth 20000 in
theorem ggX6_findWorlds_X6_policeIn : GoodIn wsX6_findWorlds wsX6_policeIn := goodIn_r _ [19, 7, 20, 21, 5, 22, 23, 24, 25, 26, 27, 28, 29, 30, 31, 32, 33, 34, 35, 36, 37, 38, 39, 40, 41, 42, 43, 44, 45, 46, 47, 48, 49, 50] (by decide +kernel) (by decide +kernel)
set_option maxRecDepth 20000 in
theorem gX6_findWorlds_X6_policeIn : GoodIn wsX6_findWorlds (wsV RX6 134 RX6 yX6_policeIn wsX6_policeIn) := goodIn_app (goodIn_of _ (by decide +kernel)) ggX6_findWorlds_X6_policeIn
theorem dX6_findWorlds_0 : decode cX6_findWorlds 0 = .ok (.aload_n 0, 1) := by decide +kernel
theorem dX6_findWorlds_1 : decode cX6_findWorlds 1 = .ok (.invokevirtual 149, 3) := by decide +kernel
theorem dX6_findWorlds_4 : decode cX6_findWorlds 4 = .ok (.iconst 0, 1) := by decide +kernel
theorem dX6_findWorlds_5 : decode cX6_findWorlds 5 = .ok (.istore_n 1, 1) := by decide +kernel
theorem dX6_findWorlds_6 : decode cX6_findWorlds 6 = .ok (.iload_n 1, 1) := by decide +kernel
theorem dX6_findWorlds_7 : decode cX6_findWorlds 7 = .ok (.bipush 64, 2) := by decide +kernel
theorem dX6_findWorlds_9 : decode cX6_findWorlds 9 = .ok (.if_icmp .ge 27, 3) := by decide +kernel
theorem dX6_findWorlds_12 : decode cX6_findWorlds 12 = .ok (.aload_n 0, 1) := by decide +kernel
theorem dX6_findWorlds_13 : decode cX6_findWorlds 13 = .ok (.getfield 34, 3) := by decide +kernel
theorem dX6_findWorlds_16 : decode cX6_findWorlds 16 = .ok (.iload_n 1, 1) := by decide +kernel
theorem dX6_findWorlds_17 : decode cX6_findWorlds 17 = .ok (.aload_n 0, 1) := by decide +kernel
theorem dX6_findWorlds_18 : decode cX6_findWorlds 18 = .ok (.invokevirtual 174, 3) := by decide +kernel
theorem dX6_findWorlds_21 : decode cX6_findWorlds 21 = .ok (.aload_n 0, 1) := by decide +kernel
theorem dX6_findWorlds_22 : decode cX6_findWorlds 22 = .ok (.iload_n 1, 1) := by decide +kernel
theorem dX6_findWorlds_23 : decode cX6_findWorlds 23 = .ok (.invokevirtual 134, 3) := by decide +kernel
theorem dX6_findWorlds_26 : decode cX6_findWorlds 26 = .ok (.iconst (-1), 1) := by decide +kernel
theorem dX6_findWorlds_27 : decode cX6_findWorlds 27 = .ok (.ixor, 1) := by decide +kernel
theorem dX6_findWorlds_28 : decode cX6_findWorlds 28 = .ok (.iand, 1) := by decide +kernel
theorem dX6_findWorlds_29 : decode cX6_findWorlds 29 = .ok (.iastore, 1) := by decide +kernel
theorem dX6_findWorlds_30 : decode cX6_findWorlds 30 = .ok (.iinc 1 1, 3) := by decide +kernel
theorem dX6_findWorlds_33 : decode cX6_findWorlds 33 = .ok (.goto (-27), 3) := by decide +kernel
theorem dX6_findWorlds_36 : decode cX6_findWorlds 36 = .ok (.return_, 1) := by decide +kernel
theorem dX6_couldAll_0 : decode cX6_couldAll 0 = .ok (.iconst 0, 1) := by decide +kernel
theorem dX6_couldAll_1 : decode cX6_couldAll 1 = .ok (.istore_n 2, 1) := by decide +kernel
theorem dX6_couldAll_2 : decode cX6_couldAll 2 = .ok (.iload_n 2, 1) := by decide +kernel
theorem dX6_couldAll_3 : decode cX6_couldAll 3 = .ok (.bipush 64, 2) := by decide +kernel
theorem dX6_couldAll_5 : decode cX6_couldAll 5 = .ok (.if_icmp .ge 23, 3) := by decide +kernel
theorem dX6_couldAll_8 : decode cX6_couldAll 8 = .ok (.aload_n 0, 1) := by decide +kernel
theorem dX6_couldAll_9 : decode cX6_couldAll 9 = .ok (.getfield 34, 3) := by decide +kernel
theorem dX6_couldAll_12 : decode cX6_couldAll 12 = .ok (.iload_n 2, 1) := by decide +kernel
theorem dX6_couldAll_13 : decode cX6_couldAll 13 = .ok (.iaload, 1) := by decide +kernel
theorem dX6_couldAll_14 : decode cX6_couldAll 14 = .ok (.iload_n 1, 1) := by decide +kernel
theorem dX6_couldAll_15 : decode cX6_couldAll 15 = .ok (.iand, 1) := by decide +kernel
theorem dX6_couldAll_16 : decode cX6_couldAll 16 = .ok (.iload_n 1, 1) := by decide +kernel
theorem dX6_couldAll_17 : decode cX6_couldAll 17 = .ok (.if_icmp .ne 5, 3) := by decide +kernel
theorem dX6_couldAll_20 : decode cX6_couldAll 20 = .ok (.iconst 1, 1) := by decide +kernel
theorem dX6_couldAll_21 : decode cX6_couldAll 21 = .ok (.ireturn, 1) := by decide +kernel
theorem dX6_couldAll_22 : decode cX6_couldAll 22 = .ok (.iinc 2 1, 3) := by decide +kernel
theorem dX6_couldAll_25 : decode cX6_couldAll 25 = .ok (.goto (-23), 3) := by decide +kernel
theorem dX6_couldAll_28 : decode cX6_couldAll 28 = .ok (.iconst 0, 1) := by decide +kernel
theorem dX6_couldAll_29 : decode cX6_couldAll 29 = .ok (.ireturn, 1) := by decide +kernel
set_option maxRecDepth 20000 in
theorem ggX6_core_X6_findWorlds : GoodIn wsX6_core wsX6_findWorlds := goodIn_r _ [6, 7, 8, 9, 10, 5, 11, 12, 1, 13, 14, 15, 16, 17, 18, 19, 20, 21, 22, 23, 24, 25, 26, 27, 28, 29, 30, 31, 32, 33, 41, 42, 43, 44, 45, 46, 47, 48, 49, 50, 51, 52, 53, 54, 55, 56, 57, 58, 59, 60, 61] (by decide +kernel) (by decide +kernel)
set_option maxRecDepth 20000 in
theorem gX6_core_X6_findWorlds : GoodIn wsX6_core (wsV RX6 177 RX6 yX6_findWorlds wsX6_findWorlds) := goodIn_app (goodIn_of _ (by decide +kernel)) ggX6_core_X6_findWorlds
set_option maxRecDepth 20000 in
theorem ggX6_core_X6_standing : GoodIn wsX6_core wsX6_standing := goodIn_r _ [19, 12, 41, 42, 43, 44, 45, 46, 47, 48, 49, 50, 51, 52, 53, 54, 55, 56, 57, 58, 59, 60, 61] (by decide +kernel) (by decide +kernel)
set_option maxRecDepth 20000 in
theorem gX6_core_X6_standing : GoodIn wsX6_core (wsV RX6 174 RX6 yX6_standing wsX6_standing) := goodIn_app (goodIn_of _ (by decide +kernel)) ggX6_core_X6_standing
set_option maxRecDepth 20000 in
theorem ggX6_core_X6_bits : GoodIn wsX6_core wsX6_bits := goodIn_r _ [36] (by decide +kernel) (by decide +kernel)
set_option maxRecDepth 20000 in
theorem gX6_core_X6_bits : GoodIn wsX6_core (va_wsS RX6 171 yX6_bits wsX6_bits) := goodIn_app (goodIn_of _ (by decide +kernel)) ggX6_core_X6_bits
set_option maxRecDepth 20000 in
theorem ggX6_core_X6_couldAll : GoodIn wsX6_core wsX6_couldAll := goodIn_r _ [40, 7, 41, 42, 43, 44, 45, 46, 47, 48, 49, 50, 51, 52, 53, 54, 55, 56, 57, 58, 59, 60, 61] (by decide +kernel) (by decide +kernel)
set_option maxRecDepth 20000 in
theorem gX6_core_X6_couldAll : GoodIn wsX6_core (wsV RX6 180 RX6 yX6_couldAll wsX6_couldAll) := goodIn_app (goodIn_of _ (by decide +kernel)) ggX6_core_X6_couldAll
theorem dX6_core_0 : decode cX6_core 0 = .ok (.aload_n 0, 1) := by decide +kernel
theorem dX6_core_1 : decode cX6_core 1 = .ok (.invokevirtual 177, 3) := by decide +kernel
theorem dX6_core_4 : decode cX6_core 4 = .ok (.bipush (-4), 2) := by decide +kernel
theorem dX6_core_6 : decode cX6_core 6 = .ok (.istore_n 1, 1) := by decide +kernel
theorem dX6_core_7 : decode cX6_core 7 = .ok (.iconst 0, 1) := by decide +kernel
theorem dX6_core_8 : decode cX6_core 8 = .ok (.istore_n 2, 1) := by decide +kernel
theorem dX6_core_9 : decode cX6_core 9 = .ok (.iload_n 2, 1) := by decide +kernel
theorem dX6_core_10 : decode cX6_core 10 = .ok (.iconst 1, 1) := by decide +kernel
theorem dX6_core_11 : decode cX6_core 11 = .ok (.aload_n 0, 1) := by decide +kernel
theorem dX6_core_12 : decode cX6_core 12 = .ok (.getfield 7, 3) := by decide +kernel
theorem dX6_core_15 : decode cX6_core 15 = .ok (.iconst 2, 1) := by decide +kernel
theorem dX6_core_16 : decode cX6_core 16 = .ok (.iaload, 1) := by decide +kernel
theorem dX6_core_17 : decode cX6_core 17 = .ok (.ishl, 1) := by decide +kernel
theorem dX6_core_18 : decode cX6_core 18 = .ok (.if_icmp .ge 59, 3) := by decide +kernel
theorem dX6_core_21 : decode cX6_core 21 = .ok (.iload_n 2, 1) := by decide +kernel
theorem dX6_core_22 : decode cX6_core 22 = .ok (.aload_n 0, 1) := by decide +kernel
theorem dX6_core_23 : decode cX6_core 23 = .ok (.invokevirtual 174, 3) := by decide +kernel
theorem dX6_core_26 : decode cX6_core 26 = .ok (.iconst (-1), 1) := by decide +kernel
theorem dX6_core_27 : decode cX6_core 27 = .ok (.ixor, 1) := by decide +kernel
theorem dX6_core_28 : decode cX6_core 28 = .ok (.iand, 1) := by decide +kernel
theorem dX6_core_29 : decode cX6_core 29 = .ok (.ifCond .ne 22, 3) := by decide +kernel
theorem dX6_core_32 : decode cX6_core 32 = .ok (.iload_n 1, 1) := by decide +kernel
theorem dX6_core_33 : decode cX6_core 33 = .ok (.ifCond .lt 14, 3) := by decide +kernel
theorem dX6_core_36 : decode cX6_core 36 = .ok (.iload_n 2, 1) := by decide +kernel
theorem dX6_core_37 : decode cX6_core 37 = .ok (.invokestatic 171, 3) := by decide +kernel
theorem dX6_core_40 : decode cX6_core 40 = .ok (.iload_n 1, 1) := by decide +kernel
theorem dX6_core_41 : decode cX6_core 41 = .ok (.invokestatic 171, 3) := by decide +kernel
theorem dX6_core_44 : decode cX6_core 44 = .ok (.if_icmp .ge 7, 3) := by decide +kernel
theorem dX6_core_47 : decode cX6_core 47 = .ok (.iconst 1, 1) := by decide +kernel
theorem dX6_core_48 : decode cX6_core 48 = .ok (.goto 4, 3) := by decide +kernel
theorem dX6_core_51 : decode cX6_core 51 = .ok (.iconst 0, 1) := by decide +kernel
theorem dX6_core_52 : decode cX6_core 52 = .ok (.istore_n 3, 1) := by decide +kernel
theorem dX6_core_53 : decode cX6_core 53 = .ok (.iload_n 3, 1) := by decide +kernel
theorem dX6_core_54 : decode cX6_core 54 = .ok (.ifCond .eq 17, 3) := by decide +kernel
theorem dX6_core_57 : decode cX6_core 57 = .ok (.aload_n 0, 1) := by decide +kernel
theorem dX6_core_58 : decode cX6_core 58 = .ok (.iload_n 2, 1) := by decide +kernel
theorem dX6_core_59 : decode cX6_core 59 = .ok (.invokevirtual 180, 3) := by decide +kernel
theorem dX6_core_62 : decode cX6_core 62 = .ok (.ifCond .eq 7, 3) := by decide +kernel
theorem dX6_core_65 : decode cX6_core 65 = .ok (.iload_n 1, 1) := by decide +kernel
theorem dX6_core_66 : decode cX6_core 66 = .ok (.goto 4, 3) := by decide +kernel
theorem dX6_core_69 : decode cX6_core 69 = .ok (.iload_n 2, 1) := by decide +kernel
theorem dX6_core_70 : decode cX6_core 70 = .ok (.istore_n 1, 1) := by decide +kernel
theorem dX6_core_71 : decode cX6_core 71 = .ok (.iinc 2 1, 3) := by decide +kernel
theorem dX6_core_74 : decode cX6_core 74 = .ok (.goto (-65), 3) := by decide +kernel
theorem dX6_core_77 : decode cX6_core 77 = .ok (.iload_n 1, 1) := by decide +kernel
theorem dX6_core_78 : decode cX6_core 78 = .ok (.ireturn, 1) := by decide +kernel
set_option maxRecDepth 20000 in
theorem ggX6_cut_X6_findWorlds : GoodIn wsX6_cut wsX6_findWorlds := goodIn_r _ [6, 7, 8, 9, 10, 5, 11, 12, 1, 13, 14, 15, 16, 17, 18, 19, 20, 21, 22, 23, 24, 25, 26, 27, 28, 29, 30, 31, 32, 33, 41, 42, 43, 44, 45, 46, 47, 48, 49, 50, 51, 52, 53, 54, 55, 56, 57, 58, 59, 60, 61] (by decide +kernel) (by decide +kernel)
set_option maxRecDepth 20000 in
theorem gX6_cut_X6_findWorlds : GoodIn wsX6_cut (wsV RX6 177 RX6 yX6_findWorlds wsX6_findWorlds) := goodIn_app (goodIn_of _ (by decide +kernel)) ggX6_cut_X6_findWorlds
set_option maxRecDepth 20000 in
theorem ggX6_cut_X6_standing : GoodIn wsX6_cut wsX6_standing := goodIn_r _ [19, 12, 41, 42, 43, 44, 45, 46, 47, 48, 49, 50, 51, 52, 53, 54, 55, 56, 57, 58, 59, 60, 61] (by decide +kernel) (by decide +kernel)
set_option maxRecDepth 20000 in
theorem gX6_cut_X6_standing : GoodIn wsX6_cut (wsV RX6 174 RX6 yX6_standing wsX6_standing) := goodIn_app (goodIn_of _ (by decide +kernel)) ggX6_cut_X6_standing
set_option maxRecDepth 20000 in
theorem ggX6_cut_X6_bits : GoodIn wsX6_cut wsX6_bits := goodIn_r _ [36] (by decide +kernel) (by decide +kernel)
set_option maxRecDepth 20000 in
theorem gX6_cut_X6_bits : GoodIn wsX6_cut (va_wsS RX6 171 yX6_bits wsX6_bits) := goodIn_app (goodIn_of _ (by decide +kernel)) ggX6_cut_X6_bits
set_option maxRecDepth 20000 in
theorem ggX6_cut_X6_couldAll : GoodIn wsX6_cut wsX6_couldAll := goodIn_r _ [40, 7, 41, 42, 43, 44, 45, 46, 47, 48, 49, 50, 51, 52, 53, 54, 55, 56, 57, 58, 59, 60, 61] (by decide +kernel) (by decide +kernel)
set_option maxRecDepth 20000 in
theorem gX6_cut_X6_couldAll : GoodIn wsX6_cut (wsV RX6 180 RX6 yX6_couldAll wsX6_couldAll) := goodIn_app (goodIn_of _ (by decide +kernel)) ggX6_cut_X6_couldAll
theorem dX6_cut_0 : decode cX6_cut 0 = .ok (.aload_n 0, 1) := by decide +kernel
theorem dX6_cut_1 : decode cX6_cut 1 = .ok (.invokevirtual 177, 3) := by decide +kernel
theorem dX6_cut_4 : decode cX6_cut 4 = .ok (.bipush (-4), 2) := by decide +kernel
theorem dX6_cut_6 : decode cX6_cut 6 = .ok (.istore_n 1, 1) := by decide +kernel
theorem dX6_cut_7 : decode cX6_cut 7 = .ok (.iconst 0, 1) := by decide +kernel
theorem dX6_cut_8 : decode cX6_cut 8 = .ok (.istore_n 2, 1) := by decide +kernel
theorem dX6_cut_9 : decode cX6_cut 9 = .ok (.iload_n 2, 1) := by decide +kernel
theorem dX6_cut_10 : decode cX6_cut 10 = .ok (.iconst 1, 1) := by decide +kernel
theorem dX6_cut_11 : decode cX6_cut 11 = .ok (.aload_n 0, 1) := by decide +kernel
theorem dX6_cut_12 : decode cX6_cut 12 = .ok (.getfield 7, 3) := by decide +kernel
theorem dX6_cut_15 : decode cX6_cut 15 = .ok (.iconst 2, 1) := by decide +kernel
theorem dX6_cut_16 : decode cX6_cut 16 = .ok (.iaload, 1) := by decide +kernel
theorem dX6_cut_17 : decode cX6_cut 17 = .ok (.ishl, 1) := by decide +kernel
theorem dX6_cut_18 : decode cX6_cut 18 = .ok (.if_icmp .ge 66, 3) := by decide +kernel
theorem dX6_cut_21 : decode cX6_cut 21 = .ok (.iload_n 2, 1) := by decide +kernel
theorem dX6_cut_22 : decode cX6_cut 22 = .ok (.aload_n 0, 1) := by decide +kernel
theorem dX6_cut_23 : decode cX6_cut 23 = .ok (.invokevirtual 174, 3) := by decide +kernel
theorem dX6_cut_26 : decode cX6_cut 26 = .ok (.iconst (-1), 1) := by decide +kernel
theorem dX6_cut_27 : decode cX6_cut 27 = .ok (.ixor, 1) := by decide +kernel
theorem dX6_cut_28 : decode cX6_cut 28 = .ok (.iand, 1) := by decide +kernel
theorem dX6_cut_29 : decode cX6_cut 29 = .ok (.ifCond .ne 22, 3) := by decide +kernel
theorem dX6_cut_32 : decode cX6_cut 32 = .ok (.iload_n 1, 1) := by decide +kernel
theorem dX6_cut_33 : decode cX6_cut 33 = .ok (.ifCond .lt 14, 3) := by decide +kernel
theorem dX6_cut_36 : decode cX6_cut 36 = .ok (.iload_n 2, 1) := by decide +kernel
theorem dX6_cut_37 : decode cX6_cut 37 = .ok (.invokestatic 171, 3) := by decide +kernel
theorem dX6_cut_40 : decode cX6_cut 40 = .ok (.iload_n 1, 1) := by decide +kernel
theorem dX6_cut_41 : decode cX6_cut 41 = .ok (.invokestatic 171, 3) := by decide +kernel
theorem dX6_cut_44 : decode cX6_cut 44 = .ok (.if_icmp .ge 7, 3) := by decide +kernel
theorem dX6_cut_47 : decode cX6_cut 47 = .ok (.iconst 1, 1) := by decide +kernel
theorem dX6_cut_48 : decode cX6_cut 48 = .ok (.goto 4, 3) := by decide +kernel
theorem dX6_cut_51 : decode cX6_cut 51 = .ok (.iconst 0, 1) := by decide +kernel
theorem dX6_cut_52 : decode cX6_cut 52 = .ok (.istore_n 3, 1) := by decide +kernel
theorem dX6_cut_53 : decode cX6_cut 53 = .ok (.iload_n 3, 1) := by decide +kernel
theorem dX6_cut_54 : decode cX6_cut 54 = .ok (.ifCond .eq 24, 3) := by decide +kernel
theorem dX6_cut_57 : decode cX6_cut 57 = .ok (.aload_n 0, 1) := by decide +kernel
theorem dX6_cut_58 : decode cX6_cut 58 = .ok (.aload_n 0, 1) := by decide +kernel
theorem dX6_cut_59 : decode cX6_cut 59 = .ok (.invokevirtual 174, 3) := by decide +kernel
theorem dX6_cut_62 : decode cX6_cut 62 = .ok (.iload_n 2, 1) := by decide +kernel
theorem dX6_cut_63 : decode cX6_cut 63 = .ok (.iconst (-1), 1) := by decide +kernel
theorem dX6_cut_64 : decode cX6_cut 64 = .ok (.ixor, 1) := by decide +kernel
theorem dX6_cut_65 : decode cX6_cut 65 = .ok (.iand, 1) := by decide +kernel
theorem dX6_cut_66 : decode cX6_cut 66 = .ok (.invokevirtual 180, 3) := by decide +kernel
theorem dX6_cut_69 : decode cX6_cut 69 = .ok (.ifCond .eq 7, 3) := by decide +kernel
theorem dX6_cut_72 : decode cX6_cut 72 = .ok (.iload_n 2, 1) := by decide +kernel
theorem dX6_cut_73 : decode cX6_cut 73 = .ok (.goto 4, 3) := by decide +kernel
theorem dX6_cut_76 : decode cX6_cut 76 = .ok (.iload_n 1, 1) := by decide +kernel
theorem dX6_cut_77 : decode cX6_cut 77 = .ok (.istore_n 1, 1) := by decide +kernel
theorem dX6_cut_78 : decode cX6_cut 78 = .ok (.iinc 2 1, 3) := by decide +kernel
theorem dX6_cut_81 : decode cX6_cut 81 = .ok (.goto (-72), 3) := by decide +kernel
theorem dX6_cut_84 : decode cX6_cut 84 = .ok (.iload_n 1, 1) := by decide +kernel
theorem dX6_cut_85 : decode cX6_cut 85 = .ok (.ireturn, 1) := by decide +kernel
set_option maxRecDepth 20000 in
theorem ggX6_truest_X6_in : GoodIn wsX6_truest wsX6_in := goodIn_r _ [5] (by decide +kernel) (by decide +kernel)
set_option maxRecDepth 20000 in
theorem gX6_truest_X6_in : GoodIn wsX6_truest (va_wsS RX6 64 yX6_in wsX6_in) := goodIn_app (goodIn_of _ (by decide +kernel)) ggX6_truest_X6_in
set_option maxRecDepth 20000 in
theorem ggX6_truest_X6_findWorlds : GoodIn wsX6_truest wsX6_findWorlds := goodIn_r _ [9, 1, 10, 11, 12, 4, 13, 14, 15, 16, 17, 18, 19, 20, 21, 22, 23, 24, 25, 26, 27, 28, 29, 30, 31, 32, 33, 34, 35, 36, 40, 41, 42, 43, 44, 45, 46, 47, 48, 49, 50, 51, 52, 53, 54, 55, 56, 57, 58, 59, 60] (by decide +kernel) (by decide +kernel)
set_option maxRecDepth 20000 in
theorem gX6_truest_X6_findWorlds : GoodIn wsX6_truest (wsV RX6 177 RX6 yX6_findWorlds wsX6_findWorlds) := goodIn_app (goodIn_of _ (by decide +kernel)) ggX6_truest_X6_findWorlds
set_option maxRecDepth 20000 in
theorem ggX6_truest_X6_bits : GoodIn wsX6_truest wsX6_bits := goodIn_r _ [39] (by decide +kernel) (by decide +kernel)
set_option maxRecDepth 20000 in
theorem gX6_truest_X6_bits : GoodIn wsX6_truest (va_wsS RX6 171 yX6_bits wsX6_bits) := goodIn_app (goodIn_of _ (by decide +kernel)) ggX6_truest_X6_bits
theorem dX6_truest_0 : decode cX6_truest 0 = .ok (.iload_n 1, 1) := by decide +kernel
theorem dX6_truest_1 : decode cX6_truest 1 = .ok (.iconst 0, 1) := by decide +kernel
theorem dX6_truest_2 : decode cX6_truest 2 = .ok (.iconst 1, 1) := by decide +kernel
theorem dX6_truest_3 : decode cX6_truest 3 = .ok (.invokestatic 64, 3) := by decide +kernel
theorem dX6_truest_6 : decode cX6_truest 6 = .ok (.ifCond .ne 5, 3) := by decide +kernel
theorem dX6_truest_9 : decode cX6_truest 9 = .ok (.iconst (-1), 1) := by decide +kernel
theorem dX6_truest_10 : decode cX6_truest 10 = .ok (.ireturn, 1) := by decide +kernel
theorem dX6_truest_11 : decode cX6_truest 11 = .ok (.aload_n 0, 1) := by decide +kernel
theorem dX6_truest_12 : decode cX6_truest 12 = .ok (.invokevirtual 177, 3) := by decide +kernel
theorem dX6_truest_15 : decode cX6_truest 15 = .ok (.iconst 0, 1) := by decide +kernel
theorem dX6_truest_16 : decode cX6_truest 16 = .ok (.istore_n 2, 1) := by decide +kernel
theorem dX6_truest_17 : decode cX6_truest 17 = .ok (.iconst 1, 1) := by decide +kernel
theorem dX6_truest_18 : decode cX6_truest 18 = .ok (.istore_n 3, 1) := by decide +kernel
theorem dX6_truest_19 : decode cX6_truest 19 = .ok (.iload_n 3, 1) := by decide +kernel
theorem dX6_truest_20 : decode cX6_truest 20 = .ok (.bipush 64, 2) := by decide +kernel
theorem dX6_truest_22 : decode cX6_truest 22 = .ok (.if_icmp .ge 36, 3) := by decide +kernel
theorem dX6_truest_25 : decode cX6_truest 25 = .ok (.aload_n 0, 1) := by decide +kernel
theorem dX6_truest_26 : decode cX6_truest 26 = .ok (.getfield 34, 3) := by decide +kernel
theorem dX6_truest_29 : decode cX6_truest 29 = .ok (.iload_n 3, 1) := by decide +kernel
theorem dX6_truest_30 : decode cX6_truest 30 = .ok (.iaload, 1) := by decide +kernel
theorem dX6_truest_31 : decode cX6_truest 31 = .ok (.invokestatic 171, 3) := by decide +kernel
theorem dX6_truest_34 : decode cX6_truest 34 = .ok (.aload_n 0, 1) := by decide +kernel
theorem dX6_truest_35 : decode cX6_truest 35 = .ok (.getfield 34, 3) := by decide +kernel
theorem dX6_truest_38 : decode cX6_truest 38 = .ok (.iload_n 2, 1) := by decide +kernel
theorem dX6_truest_39 : decode cX6_truest 39 = .ok (.iaload, 1) := by decide +kernel
theorem dX6_truest_40 : decode cX6_truest 40 = .ok (.invokestatic 171, 3) := by decide +kernel
theorem dX6_truest_43 : decode cX6_truest 43 = .ok (.if_icmp .le 7, 3) := by decide +kernel
theorem dX6_truest_46 : decode cX6_truest 46 = .ok (.iload_n 3, 1) := by decide +kernel
theorem dX6_truest_47 : decode cX6_truest 47 = .ok (.goto 4, 3) := by decide +kernel
theorem dX6_truest_50 : decode cX6_truest 50 = .ok (.iload_n 2, 1) := by decide +kernel
theorem dX6_truest_51 : decode cX6_truest 51 = .ok (.istore_n 2, 1) := by decide +kernel
theorem dX6_truest_52 : decode cX6_truest 52 = .ok (.iinc 3 1, 3) := by decide +kernel
theorem dX6_truest_55 : decode cX6_truest 55 = .ok (.goto (-36), 3) := by decide +kernel
theorem dX6_truest_58 : decode cX6_truest 58 = .ok (.iload_n 1, 1) := by decide +kernel
theorem dX6_truest_59 : decode cX6_truest 59 = .ok (.ifCond .ne 15, 3) := by decide +kernel
theorem dX6_truest_62 : decode cX6_truest 62 = .ok (.aload_n 0, 1) := by decide +kernel
theorem dX6_truest_63 : decode cX6_truest 63 = .ok (.getfield 34, 3) := by decide +kernel
theorem dX6_truest_66 : decode cX6_truest 66 = .ok (.iload_n 2, 1) := by decide +kernel
theorem dX6_truest_67 : decode cX6_truest 67 = .ok (.iaload, 1) := by decide +kernel
theorem dX6_truest_68 : decode cX6_truest 68 = .ok (.invokestatic 171, 3) := by decide +kernel
theorem dX6_truest_71 : decode cX6_truest 71 = .ok (.goto 4, 3) := by decide +kernel
theorem dX6_truest_74 : decode cX6_truest 74 = .ok (.iload_n 2, 1) := by decide +kernel
theorem dX6_truest_75 : decode cX6_truest 75 = .ok (.ireturn, 1) := by decide +kernel
set_option maxRecDepth 20000 in
theorem ggX6_married_X6_asItIs : GoodIn wsX6_married wsX6_asItIs := goodIn_r _ [6, 7, 8, 9, 10, 5, 11, 34, 35, 36, 37, 38, 39, 40, 41, 42, 43, 44, 45, 46, 47, 48, 49, 50, 51, 52, 53, 54] (by decide +kernel) (by decide +kernel)
set_option maxRecDepth 20000 in
theorem gX6_married_X6_asItIs : GoodIn wsX6_married (wsV RX6 149 RX6 yX6_asItIs wsX6_asItIs) := goodIn_app (goodIn_of _ (by decide +kernel)) ggX6_married_X6_asItIs
set_option maxRecDepth 20000 in
theorem ggX6_married_X6_police : GoodIn wsX6_married wsX6_police := goodIn_r _ [15, 7, 34, 35, 36, 37, 38, 39, 40, 41, 42, 43, 44, 45, 46, 47, 48, 49, 50, 51, 52, 53, 54] (by decide +kernel) (by decide +kernel)
set_option maxRecDepth 20000 in
theorem gX6_married_X6_police : GoodIn wsX6_married (wsV RX6 168 RX6 yX6_police wsX6_police) := goodIn_app (goodIn_of _ (by decide +kernel)) ggX6_married_X6_police
set_option maxRecDepth 20000 in
theorem ggX6_married_X6_has : GoodIn wsX6_married wsX6_has := goodIn_r _ [18] (by decide +kernel) (by decide +kernel)
set_option maxRecDepth 20000 in
theorem gX6_married_X6_has : GoodIn wsX6_married (va_wsS RX6 124 yX6_has wsX6_has) := goodIn_app (goodIn_of _ (by decide +kernel)) ggX6_married_X6_has
set_option maxRecDepth 20000 in
theorem ggX6_married_X6_pairsFrom : GoodIn wsX6_married wsX6_pairsFrom := goodIn_r _ [22, 1, 8, 16, 17, 5, 18, 23, 24, 25, 26, 27, 28, 29, 30, 7, 31, 32, 33, 34, 35, 36, 37, 38, 39, 40, 41, 42, 43, 44, 45, 46, 47, 48, 49, 50, 51, 52, 53, 54] (by decide +kernel) (by decide +kernel)
set_option maxRecDepth 20000 in
theorem gX6_married_X6_pairsFrom : GoodIn wsX6_married (wsV RX6 183 RX6 yX6_pairsFrom wsX6_pairsFrom) := goodIn_app (goodIn_of _ (by decide +kernel)) ggX6_married_X6_pairsFrom
theorem dX6_married_0 : decode cX6_married 0 = .ok (.aload_n 0, 1) := by decide +kernel
theorem dX6_married_1 : decode cX6_married 1 = .ok (.invokevirtual 149, 3) := by decide +kernel
theorem dX6_married_4 : decode cX6_married 4 = .ok (.aload_n 0, 1) := by decide +kernel
theorem dX6_married_5 : decode cX6_married 5 = .ok (.invokevirtual 168, 3) := by decide +kernel
theorem dX6_married_8 : decode cX6_married 8 = .ok (.istore_n 1, 1) := by decide +kernel
theorem dX6_married_9 : decode cX6_married 9 = .ok (.sipush 511, 3) := by decide +kernel
theorem dX6_married_12 : decode cX6_married 12 = .ok (.istore_n 2, 1) := by decide +kernel
theorem dX6_married_13 : decode cX6_married 13 = .ok (.iload_n 2, 1) := by decide +kernel
theorem dX6_married_14 : decode cX6_married 14 = .ok (.ifCond .lt 73, 3) := by decide +kernel
theorem dX6_married_17 : decode cX6_married 17 = .ok (.aload_n 0, 1) := by decide +kernel
theorem dX6_married_18 : decode cX6_married 18 = .ok (.getfield 37, 3) := by decide +kernel
theorem dX6_married_21 : decode cX6_married 21 = .ok (.iload_n 2, 1) := by decide +kernel
theorem dX6_married_22 : decode cX6_married 22 = .ok (.iconst 0, 1) := by decide +kernel
theorem dX6_married_23 : decode cX6_married 23 = .ok (.iastore, 1) := by decide +kernel
theorem dX6_married_24 : decode cX6_married 24 = .ok (.iload_n 2, 1) := by decide +kernel
theorem dX6_married_25 : decode cX6_married 25 = .ok (.iload_n 1, 1) := by decide +kernel
theorem dX6_married_26 : decode cX6_married 26 = .ok (.iconst (-1), 1) := by decide +kernel
theorem dX6_married_27 : decode cX6_married 27 = .ok (.ixor, 1) := by decide +kernel
theorem dX6_married_28 : decode cX6_married 28 = .ok (.iand, 1) := by decide +kernel
theorem dX6_married_29 : decode cX6_married 29 = .ok (.ifCond .ne 52, 3) := by decide +kernel
theorem dX6_married_32 : decode cX6_married 32 = .ok (.iconst 0, 1) := by decide +kernel
theorem dX6_married_33 : decode cX6_married 33 = .ok (.istore_n 3, 1) := by decide +kernel
theorem dX6_married_34 : decode cX6_married 34 = .ok (.iload_n 3, 1) := by decide +kernel
theorem dX6_married_35 : decode cX6_married 35 = .ok (.bipush 9, 2) := by decide +kernel
theorem dX6_married_37 : decode cX6_married 37 = .ok (.if_icmp .ge 21, 3) := by decide +kernel
theorem dX6_married_40 : decode cX6_married 40 = .ok (.iload_n 1, 1) := by decide +kernel
theorem dX6_married_41 : decode cX6_married 41 = .ok (.iload_n 2, 1) := by decide +kernel
theorem dX6_married_42 : decode cX6_married 42 = .ok (.iconst (-1), 1) := by decide +kernel
theorem dX6_married_43 : decode cX6_married 43 = .ok (.ixor, 1) := by decide +kernel
theorem dX6_married_44 : decode cX6_married 44 = .ok (.iand, 1) := by decide +kernel
theorem dX6_married_45 : decode cX6_married 45 = .ok (.iload_n 3, 1) := by decide +kernel
theorem dX6_married_46 : decode cX6_married 46 = .ok (.invokestatic 124, 3) := by decide +kernel
theorem dX6_married_49 : decode cX6_married 49 = .ok (.ifCond .ne 9, 3) := by decide +kernel
theorem dX6_married_52 : decode cX6_married 52 = .ok (.iinc 3 1, 3) := by decide +kernel
theorem dX6_married_55 : decode cX6_married 55 = .ok (.goto (-21), 3) := by decide +kernel
theorem dX6_married_58 : decode cX6_married 58 = .ok (.aload_n 0, 1) := by decide +kernel
theorem dX6_married_59 : decode cX6_married 59 = .ok (.getfield 37, 3) := by decide +kernel
theorem dX6_married_62 : decode cX6_married 62 = .ok (.iload_n 2, 1) := by decide +kernel
theorem dX6_married_63 : decode cX6_married 63 = .ok (.iload_n 3, 1) := by decide +kernel
theorem dX6_married_64 : decode cX6_married 64 = .ok (.bipush 9, 2) := by decide +kernel
theorem dX6_married_66 : decode cX6_married 66 = .ok (.if_icmp .ne 7, 3) := by decide +kernel
theorem dX6_married_69 : decode cX6_married 69 = .ok (.iconst 0, 1) := by decide +kernel
theorem dX6_married_70 : decode cX6_married 70 = .ok (.goto 10, 3) := by decide +kernel
theorem dX6_married_73 : decode cX6_married 73 = .ok (.aload_n 0, 1) := by decide +kernel
theorem dX6_married_74 : decode cX6_married 74 = .ok (.iload_n 1, 1) := by decide +kernel
theorem dX6_married_75 : decode cX6_married 75 = .ok (.iload_n 2, 1) := by decide +kernel
theorem dX6_married_76 : decode cX6_married 76 = .ok (.iload_n 3, 1) := by decide +kernel
theorem dX6_married_77 : decode cX6_married 77 = .ok (.invokevirtual 183, 3) := by decide +kernel
theorem dX6_married_80 : decode cX6_married 80 = .ok (.iastore, 1) := by decide +kernel
theorem dX6_married_81 : decode cX6_married 81 = .ok (.iinc 2 (-1), 3) := by decide +kernel
theorem dX6_married_84 : decode cX6_married 84 = .ok (.goto (-71), 3) := by decide +kernel
theorem dX6_married_87 : decode cX6_married 87 = .ok (.aload_n 0, 1) := by decide +kernel
theorem dX6_married_88 : decode cX6_married 88 = .ok (.getfield 37, 3) := by decide +kernel
theorem dX6_married_91 : decode cX6_married 91 = .ok (.iconst 0, 1) := by decide +kernel
theorem dX6_married_92 : decode cX6_married 92 = .ok (.iaload, 1) := by decide +kernel
theorem dX6_married_93 : decode cX6_married 93 = .ok (.ireturn, 1) := by decide +kernel
set_option maxRecDepth 20000 in
theorem ggX6_pairsFrom_X6_has : GoodIn wsX6_pairsFrom wsX6_has := goodIn_r _ [6] (by decide +kernel) (by decide +kernel)
set_option maxRecDepth 20000 in
theorem gX6_pairsFrom_X6_has : GoodIn wsX6_pairsFrom (va_wsS RX6 124 yX6_has wsX6_has) := goodIn_app (goodIn_of _ (by decide +kernel)) ggX6_pairsFrom_X6_has
set_option maxRecDepth 20000 in
theorem ggX6_pairsFrom_X6_doClash : GoodIn wsX6_pairsFrom wsX6_doClash := goodIn_r _ [10, 11, 12, 13, 5, 14, 15, 16, 17, 18, 3, 4, 6, 19, 20, 21, 22, 23, 24, 25, 26, 27, 28, 29, 30, 31, 32, 33, 34, 35, 36, 37, 38, 39] (by decide +kernel) (by decide +kernel)
set_option maxRecDepth 20000 in
theorem gX6_pairsFrom_X6_doClash : GoodIn wsX6_pairsFrom (wsV RX6 140 RX6 yX6_doClash wsX6_doClash) := goodIn_app (goodIn_of _ (by decide +kernel)) ggX6_pairsFrom_X6_doClash
theorem dX6_pairsFrom_0 : decode cX6_pairsFrom 0 = .ok (.aload_n 0, 1) := by decide +kernel
theorem dX6_pairsFrom_1 : decode cX6_pairsFrom 1 = .ok (.getfield 37, 3) := by decide +kernel
theorem dX6_pairsFrom_4 : decode cX6_pairsFrom 4 = .ok (.iload_n 2, 1) := by decide +kernel
theorem dX6_pairsFrom_5 : decode cX6_pairsFrom 5 = .ok (.iconst 1, 1) := by decide +kernel
theorem dX6_pairsFrom_6 : decode cX6_pairsFrom 6 = .ok (.iload_n 3, 1) := by decide +kernel
theorem dX6_pairsFrom_7 : decode cX6_pairsFrom 7 = .ok (.ishl, 1) := by decide +kernel
theorem dX6_pairsFrom_8 : decode cX6_pairsFrom 8 = .ok (.ior, 1) := by decide +kernel
theorem dX6_pairsFrom_9 : decode cX6_pairsFrom 9 = .ok (.iaload, 1) := by decide +kernel
theorem dX6_pairsFrom_10 : decode cX6_pairsFrom 10 = .ok (.istore 4, 2) := by decide +kernel
theorem dX6_pairsFrom_12 : decode cX6_pairsFrom 12 = .ok (.iload_n 3, 1) := by decide +kernel
theorem dX6_pairsFrom_13 : decode cX6_pairsFrom 13 = .ok (.iconst 1, 1) := by decide +kernel
theorem dX6_pairsFrom_14 : decode cX6_pairsFrom 14 = .ok (.iadd, 1) := by decide +kernel
theorem dX6_pairsFrom_15 : decode cX6_pairsFrom 15 = .ok (.istore 5, 2) := by decide +kernel
theorem dX6_pairsFrom_17 : decode cX6_pairsFrom 17 = .ok (.iload 5, 2) := by decide +kernel
theorem dX6_pairsFrom_19 : decode cX6_pairsFrom 19 = .ok (.aload_n 0, 1) := by decide +kernel
theorem dX6_pairsFrom_20 : decode cX6_pairsFrom 20 = .ok (.getfield 7, 3) := by decide +kernel
theorem dX6_pairsFrom_23 : decode cX6_pairsFrom 23 = .ok (.iconst 2, 1) := by decide +kernel
theorem dX6_pairsFrom_24 : decode cX6_pairsFrom 24 = .ok (.iaload, 1) := by decide +kernel
theorem dX6_pairsFrom_25 : decode cX6_pairsFrom 25 = .ok (.if_icmp .ge 111, 3) := by decide +kernel
theorem dX6_pairsFrom_28 : decode cX6_pairsFrom 28 = .ok (.iload_n 1, 1) := by decide +kernel
theorem dX6_pairsFrom_29 : decode cX6_pairsFrom 29 = .ok (.iload_n 2, 1) := by decide +kernel
theorem dX6_pairsFrom_30 : decode cX6_pairsFrom 30 = .ok (.iconst (-1), 1) := by decide +kernel
theorem dX6_pairsFrom_31 : decode cX6_pairsFrom 31 = .ok (.ixor, 1) := by decide +kernel
theorem dX6_pairsFrom_32 : decode cX6_pairsFrom 32 = .ok (.iand, 1) := by decide +kernel
theorem dX6_pairsFrom_33 : decode cX6_pairsFrom 33 = .ok (.iload 5, 2) := by decide +kernel
theorem dX6_pairsFrom_35 : decode cX6_pairsFrom 35 = .ok (.invokestatic 124, 3) := by decide +kernel
theorem dX6_pairsFrom_38 : decode cX6_pairsFrom 38 = .ok (.ifCond .eq 45, 3) := by decide +kernel
theorem dX6_pairsFrom_41 : decode cX6_pairsFrom 41 = .ok (.aload_n 0, 1) := by decide +kernel
theorem dX6_pairsFrom_42 : decode cX6_pairsFrom 42 = .ok (.getfield 7, 3) := by decide +kernel
theorem dX6_pairsFrom_45 : decode cX6_pairsFrom 45 = .ok (.iconst 4, 1) := by decide +kernel
theorem dX6_pairsFrom_46 : decode cX6_pairsFrom 46 = .ok (.iconst 4, 1) := by decide +kernel
theorem dX6_pairsFrom_47 : decode cX6_pairsFrom 47 = .ok (.iload_n 3, 1) := by decide +kernel
theorem dX6_pairsFrom_48 : decode cX6_pairsFrom 48 = .ok (.imul, 1) := by decide +kernel
theorem dX6_pairsFrom_49 : decode cX6_pairsFrom 49 = .ok (.iadd, 1) := by decide +kernel
theorem dX6_pairsFrom_50 : decode cX6_pairsFrom 50 = .ok (.iconst 3, 1) := by decide +kernel
theorem dX6_pairsFrom_51 : decode cX6_pairsFrom 51 = .ok (.iadd, 1) := by decide +kernel
theorem dX6_pairsFrom_52 : decode cX6_pairsFrom 52 = .ok (.iaload, 1) := by decide +kernel
theorem dX6_pairsFrom_53 : decode cX6_pairsFrom 53 = .ok (.aload_n 0, 1) := by decide +kernel
theorem dX6_pairsFrom_54 : decode cX6_pairsFrom 54 = .ok (.getfield 7, 3) := by decide +kernel
theorem dX6_pairsFrom_57 : decode cX6_pairsFrom 57 = .ok (.iconst 4, 1) := by decide +kernel
theorem dX6_pairsFrom_58 : decode cX6_pairsFrom 58 = .ok (.iconst 4, 1) := by decide +kernel
theorem dX6_pairsFrom_59 : decode cX6_pairsFrom 59 = .ok (.iload 5, 2) := by decide +kernel
theorem dX6_pairsFrom_61 : decode cX6_pairsFrom 61 = .ok (.imul, 1) := by decide +kernel
theorem dX6_pairsFrom_62 : decode cX6_pairsFrom 62 = .ok (.iadd, 1) := by decide +kernel
theorem dX6_pairsFrom_63 : decode cX6_pairsFrom 63 = .ok (.iconst 3, 1) := by decide +kernel
theorem dX6_pairsFrom_64 : decode cX6_pairsFrom 64 = .ok (.iadd, 1) := by decide +kernel
theorem dX6_pairsFrom_65 : decode cX6_pairsFrom 65 = .ok (.iaload, 1) := by decide +kernel
theorem dX6_pairsFrom_66 : decode cX6_pairsFrom 66 = .ok (.if_icmp .eq 17, 3) := by decide +kernel
theorem dX6_pairsFrom_69 : decode cX6_pairsFrom 69 = .ok (.aload_n 0, 1) := by decide +kernel
theorem dX6_pairsFrom_70 : decode cX6_pairsFrom 70 = .ok (.iload_n 3, 1) := by decide +kernel
theorem dX6_pairsFrom_71 : decode cX6_pairsFrom 71 = .ok (.iload 5, 2) := by decide +kernel
theorem dX6_pairsFrom_73 : decode cX6_pairsFrom 73 = .ok (.invokevirtual 140, 3) := by decide +kernel
theorem dX6_pairsFrom_76 : decode cX6_pairsFrom 76 = .ok (.ifCond .ne 7, 3) := by decide +kernel
theorem dX6_pairsFrom_79 : decode cX6_pairsFrom 79 = .ok (.iconst 1, 1) := by decide +kernel
theorem dX6_pairsFrom_80 : decode cX6_pairsFrom 80 = .ok (.goto 4, 3) := by decide +kernel
theorem dX6_pairsFrom_83 : decode cX6_pairsFrom 83 = .ok (.iconst 0, 1) := by decide +kernel
theorem dX6_pairsFrom_84 : decode cX6_pairsFrom 84 = .ok (.istore 6, 2) := by decide +kernel
theorem dX6_pairsFrom_86 : decode cX6_pairsFrom 86 = .ok (.iload 6, 2) := by decide +kernel
theorem dX6_pairsFrom_88 : decode cX6_pairsFrom 88 = .ok (.ifCond .eq 23, 3) := by decide +kernel
theorem dX6_pairsFrom_91 : decode cX6_pairsFrom 91 = .ok (.iconst 1, 1) := by decide +kernel
theorem dX6_pairsFrom_92 : decode cX6_pairsFrom 92 = .ok (.aload_n 0, 1) := by decide +kernel
theorem dX6_pairsFrom_93 : decode cX6_pairsFrom 93 = .ok (.getfield 37, 3) := by decide +kernel
theorem dX6_pairsFrom_96 : decode cX6_pairsFrom 96 = .ok (.iload_n 2, 1) := by decide +kernel
theorem dX6_pairsFrom_97 : decode cX6_pairsFrom 97 = .ok (.iconst 1, 1) := by decide +kernel
theorem dX6_pairsFrom_98 : decode cX6_pairsFrom 98 = .ok (.iload_n 3, 1) := by decide +kernel
theorem dX6_pairsFrom_99 : decode cX6_pairsFrom 99 = .ok (.ishl, 1) := by decide +kernel
theorem dX6_pairsFrom_100 : decode cX6_pairsFrom 100 = .ok (.ior, 1) := by decide +kernel
theorem dX6_pairsFrom_101 : decode cX6_pairsFrom 101 = .ok (.iconst 1, 1) := by decide +kernel
theorem dX6_pairsFrom_102 : decode cX6_pairsFrom 102 = .ok (.iload 5, 2) := by decide +kernel
theorem dX6_pairsFrom_104 : decode cX6_pairsFrom 104 = .ok (.ishl, 1) := by decide +kernel
theorem dX6_pairsFrom_105 : decode cX6_pairsFrom 105 = .ok (.ior, 1) := by decide +kernel
theorem dX6_pairsFrom_106 : decode cX6_pairsFrom 106 = .ok (.iaload, 1) := by decide +kernel
theorem dX6_pairsFrom_107 : decode cX6_pairsFrom 107 = .ok (.iadd, 1) := by decide +kernel
theorem dX6_pairsFrom_108 : decode cX6_pairsFrom 108 = .ok (.goto 4, 3) := by decide +kernel
theorem dX6_pairsFrom_111 : decode cX6_pairsFrom 111 = .ok (.iconst 0, 1) := by decide +kernel
theorem dX6_pairsFrom_112 : decode cX6_pairsFrom 112 = .ok (.istore 7, 2) := by decide +kernel
theorem dX6_pairsFrom_114 : decode cX6_pairsFrom 114 = .ok (.iload 7, 2) := by decide +kernel
theorem dX6_pairsFrom_116 : decode cX6_pairsFrom 116 = .ok (.iload 4, 2) := by decide +kernel
theorem dX6_pairsFrom_118 : decode cX6_pairsFrom 118 = .ok (.if_icmp .le 8, 3) := by decide +kernel
theorem dX6_pairsFrom_121 : decode cX6_pairsFrom 121 = .ok (.iload 7, 2) := by decide +kernel
theorem dX6_pairsFrom_123 : decode cX6_pairsFrom 123 = .ok (.goto 5, 3) := by decide +kernel
theorem dX6_pairsFrom_126 : decode cX6_pairsFrom 126 = .ok (.iload 4, 2) := by decide +kernel
theorem dX6_pairsFrom_128 : decode cX6_pairsFrom 128 = .ok (.istore 4, 2) := by decide +kernel
theorem dX6_pairsFrom_130 : decode cX6_pairsFrom 130 = .ok (.iinc 5 1, 3) := by decide +kernel
theorem dX6_pairsFrom_133 : decode cX6_pairsFrom 133 = .ok (.goto (-116), 3) := by decide +kernel
theorem dX6_pairsFrom_136 : decode cX6_pairsFrom 136 = .ok (.iload 4, 2) := by decide +kernel
theorem dX6_pairsFrom_138 : decode cX6_pairsFrom 138 = .ok (.ireturn, 1) := by decide +kernel
set_option maxRecDepth 20000 in
theorem ggX6_trial_X6_in : GoodIn wsX6_trial wsX6_in := goodIn_r _ [7] (by decide +kernel) (by decide +kernel)
set_option maxRecDepth 20000 in
theorem gX6_trial_X6_in : GoodIn wsX6_trial (va_wsS RX6 64 yX6_in wsX6_in) := goodIn_app (goodIn_of _ (by decide +kernel)) ggX6_trial_X6_in
set_option maxRecDepth 20000 in
theorem ggX6_trial_X6_asItIs : GoodIn wsX6_trial wsX6_asItIs := goodIn_r _ [11, 12, 3, 13, 14, 6, 15, 33, 34, 35, 36, 37, 38, 39, 40, 41, 42, 43, 44, 45, 46, 47, 48, 49, 50, 51, 52, 53] (by decide +kernel) (by decide +kernel)
set_option maxRecDepth 20000 in
theorem gX6_trial_X6_asItIs : GoodIn wsX6_trial (wsV RX6 149 RX6 yX6_asItIs wsX6_asItIs) := goodIn_app (goodIn_of _ (by decide +kernel)) ggX6_trial_X6_asItIs
set_option maxRecDepth 20000 in
theorem ggX6_trial_X6_policeIn : GoodIn wsX6_trial wsX6_policeIn := goodIn_r _ [19, 12, 20, 21, 6, 22, 23, 24, 25, 26, 27, 28, 29, 33, 34, 35, 36, 37, 38, 39, 40, 41, 42, 43, 44, 45, 46, 47, 48, 49, 50, 51, 52, 53] (by decide +kernel) (by decide +kernel)
set_option maxRecDepth 20000 in
theorem gX6_trial_X6_policeIn : GoodIn wsX6_trial (wsV RX6 134 RX6 yX6_policeIn wsX6_policeIn) := goodIn_app (goodIn_of _ (by decide +kernel)) ggX6_trial_X6_policeIn
set_option maxRecDepth 20000 in
theorem ggX6_trial_X6_bits : GoodIn wsX6_trial wsX6_bits := goodIn_r _ [32] (by decide +kernel) (by decide +kernel)
set_option maxRecDepth 20000 in
theorem gX6_trial_X6_bits : GoodIn wsX6_trial (va_wsS RX6 171 yX6_bits wsX6_bits) := goodIn_app (goodIn_of _ (by decide +kernel)) ggX6_trial_X6_bits
theorem dX6_trial_0 : decode cX6_trial 0 = .ok (.iload_n 1, 1) := by decide +kernel
theorem dX6_trial_1 : decode cX6_trial 1 = .ok (.iconst 1, 1) := by decide +kernel
theorem dX6_trial_2 : decode cX6_trial 2 = .ok (.iconst 4, 1) := by decide +kernel
theorem dX6_trial_3 : decode cX6_trial 3 = .ok (.invokestatic 64, 3) := by decide +kernel
theorem dX6_trial_6 : decode cX6_trial 6 = .ok (.ifCond .eq 12, 3) := by decide +kernel
theorem dX6_trial_9 : decode cX6_trial 9 = .ok (.iload_n 2, 1) := by decide +kernel
theorem dX6_trial_10 : decode cX6_trial 10 = .ok (.iconst 0, 1) := by decide +kernel
theorem dX6_trial_11 : decode cX6_trial 11 = .ok (.iconst 1, 1) := by decide +kernel
theorem dX6_trial_12 : decode cX6_trial 12 = .ok (.invokestatic 64, 3) := by decide +kernel
theorem dX6_trial_15 : decode cX6_trial 15 = .ok (.ifCond .ne 5, 3) := by decide +kernel
theorem dX6_trial_18 : decode cX6_trial 18 = .ok (.iconst (-1), 1) := by decide +kernel
theorem dX6_trial_19 : decode cX6_trial 19 = .ok (.ireturn, 1) := by decide +kernel
theorem dX6_trial_20 : decode cX6_trial 20 = .ok (.aload_n 0, 1) := by decide +kernel
theorem dX6_trial_21 : decode cX6_trial 21 = .ok (.invokevirtual 149, 3) := by decide +kernel
theorem dX6_trial_24 : decode cX6_trial 24 = .ok (.iconst 0, 1) := by decide +kernel
theorem dX6_trial_25 : decode cX6_trial 25 = .ok (.istore_n 3, 1) := by decide +kernel
theorem dX6_trial_26 : decode cX6_trial 26 = .ok (.iload_n 3, 1) := by decide +kernel
theorem dX6_trial_27 : decode cX6_trial 27 = .ok (.bipush 64, 2) := by decide +kernel
theorem dX6_trial_29 : decode cX6_trial 29 = .ok (.if_icmp .ge 23, 3) := by decide +kernel
theorem dX6_trial_32 : decode cX6_trial 32 = .ok (.aload_n 0, 1) := by decide +kernel
theorem dX6_trial_33 : decode cX6_trial 33 = .ok (.getfield 40, 3) := by decide +kernel
theorem dX6_trial_36 : decode cX6_trial 36 = .ok (.iload_n 3, 1) := by decide +kernel
theorem dX6_trial_37 : decode cX6_trial 37 = .ok (.aload_n 0, 1) := by decide +kernel
theorem dX6_trial_38 : decode cX6_trial 38 = .ok (.iload_n 3, 1) := by decide +kernel
theorem dX6_trial_39 : decode cX6_trial 39 = .ok (.invokevirtual 134, 3) := by decide +kernel
theorem dX6_trial_42 : decode cX6_trial 42 = .ok (.invokestatic 171, 3) := by decide +kernel
theorem dX6_trial_45 : decode cX6_trial 45 = .ok (.iastore, 1) := by decide +kernel
theorem dX6_trial_46 : decode cX6_trial 46 = .ok (.iinc 3 1, 3) := by decide +kernel
theorem dX6_trial_49 : decode cX6_trial 49 = .ok (.goto (-23), 3) := by decide +kernel
theorem dX6_trial_52 : decode cX6_trial 52 = .ok (.iload_n 1, 1) := by decide +kernel
theorem dX6_trial_53 : decode cX6_trial 53 = .ok (.iconst 1, 1) := by decide +kernel
theorem dX6_trial_54 : decode cX6_trial 54 = .ok (.isub, 1) := by decide +kernel
theorem dX6_trial_55 : decode cX6_trial 55 = .ok (.istore_n 3, 1) := by decide +kernel
theorem dX6_trial_56 : decode cX6_trial 56 = .ok (.iload_n 3, 1) := by decide +kernel
theorem dX6_trial_57 : decode cX6_trial 57 = .ok (.ifCond .le 168, 3) := by decide +kernel
theorem dX6_trial_60 : decode cX6_trial 60 = .ok (.iconst 0, 1) := by decide +kernel
theorem dX6_trial_61 : decode cX6_trial 61 = .ok (.istore 4, 2) := by decide +kernel
theorem dX6_trial_63 : decode cX6_trial 63 = .ok (.iload 4, 2) := by decide +kernel
theorem dX6_trial_65 : decode cX6_trial 65 = .ok (.bipush 64, 2) := by decide +kernel
theorem dX6_trial_67 : decode cX6_trial 67 = .ok (.if_icmp .ge 122, 3) := by decide +kernel
theorem dX6_trial_70 : decode cX6_trial 70 = .ok (.aload_n 0, 1) := by decide +kernel
theorem dX6_trial_71 : decode cX6_trial 71 = .ok (.getfield 43, 3) := by decide +kernel
theorem dX6_trial_74 : decode cX6_trial 74 = .ok (.iload 4, 2) := by decide +kernel
theorem dX6_trial_76 : decode cX6_trial 76 = .ok (.aload_n 0, 1) := by decide +kernel
theorem dX6_trial_77 : decode cX6_trial 77 = .ok (.getfield 40, 3) := by decide +kernel
theorem dX6_trial_80 : decode cX6_trial 80 = .ok (.iload 4, 2) := by decide +kernel
theorem dX6_trial_82 : decode cX6_trial 82 = .ok (.iaload, 1) := by decide +kernel
theorem dX6_trial_83 : decode cX6_trial 83 = .ok (.iastore, 1) := by decide +kernel
theorem dX6_trial_84 : decode cX6_trial 84 = .ok (.iconst 0, 1) := by decide +kernel
theorem dX6_trial_85 : decode cX6_trial 85 = .ok (.istore 5, 2) := by decide +kernel
theorem dX6_trial_87 : decode cX6_trial 87 = .ok (.iload 5, 2) := by decide +kernel
theorem dX6_trial_89 : decode cX6_trial 89 = .ok (.bipush 6, 2) := by decide +kernel
theorem dX6_trial_91 : decode cX6_trial 91 = .ok (.if_icmp .ge 92, 3) := by decide +kernel
theorem dX6_trial_94 : decode cX6_trial 94 = .ok (.aload_n 0, 1) := by decide +kernel
theorem dX6_trial_95 : decode cX6_trial 95 = .ok (.getfield 40, 3) := by decide +kernel
theorem dX6_trial_98 : decode cX6_trial 98 = .ok (.iload 4, 2) := by decide +kernel
theorem dX6_trial_100 : decode cX6_trial 100 = .ok (.iconst 1, 1) := by decide +kernel
theorem dX6_trial_101 : decode cX6_trial 101 = .ok (.iload 5, 2) := by decide +kernel
theorem dX6_trial_103 : decode cX6_trial 103 = .ok (.ishl, 1) := by decide +kernel
theorem dX6_trial_104 : decode cX6_trial 104 = .ok (.ixor, 1) := by decide +kernel
theorem dX6_trial_105 : decode cX6_trial 105 = .ok (.iaload, 1) := by decide +kernel
theorem dX6_trial_106 : decode cX6_trial 106 = .ok (.istore 6, 2) := by decide +kernel
theorem dX6_trial_108 : decode cX6_trial 108 = .ok (.iload_n 3, 1) := by decide +kernel
theorem dX6_trial_109 : decode cX6_trial 109 = .ok (.iconst 2, 1) := by decide +kernel
theorem dX6_trial_110 : decode cX6_trial 110 = .ok (.irem, 1) := by decide +kernel
theorem dX6_trial_111 : decode cX6_trial 111 = .ok (.ifCond .ne 23, 3) := by decide +kernel
theorem dX6_trial_114 : decode cX6_trial 114 = .ok (.iload 6, 2) := by decide +kernel
theorem dX6_trial_116 : decode cX6_trial 116 = .ok (.aload_n 0, 1) := by decide +kernel
theorem dX6_trial_117 : decode cX6_trial 117 = .ok (.getfield 43, 3) := by decide +kernel
theorem dX6_trial_120 : decode cX6_trial 120 = .ok (.iload 4, 2) := by decide +kernel
theorem dX6_trial_122 : decode cX6_trial 122 = .ok (.iaload, 1) := by decide +kernel
theorem dX6_trial_123 : decode cX6_trial 123 = .ok (.if_icmp .le 7, 3) := by decide +kernel
theorem dX6_trial_126 : decode cX6_trial 126 = .ok (.iconst 1, 1) := by decide +kernel
theorem dX6_trial_127 : decode cX6_trial 127 = .ok (.goto 24, 3) := by decide +kernel
theorem dX6_trial_130 : decode cX6_trial 130 = .ok (.iconst 0, 1) := by decide +kernel
theorem dX6_trial_131 : decode cX6_trial 131 = .ok (.goto 20, 3) := by decide +kernel
theorem dX6_trial_134 : decode cX6_trial 134 = .ok (.iload 6, 2) := by decide +kernel
theorem dX6_trial_136 : decode cX6_trial 136 = .ok (.aload_n 0, 1) := by decide +kernel
theorem dX6_trial_137 : decode cX6_trial 137 = .ok (.getfield 43, 3) := by decide +kernel
theorem dX6_trial_140 : decode cX6_trial 140 = .ok (.iload 4, 2) := by decide +kernel
theorem dX6_trial_142 : decode cX6_trial 142 = .ok (.iaload, 1) := by decide +kernel
theorem dX6_trial_143 : decode cX6_trial 143 = .ok (.if_icmp .ge 7, 3) := by decide +kernel
theorem dX6_trial_146 : decode cX6_trial 146 = .ok (.iconst 1, 1) := by decide +kernel
theorem dX6_trial_147 : decode cX6_trial 147 = .ok (.goto 4, 3) := by decide +kernel
theorem dX6_trial_150 : decode cX6_trial 150 = .ok (.iconst 0, 1) := by decide +kernel
theorem dX6_trial_151 : decode cX6_trial 151 = .ok (.istore 7, 2) := by decide +kernel
theorem dX6_trial_153 : decode cX6_trial 153 = .ok (.aload_n 0, 1) := by decide +kernel
theorem dX6_trial_154 : decode cX6_trial 154 = .ok (.getfield 43, 3) := by decide +kernel
theorem dX6_trial_157 : decode cX6_trial 157 = .ok (.iload 4, 2) := by decide +kernel
theorem dX6_trial_159 : decode cX6_trial 159 = .ok (.iload 7, 2) := by decide +kernel
theorem dX6_trial_161 : decode cX6_trial 161 = .ok (.ifCond .eq 8, 3) := by decide +kernel
theorem dX6_trial_164 : decode cX6_trial 164 = .ok (.iload 6, 2) := by decide +kernel
theorem dX6_trial_166 : decode cX6_trial 166 = .ok (.goto 10, 3) := by decide +kernel
theorem dX6_trial_169 : decode cX6_trial 169 = .ok (.aload_n 0, 1) := by decide +kernel
theorem dX6_trial_170 : decode cX6_trial 170 = .ok (.getfield 43, 3) := by decide +kernel
theorem dX6_trial_173 : decode cX6_trial 173 = .ok (.iload 4, 2) := by decide +kernel
theorem dX6_trial_175 : decode cX6_trial 175 = .ok (.iaload, 1) := by decide +kernel
theorem dX6_trial_176 : decode cX6_trial 176 = .ok (.iastore, 1) := by decide +kernel
theorem dX6_trial_177 : decode cX6_trial 177 = .ok (.iinc 5 1, 3) := by decide +kernel
theorem dX6_trial_180 : decode cX6_trial 180 = .ok (.goto (-93), 3) := by decide +kernel
theorem dX6_trial_183 : decode cX6_trial 183 = .ok (.iinc 4 1, 3) := by decide +kernel
theorem dX6_trial_186 : decode cX6_trial 186 = .ok (.goto (-123), 3) := by decide +kernel
theorem dX6_trial_189 : decode cX6_trial 189 = .ok (.iconst 0, 1) := by decide +kernel
theorem dX6_trial_190 : decode cX6_trial 190 = .ok (.istore 4, 2) := by decide +kernel
theorem dX6_trial_192 : decode cX6_trial 192 = .ok (.iload 4, 2) := by decide +kernel
theorem dX6_trial_194 : decode cX6_trial 194 = .ok (.bipush 64, 2) := by decide +kernel
theorem dX6_trial_196 : decode cX6_trial 196 = .ok (.if_icmp .ge 23, 3) := by decide +kernel
theorem dX6_trial_199 : decode cX6_trial 199 = .ok (.aload_n 0, 1) := by decide +kernel
theorem dX6_trial_200 : decode cX6_trial 200 = .ok (.getfield 40, 3) := by decide +kernel
theorem dX6_trial_203 : decode cX6_trial 203 = .ok (.iload 4, 2) := by decide +kernel
theorem dX6_trial_205 : decode cX6_trial 205 = .ok (.aload_n 0, 1) := by decide +kernel
theorem dX6_trial_206 : decode cX6_trial 206 = .ok (.getfield 43, 3) := by decide +kernel
theorem dX6_trial_209 : decode cX6_trial 209 = .ok (.iload 4, 2) := by decide +kernel
theorem dX6_trial_211 : decode cX6_trial 211 = .ok (.iaload, 1) := by decide +kernel
theorem dX6_trial_212 : decode cX6_trial 212 = .ok (.iastore, 1) := by decide +kernel
theorem dX6_trial_213 : decode cX6_trial 213 = .ok (.iinc 4 1, 3) := by decide +kernel
theorem dX6_trial_216 : decode cX6_trial 216 = .ok (.goto (-24), 3) := by decide +kernel
theorem dX6_trial_219 : decode cX6_trial 219 = .ok (.iinc 3 (-1), 3) := by decide +kernel
theorem dX6_trial_222 : decode cX6_trial 222 = .ok (.goto (-166), 3) := by decide +kernel
theorem dX6_trial_225 : decode cX6_trial 225 = .ok (.aload_n 0, 1) := by decide +kernel
theorem dX6_trial_226 : decode cX6_trial 226 = .ok (.getfield 40, 3) := by decide +kernel
theorem dX6_trial_229 : decode cX6_trial 229 = .ok (.aload_n 0, 1) := by decide +kernel
theorem dX6_trial_230 : decode cX6_trial 230 = .ok (.getfield 7, 3) := by decide +kernel
theorem dX6_trial_233 : decode cX6_trial 233 = .ok (.iconst 0, 1) := by decide +kernel
theorem dX6_trial_234 : decode cX6_trial 234 = .ok (.iaload, 1) := by decide +kernel
theorem dX6_trial_235 : decode cX6_trial 235 = .ok (.iaload, 1) := by decide +kernel
theorem dX6_trial_236 : decode cX6_trial 236 = .ok (.istore_n 3, 1) := by decide +kernel
theorem dX6_trial_237 : decode cX6_trial 237 = .ok (.bipush (-4), 2) := by decide +kernel
theorem dX6_trial_239 : decode cX6_trial 239 = .ok (.istore 4, 2) := by decide +kernel
theorem dX6_trial_241 : decode cX6_trial 241 = .ok (.iconst 0, 1) := by decide +kernel
theorem dX6_trial_242 : decode cX6_trial 242 = .ok (.istore 5, 2) := by decide +kernel
theorem dX6_trial_244 : decode cX6_trial 244 = .ok (.iload 5, 2) := by decide +kernel
theorem dX6_trial_246 : decode cX6_trial 246 = .ok (.bipush 6, 2) := by decide +kernel
theorem dX6_trial_248 : decode cX6_trial 248 = .ok (.if_icmp .ge 55, 3) := by decide +kernel
theorem dX6_trial_251 : decode cX6_trial 251 = .ok (.aload_n 0, 1) := by decide +kernel
theorem dX6_trial_252 : decode cX6_trial 252 = .ok (.getfield 40, 3) := by decide +kernel
theorem dX6_trial_255 : decode cX6_trial 255 = .ok (.aload_n 0, 1) := by decide +kernel
theorem dX6_trial_256 : decode cX6_trial 256 = .ok (.getfield 7, 3) := by decide +kernel
theorem dX6_trial_259 : decode cX6_trial 259 = .ok (.iconst 0, 1) := by decide +kernel
theorem dX6_trial_260 : decode cX6_trial 260 = .ok (.iaload, 1) := by decide +kernel
theorem dX6_trial_261 : decode cX6_trial 261 = .ok (.iconst 1, 1) := by decide +kernel
theorem dX6_trial_262 : decode cX6_trial 262 = .ok (.iload 5, 2) := by decide +kernel
theorem dX6_trial_264 : decode cX6_trial 264 = .ok (.ishl, 1) := by decide +kernel
theorem dX6_trial_265 : decode cX6_trial 265 = .ok (.ixor, 1) := by decide +kernel
theorem dX6_trial_266 : decode cX6_trial 266 = .ok (.iaload, 1) := by decide +kernel
theorem dX6_trial_267 : decode cX6_trial 267 = .ok (.istore 6, 2) := by decide +kernel
theorem dX6_trial_269 : decode cX6_trial 269 = .ok (.iload 6, 2) := by decide +kernel
theorem dX6_trial_271 : decode cX6_trial 271 = .ok (.iload_n 3, 1) := by decide +kernel
theorem dX6_trial_272 : decode cX6_trial 272 = .ok (.if_icmp .le 8, 3) := by decide +kernel
theorem dX6_trial_275 : decode cX6_trial 275 = .ok (.iload 5, 2) := by decide +kernel
theorem dX6_trial_277 : decode cX6_trial 277 = .ok (.goto 5, 3) := by decide +kernel
theorem dX6_trial_280 : decode cX6_trial 280 = .ok (.iload 4, 2) := by decide +kernel
theorem dX6_trial_282 : decode cX6_trial 282 = .ok (.istore 4, 2) := by decide +kernel
theorem dX6_trial_284 : decode cX6_trial 284 = .ok (.iload 6, 2) := by decide +kernel
theorem dX6_trial_286 : decode cX6_trial 286 = .ok (.iload_n 3, 1) := by decide +kernel
theorem dX6_trial_287 : decode cX6_trial 287 = .ok (.if_icmp .le 8, 3) := by decide +kernel
theorem dX6_trial_290 : decode cX6_trial 290 = .ok (.iload 6, 2) := by decide +kernel
theorem dX6_trial_292 : decode cX6_trial 292 = .ok (.goto 4, 3) := by decide +kernel
theorem dX6_trial_295 : decode cX6_trial 295 = .ok (.iload_n 3, 1) := by decide +kernel
theorem dX6_trial_296 : decode cX6_trial 296 = .ok (.istore_n 3, 1) := by decide +kernel
theorem dX6_trial_297 : decode cX6_trial 297 = .ok (.iinc 5 1, 3) := by decide +kernel
theorem dX6_trial_300 : decode cX6_trial 300 = .ok (.goto (-56), 3) := by decide +kernel
theorem dX6_trial_303 : decode cX6_trial 303 = .ok (.iload_n 2, 1) := by decide +kernel
theorem dX6_trial_304 : decode cX6_trial 304 = .ok (.ifCond .ne 7, 3) := by decide +kernel
theorem dX6_trial_307 : decode cX6_trial 307 = .ok (.iload_n 3, 1) := by decide +kernel
theorem dX6_trial_308 : decode cX6_trial 308 = .ok (.goto 5, 3) := by decide +kernel
theorem dX6_trial_311 : decode cX6_trial 311 = .ok (.iload 4, 2) := by decide +kernel
theorem dX6_trial_313 : decode cX6_trial 313 = .ok (.ireturn, 1) := by decide +kernel
set_option maxRecDepth 20000 in
theorem ggX6_see_X6_isSaying : GoodIn wsX6_see wsX6_isSaying := goodIn_r _ [7, 8, 9, 10, 6, 11, 12, 13, 14, 15, 16, 17, 18, 19, 20, 21, 22, 23, 24, 25, 26, 27, 28, 29, 30, 31, 32] (by decide +kernel) (by decide +kernel)
set_option maxRecDepth 20000 in
theorem gX6_see_X6_isSaying : GoodIn wsX6_see (wsV RX6 146 RX6 yX6_isSaying wsX6_isSaying) := goodIn_app (goodIn_of _ (by decide +kernel)) ggX6_see_X6_isSaying
theorem dX6_see_0 : decode cX6_see 0 = .ok (.aload_n 0, 1) := by decide +kernel
theorem dX6_see_1 : decode cX6_see 1 = .ok (.iload_n 1, 1) := by decide +kernel
theorem dX6_see_2 : decode cX6_see 2 = .ok (.invokevirtual 146, 3) := by decide +kernel
theorem dX6_see_5 : decode cX6_see 5 = .ok (.ifCond .ne 5, 3) := by decide +kernel
theorem dX6_see_8 : decode cX6_see 8 = .ok (.iconst (-1), 1) := by decide +kernel
theorem dX6_see_9 : decode cX6_see 9 = .ok (.ireturn, 1) := by decide +kernel
theorem dX6_see_10 : decode cX6_see 10 = .ok (.aload_n 0, 1) := by decide +kernel
theorem dX6_see_11 : decode cX6_see 11 = .ok (.getfield 121, 3) := by decide +kernel
theorem dX6_see_14 : decode cX6_see 14 = .ok (.bipush 6, 2) := by decide +kernel
theorem dX6_see_16 : decode cX6_see 16 = .ok (.if_icmp .ne 6, 3) := by decide +kernel
theorem dX6_see_19 : decode cX6_see 19 = .ok (.bipush (-3), 2) := by decide +kernel
theorem dX6_see_21 : decode cX6_see 21 = .ok (.ireturn, 1) := by decide +kernel
theorem dX6_see_22 : decode cX6_see 22 = .ok (.aload_n 0, 1) := by decide +kernel
theorem dX6_see_23 : decode cX6_see 23 = .ok (.getfield 19, 3) := by decide +kernel
theorem dX6_see_26 : decode cX6_see 26 = .ok (.iconst 2, 1) := by decide +kernel
theorem dX6_see_27 : decode cX6_see 27 = .ok (.aload_n 0, 1) := by decide +kernel
theorem dX6_see_28 : decode cX6_see 28 = .ok (.getfield 121, 3) := by decide +kernel
theorem dX6_see_31 : decode cX6_see 31 = .ok (.imul, 1) := by decide +kernel
theorem dX6_see_32 : decode cX6_see 32 = .ok (.iload_n 1, 1) := by decide +kernel
theorem dX6_see_33 : decode cX6_see 33 = .ok (.iastore, 1) := by decide +kernel
theorem dX6_see_34 : decode cX6_see 34 = .ok (.aload_n 0, 1) := by decide +kernel
theorem dX6_see_35 : decode cX6_see 35 = .ok (.getfield 19, 3) := by decide +kernel
theorem dX6_see_38 : decode cX6_see 38 = .ok (.iconst 2, 1) := by decide +kernel
theorem dX6_see_39 : decode cX6_see 39 = .ok (.aload_n 0, 1) := by decide +kernel
theorem dX6_see_40 : decode cX6_see 40 = .ok (.getfield 121, 3) := by decide +kernel
theorem dX6_see_43 : decode cX6_see 43 = .ok (.imul, 1) := by decide +kernel
theorem dX6_see_44 : decode cX6_see 44 = .ok (.iconst 1, 1) := by decide +kernel
theorem dX6_see_45 : decode cX6_see 45 = .ok (.iadd, 1) := by decide +kernel
theorem dX6_see_46 : decode cX6_see 46 = .ok (.iload_n 2, 1) := by decide +kernel
theorem dX6_see_47 : decode cX6_see 47 = .ok (.ifCond .eq 7, 3) := by decide +kernel
theorem dX6_see_50 : decode cX6_see 50 = .ok (.iconst 1, 1) := by decide +kernel
theorem dX6_see_51 : decode cX6_see 51 = .ok (.goto 4, 3) := by decide +kernel
theorem dX6_see_54 : decode cX6_see 54 = .ok (.iconst 0, 1) := by decide +kernel
theorem dX6_see_55 : decode cX6_see 55 = .ok (.iastore, 1) := by decide +kernel
theorem dX6_see_56 : decode cX6_see 56 = .ok (.aload_n 0, 1) := by decide +kernel
theorem dX6_see_57 : decode cX6_see 57 = .ok (.dup, 1) := by decide +kernel
theorem dX6_see_58 : decode cX6_see 58 = .ok (.getfield 121, 3) := by decide +kernel
theorem dX6_see_61 : decode cX6_see 61 = .ok (.iconst 1, 1) := by decide +kernel
theorem dX6_see_62 : decode cX6_see 62 = .ok (.iadd, 1) := by decide +kernel
theorem dX6_see_63 : decode cX6_see 63 = .ok (.putfield 121, 3) := by decide +kernel
theorem dX6_see_66 : decode cX6_see 66 = .ok (.aload_n 0, 1) := by decide +kernel
theorem dX6_see_67 : decode cX6_see 67 = .ok (.getfield 121, 3) := by decide +kernel
theorem dX6_see_70 : decode cX6_see 70 = .ok (.ireturn, 1) := by decide +kernel
theorem dX6_forget_0 : decode cX6_forget 0 = .ok (.aload_n 0, 1) := by decide +kernel
theorem dX6_forget_1 : decode cX6_forget 1 = .ok (.getfield 121, 3) := by decide +kernel
theorem dX6_forget_4 : decode cX6_forget 4 = .ok (.istore_n 1, 1) := by decide +kernel
theorem dX6_forget_5 : decode cX6_forget 5 = .ok (.aload_n 0, 1) := by decide +kernel
theorem dX6_forget_6 : decode cX6_forget 6 = .ok (.iconst 0, 1) := by decide +kernel
theorem dX6_forget_7 : decode cX6_forget 7 = .ok (.putfield 121, 3) := by decide +kernel
theorem dX6_forget_10 : decode cX6_forget 10 = .ok (.iload_n 1, 1) := by decide +kernel
theorem dX6_forget_11 : decode cX6_forget 11 = .ok (.ireturn, 1) := by decide +kernel
set_option maxRecDepth 20000 in
theorem ggX6_isWorld_X6_policeIn : GoodIn wsX6_isWorld wsX6_policeIn := goodIn_r _ [7, 8, 9, 10, 6, 11, 12, 13, 14, 15, 16, 17, 18, 19, 20, 21, 22, 23, 24, 25, 26, 27, 28, 29, 30, 31, 32, 33, 34, 35, 36, 37, 38, 39] (by decide +kernel) (by decide +kernel)
set_option maxRecDepth 20000 in
theorem gX6_isWorld_X6_policeIn : GoodIn wsX6_isWorld (wsV RX6 134 RX6 yX6_policeIn wsX6_policeIn) := goodIn_app (goodIn_of _ (by decide +kernel)) ggX6_isWorld_X6_policeIn
set_option maxRecDepth 20000 in
theorem ggX6_isWorld_X6_has : GoodIn wsX6_isWorld wsX6_has := goodIn_r _ [11] (by decide +kernel) (by decide +kernel)
set_option maxRecDepth 20000 in
theorem gX6_isWorld_X6_has : GoodIn wsX6_isWorld (va_wsS RX6 124 yX6_has wsX6_has) := goodIn_app (goodIn_of _ (by decide +kernel)) ggX6_isWorld_X6_has
theorem dX6_isWorld_0 : decode cX6_isWorld 0 = .ok (.aload_n 0, 1) := by decide +kernel
theorem dX6_isWorld_1 : decode cX6_isWorld 1 = .ok (.iload_n 1, 1) := by decide +kernel
theorem dX6_isWorld_2 : decode cX6_isWorld 2 = .ok (.invokevirtual 134, 3) := by decide +kernel
theorem dX6_isWorld_5 : decode cX6_isWorld 5 = .ok (.istore_n 2, 1) := by decide +kernel
theorem dX6_isWorld_6 : decode cX6_isWorld 6 = .ok (.iconst 1, 1) := by decide +kernel
theorem dX6_isWorld_7 : decode cX6_isWorld 7 = .ok (.istore_n 3, 1) := by decide +kernel
theorem dX6_isWorld_8 : decode cX6_isWorld 8 = .ok (.iconst 0, 1) := by decide +kernel
theorem dX6_isWorld_9 : decode cX6_isWorld 9 = .ok (.istore 4, 2) := by decide +kernel
theorem dX6_isWorld_11 : decode cX6_isWorld 11 = .ok (.iload 4, 2) := by decide +kernel
theorem dX6_isWorld_13 : decode cX6_isWorld 13 = .ok (.aload_n 0, 1) := by decide +kernel
theorem dX6_isWorld_14 : decode cX6_isWorld 14 = .ok (.getfield 121, 3) := by decide +kernel
theorem dX6_isWorld_17 : decode cX6_isWorld 17 = .ok (.if_icmp .ge 55, 3) := by decide +kernel
theorem dX6_isWorld_20 : decode cX6_isWorld 20 = .ok (.iload_n 3, 1) := by decide +kernel
theorem dX6_isWorld_21 : decode cX6_isWorld 21 = .ok (.ifCond .eq 43, 3) := by decide +kernel
theorem dX6_isWorld_24 : decode cX6_isWorld 24 = .ok (.iload_n 2, 1) := by decide +kernel
theorem dX6_isWorld_25 : decode cX6_isWorld 25 = .ok (.aload_n 0, 1) := by decide +kernel
theorem dX6_isWorld_26 : decode cX6_isWorld 26 = .ok (.getfield 19, 3) := by decide +kernel
theorem dX6_isWorld_29 : decode cX6_isWorld 29 = .ok (.iconst 2, 1) := by decide +kernel
theorem dX6_isWorld_30 : decode cX6_isWorld 30 = .ok (.iload 4, 2) := by decide +kernel
theorem dX6_isWorld_32 : decode cX6_isWorld 32 = .ok (.imul, 1) := by decide +kernel
theorem dX6_isWorld_33 : decode cX6_isWorld 33 = .ok (.iaload, 1) := by decide +kernel
theorem dX6_isWorld_34 : decode cX6_isWorld 34 = .ok (.invokestatic 124, 3) := by decide +kernel
theorem dX6_isWorld_37 : decode cX6_isWorld 37 = .ok (.aload_n 0, 1) := by decide +kernel
theorem dX6_isWorld_38 : decode cX6_isWorld 38 = .ok (.getfield 19, 3) := by decide +kernel
theorem dX6_isWorld_41 : decode cX6_isWorld 41 = .ok (.iconst 2, 1) := by decide +kernel
theorem dX6_isWorld_42 : decode cX6_isWorld 42 = .ok (.iload 4, 2) := by decide +kernel
theorem dX6_isWorld_44 : decode cX6_isWorld 44 = .ok (.imul, 1) := by decide +kernel
theorem dX6_isWorld_45 : decode cX6_isWorld 45 = .ok (.iconst 1, 1) := by decide +kernel
theorem dX6_isWorld_46 : decode cX6_isWorld 46 = .ok (.iadd, 1) := by decide +kernel
theorem dX6_isWorld_47 : decode cX6_isWorld 47 = .ok (.iaload, 1) := by decide +kernel
theorem dX6_isWorld_48 : decode cX6_isWorld 48 = .ok (.iconst 1, 1) := by decide +kernel
theorem dX6_isWorld_49 : decode cX6_isWorld 49 = .ok (.if_icmp .ne 7, 3) := by decide +kernel
theorem dX6_isWorld_52 : decode cX6_isWorld 52 = .ok (.iconst 1, 1) := by decide +kernel
theorem dX6_isWorld_53 : decode cX6_isWorld 53 = .ok (.goto 4, 3) := by decide +kernel
theorem dX6_isWorld_56 : decode cX6_isWorld 56 = .ok (.iconst 0, 1) := by decide +kernel
theorem dX6_isWorld_57 : decode cX6_isWorld 57 = .ok (.if_icmp .ne 7, 3) := by decide +kernel
theorem dX6_isWorld_60 : decode cX6_isWorld 60 = .ok (.iconst 1, 1) := by decide +kernel
theorem dX6_isWorld_61 : decode cX6_isWorld 61 = .ok (.goto 4, 3) := by decide +kernel
theorem dX6_isWorld_64 : decode cX6_isWorld 64 = .ok (.iconst 0, 1) := by decide +kernel
theorem dX6_isWorld_65 : decode cX6_isWorld 65 = .ok (.istore_n 3, 1) := by decide +kernel
theorem dX6_isWorld_66 : decode cX6_isWorld 66 = .ok (.iinc 4 1, 3) := by decide +kernel
theorem dX6_isWorld_69 : decode cX6_isWorld 69 = .ok (.goto (-58), 3) := by decide +kernel
theorem dX6_isWorld_72 : decode cX6_isWorld 72 = .ok (.iload_n 3, 1) := by decide +kernel
theorem dX6_isWorld_73 : decode cX6_isWorld 73 = .ok (.ireturn, 1) := by decide +kernel
set_option maxRecDepth 20000 in
theorem ggX6_worlds_X6_in : GoodIn wsX6_worlds wsX6_in := goodIn_r _ [4] (by decide +kernel) (by decide +kernel)
set_option maxRecDepth 20000 in
theorem gX6_worlds_X6_in : GoodIn wsX6_worlds (va_wsS RX6 64 yX6_in wsX6_in) := goodIn_app (goodIn_of _ (by decide +kernel)) ggX6_worlds_X6_in
set_option maxRecDepth 20000 in
theorem ggX6_worlds_X6_asItIs : GoodIn wsX6_worlds wsX6_asItIs := goodIn_r _ [8, 9, 10, 11, 12, 3, 13, 34, 35, 36, 37, 38, 39, 40, 41, 42, 43, 44, 45, 46, 47, 48, 49, 50, 51, 52, 53, 54] (by decide +kernel) (by decide +kernel)
set_option maxRecDepth 20000 in
theorem gX6_worlds_X6_asItIs : GoodIn wsX6_worlds (wsV RX6 149 RX6 yX6_asItIs wsX6_asItIs) := goodIn_app (goodIn_of _ (by decide +kernel)) ggX6_worlds_X6_asItIs
set_option maxRecDepth 20000 in
theorem ggX6_worlds_X6_isWorld : GoodIn wsX6_worlds wsX6_isWorld := goodIn_r _ [17, 18, 19, 20, 21, 22, 3, 23, 9, 24, 25, 26, 27, 28, 29, 30, 31, 32, 33, 34, 35, 36, 37, 38, 39, 40, 41, 42, 43, 44, 45, 46, 47, 48, 49, 50, 51, 52, 53, 54] (by decide +kernel) (by decide +kernel)
set_option maxRecDepth 20000 in
theorem gX6_worlds_X6_isWorld : GoodIn wsX6_worlds (wsV RX6 187 RX6 yX6_isWorld wsX6_isWorld) := goodIn_app (goodIn_of _ (by decide +kernel)) ggX6_worlds_X6_isWorld
theorem dX6_worlds_0 : decode cX6_worlds 0 = .ok (.iload_n 1, 1) := by decide +kernel
theorem dX6_worlds_1 : decode cX6_worlds 1 = .ok (.iconst 0, 1) := by decide +kernel
theorem dX6_worlds_2 : decode cX6_worlds 2 = .ok (.iconst 1, 1) := by decide +kernel
theorem dX6_worlds_3 : decode cX6_worlds 3 = .ok (.invokestatic 64, 3) := by decide +kernel
theorem dX6_worlds_6 : decode cX6_worlds 6 = .ok (.ifCond .ne 5, 3) := by decide +kernel
theorem dX6_worlds_9 : decode cX6_worlds 9 = .ok (.iconst (-1), 1) := by decide +kernel
theorem dX6_worlds_10 : decode cX6_worlds 10 = .ok (.ireturn, 1) := by decide +kernel
theorem dX6_worlds_11 : decode cX6_worlds 11 = .ok (.aload_n 0, 1) := by decide +kernel
theorem dX6_worlds_12 : decode cX6_worlds 12 = .ok (.invokevirtual 149, 3) := by decide +kernel
theorem dX6_worlds_15 : decode cX6_worlds 15 = .ok (.iconst 0, 1) := by decide +kernel
theorem dX6_worlds_16 : decode cX6_worlds 16 = .ok (.istore_n 2, 1) := by decide +kernel
theorem dX6_worlds_17 : decode cX6_worlds 17 = .ok (.bipush (-4), 2) := by decide +kernel
theorem dX6_worlds_19 : decode cX6_worlds 19 = .ok (.istore_n 3, 1) := by decide +kernel
theorem dX6_worlds_20 : decode cX6_worlds 20 = .ok (.bipush 63, 2) := by decide +kernel
theorem dX6_worlds_22 : decode cX6_worlds 22 = .ok (.istore 4, 2) := by decide +kernel
theorem dX6_worlds_24 : decode cX6_worlds 24 = .ok (.iload 4, 2) := by decide +kernel
theorem dX6_worlds_26 : decode cX6_worlds 26 = .ok (.ifCond .lt 42, 3) := by decide +kernel
theorem dX6_worlds_29 : decode cX6_worlds 29 = .ok (.aload_n 0, 1) := by decide +kernel
theorem dX6_worlds_30 : decode cX6_worlds 30 = .ok (.iload 4, 2) := by decide +kernel
theorem dX6_worlds_32 : decode cX6_worlds 32 = .ok (.invokevirtual 187, 3) := by decide +kernel
theorem dX6_worlds_35 : decode cX6_worlds 35 = .ok (.istore 5, 2) := by decide +kernel
theorem dX6_worlds_37 : decode cX6_worlds 37 = .ok (.iload_n 2, 1) := by decide +kernel
theorem dX6_worlds_38 : decode cX6_worlds 38 = .ok (.iload 5, 2) := by decide +kernel
theorem dX6_worlds_40 : decode cX6_worlds 40 = .ok (.ifCond .eq 7, 3) := by decide +kernel
theorem dX6_worlds_43 : decode cX6_worlds 43 = .ok (.iconst 1, 1) := by decide +kernel
theorem dX6_worlds_44 : decode cX6_worlds 44 = .ok (.goto 4, 3) := by decide +kernel
theorem dX6_worlds_47 : decode cX6_worlds 47 = .ok (.iconst 0, 1) := by decide +kernel
theorem dX6_worlds_48 : decode cX6_worlds 48 = .ok (.iadd, 1) := by decide +kernel
theorem dX6_worlds_49 : decode cX6_worlds 49 = .ok (.istore_n 2, 1) := by decide +kernel
theorem dX6_worlds_50 : decode cX6_worlds 50 = .ok (.iload 5, 2) := by decide +kernel
theorem dX6_worlds_52 : decode cX6_worlds 52 = .ok (.ifCond .eq 8, 3) := by decide +kernel
theorem dX6_worlds_55 : decode cX6_worlds 55 = .ok (.iload 4, 2) := by decide +kernel
theorem dX6_worlds_57 : decode cX6_worlds 57 = .ok (.goto 4, 3) := by decide +kernel
theorem dX6_worlds_60 : decode cX6_worlds 60 = .ok (.iload_n 3, 1) := by decide +kernel
theorem dX6_worlds_61 : decode cX6_worlds 61 = .ok (.istore_n 3, 1) := by decide +kernel
theorem dX6_worlds_62 : decode cX6_worlds 62 = .ok (.iinc 4 (-1), 3) := by decide +kernel
theorem dX6_worlds_65 : decode cX6_worlds 65 = .ok (.goto (-41), 3) := by decide +kernel
theorem dX6_worlds_68 : decode cX6_worlds 68 = .ok (.iload_n 1, 1) := by decide +kernel
theorem dX6_worlds_69 : decode cX6_worlds 69 = .ok (.ifCond .ne 7, 3) := by decide +kernel
theorem dX6_worlds_72 : decode cX6_worlds 72 = .ok (.iload_n 2, 1) := by decide +kernel
theorem dX6_worlds_73 : decode cX6_worlds 73 = .ok (.goto 4, 3) := by decide +kernel
theorem dX6_worlds_76 : decode cX6_worlds 76 = .ok (.iload_n 3, 1) := by decide +kernel
theorem dX6_worlds_77 : decode cX6_worlds 77 = .ok (.ireturn, 1) := by decide +kernel
set_option maxRecDepth 20000 in
theorem ggX6_must_X6_isFact : GoodIn wsX6_must wsX6_isFact := goodIn_r _ [4, 5, 6, 3, 7] (by decide +kernel) (by decide +kernel)
set_option maxRecDepth 20000 in
theorem gX6_must_X6_isFact : GoodIn wsX6_must (va_wsS RX6 152 yX6_isFact wsX6_isFact) := goodIn_app (goodIn_of _ (by decide +kernel)) ggX6_must_X6_isFact
set_option maxRecDepth 20000 in
theorem ggX6_must_X6_asItIs : GoodIn wsX6_must wsX6_asItIs := goodIn_r _ [11, 12, 13, 14, 15, 3, 16, 37, 38, 39, 40, 41, 42, 43, 44, 45, 46, 47, 48, 49, 50, 51, 52, 53, 54, 55, 56, 57] (by decide +kernel) (by decide +kernel)
set_option maxRecDepth 20000 in
theorem gX6_must_X6_asItIs : GoodIn wsX6_must (wsV RX6 149 RX6 yX6_asItIs wsX6_asItIs) := goodIn_app (goodIn_of _ (by decide +kernel)) ggX6_must_X6_asItIs
set_option maxRecDepth 20000 in
theorem ggX6_must_X6_isWorld : GoodIn wsX6_must wsX6_isWorld := goodIn_r _ [20, 21, 22, 23, 24, 25, 3, 26, 12, 27, 28, 29, 30, 31, 32, 33, 34, 35, 36, 37, 38, 39, 40, 41, 42, 43, 44, 45, 46, 47, 48, 49, 50, 51, 52, 53, 54, 55, 56, 57] (by decide +kernel) (by decide +kernel)
set_option maxRecDepth 20000 in
theorem gX6_must_X6_isWorld : GoodIn wsX6_must (wsV RX6 187 RX6 yX6_isWorld wsX6_isWorld) := goodIn_app (goodIn_of _ (by decide +kernel)) ggX6_must_X6_isWorld
set_option maxRecDepth 20000 in
theorem ggX6_must_X6_has : GoodIn wsX6_must wsX6_has := goodIn_r _ [29] (by decide +kernel) (by decide +kernel)
set_option maxRecDepth 20000 in
theorem gX6_must_X6_has : GoodIn wsX6_must (va_wsS RX6 124 yX6_has wsX6_has) := goodIn_app (goodIn_of _ (by decide +kernel)) ggX6_must_X6_has
theorem dX6_must_0 : decode cX6_must 0 = .ok (.iload_n 1, 1) := by decide +kernel
theorem dX6_must_1 : decode cX6_must 1 = .ok (.invokestatic 152, 3) := by decide +kernel
theorem dX6_must_4 : decode cX6_must 4 = .ok (.ifCond .ne 5, 3) := by decide +kernel
theorem dX6_must_7 : decode cX6_must 7 = .ok (.iconst (-1), 1) := by decide +kernel
theorem dX6_must_8 : decode cX6_must 8 = .ok (.ireturn, 1) := by decide +kernel
theorem dX6_must_9 : decode cX6_must 9 = .ok (.aload_n 0, 1) := by decide +kernel
theorem dX6_must_10 : decode cX6_must 10 = .ok (.invokevirtual 149, 3) := by decide +kernel
theorem dX6_must_13 : decode cX6_must 13 = .ok (.iconst 0, 1) := by decide +kernel
theorem dX6_must_14 : decode cX6_must 14 = .ok (.istore_n 2, 1) := by decide +kernel
theorem dX6_must_15 : decode cX6_must 15 = .ok (.iconst 0, 1) := by decide +kernel
theorem dX6_must_16 : decode cX6_must 16 = .ok (.istore_n 3, 1) := by decide +kernel
theorem dX6_must_17 : decode cX6_must 17 = .ok (.iconst 0, 1) := by decide +kernel
theorem dX6_must_18 : decode cX6_must 18 = .ok (.istore 4, 2) := by decide +kernel
theorem dX6_must_20 : decode cX6_must 20 = .ok (.iload 4, 2) := by decide +kernel
theorem dX6_must_22 : decode cX6_must 22 = .ok (.bipush 64, 2) := by decide +kernel
theorem dX6_must_24 : decode cX6_must 24 = .ok (.if_icmp .ge 65, 3) := by decide +kernel
theorem dX6_must_27 : decode cX6_must 27 = .ok (.aload_n 0, 1) := by decide +kernel
theorem dX6_must_28 : decode cX6_must 28 = .ok (.iload 4, 2) := by decide +kernel
theorem dX6_must_30 : decode cX6_must 30 = .ok (.invokevirtual 187, 3) := by decide +kernel
theorem dX6_must_33 : decode cX6_must 33 = .ok (.istore 5, 2) := by decide +kernel
theorem dX6_must_35 : decode cX6_must 35 = .ok (.iload_n 2, 1) := by decide +kernel
theorem dX6_must_36 : decode cX6_must 36 = .ok (.ifCond .ne 17, 3) := by decide +kernel
theorem dX6_must_39 : decode cX6_must 39 = .ok (.iload 5, 2) := by decide +kernel
theorem dX6_must_41 : decode cX6_must 41 = .ok (.ifCond .eq 16, 3) := by decide +kernel
theorem dX6_must_44 : decode cX6_must 44 = .ok (.iload 4, 2) := by decide +kernel
theorem dX6_must_46 : decode cX6_must 46 = .ok (.iload_n 1, 1) := by decide +kernel
theorem dX6_must_47 : decode cX6_must 47 = .ok (.invokestatic 124, 3) := by decide +kernel
theorem dX6_must_50 : decode cX6_must 50 = .ok (.ifCond .eq 7, 3) := by decide +kernel
theorem dX6_must_53 : decode cX6_must 53 = .ok (.iconst 1, 1) := by decide +kernel
theorem dX6_must_54 : decode cX6_must 54 = .ok (.goto 4, 3) := by decide +kernel
theorem dX6_must_57 : decode cX6_must 57 = .ok (.iconst 0, 1) := by decide +kernel
theorem dX6_must_58 : decode cX6_must 58 = .ok (.istore_n 2, 1) := by decide +kernel
theorem dX6_must_59 : decode cX6_must 59 = .ok (.iload_n 3, 1) := by decide +kernel
theorem dX6_must_60 : decode cX6_must 60 = .ok (.ifCond .ne 17, 3) := by decide +kernel
theorem dX6_must_63 : decode cX6_must 63 = .ok (.iload 5, 2) := by decide +kernel
theorem dX6_must_65 : decode cX6_must 65 = .ok (.ifCond .eq 16, 3) := by decide +kernel
theorem dX6_must_68 : decode cX6_must 68 = .ok (.iload 4, 2) := by decide +kernel
theorem dX6_must_70 : decode cX6_must 70 = .ok (.iload_n 1, 1) := by decide +kernel
theorem dX6_must_71 : decode cX6_must 71 = .ok (.invokestatic 124, 3) := by decide +kernel
theorem dX6_must_74 : decode cX6_must 74 = .ok (.ifCond .ne 7, 3) := by decide +kernel
theorem dX6_must_77 : decode cX6_must 77 = .ok (.iconst 1, 1) := by decide +kernel
theorem dX6_must_78 : decode cX6_must 78 = .ok (.goto 4, 3) := by decide +kernel
theorem dX6_must_81 : decode cX6_must 81 = .ok (.iconst 0, 1) := by decide +kernel
theorem dX6_must_82 : decode cX6_must 82 = .ok (.istore_n 3, 1) := by decide +kernel
theorem dX6_must_83 : decode cX6_must 83 = .ok (.iinc 4 1, 3) := by decide +kernel
theorem dX6_must_86 : decode cX6_must 86 = .ok (.goto (-66), 3) := by decide +kernel
theorem dX6_must_89 : decode cX6_must 89 = .ok (.iload_n 2, 1) := by decide +kernel
theorem dX6_must_90 : decode cX6_must 90 = .ok (.ifCond .eq 15, 3) := by decide +kernel
theorem dX6_must_93 : decode cX6_must 93 = .ok (.iload_n 3, 1) := by decide +kernel
theorem dX6_must_94 : decode cX6_must 94 = .ok (.ifCond .eq 7, 3) := by decide +kernel
theorem dX6_must_97 : decode cX6_must 97 = .ok (.iconst 2, 1) := by decide +kernel
theorem dX6_must_98 : decode cX6_must 98 = .ok (.goto 17, 3) := by decide +kernel
theorem dX6_must_101 : decode cX6_must 101 = .ok (.iconst 1, 1) := by decide +kernel
theorem dX6_must_102 : decode cX6_must 102 = .ok (.goto 13, 3) := by decide +kernel
theorem dX6_must_105 : decode cX6_must 105 = .ok (.iload_n 3, 1) := by decide +kernel
theorem dX6_must_106 : decode cX6_must 106 = .ok (.ifCond .eq 7, 3) := by decide +kernel
theorem dX6_must_109 : decode cX6_must 109 = .ok (.iconst 0, 1) := by decide +kernel
theorem dX6_must_110 : decode cX6_must 110 = .ok (.goto 5, 3) := by decide +kernel
theorem dX6_must_113 : decode cX6_must 113 = .ok (.bipush (-4), 2) := by decide +kernel
theorem dX6_must_115 : decode cX6_must 115 = .ok (.ireturn, 1) := by decide +kernel
set_option maxRecDepth 20000 in
theorem ggX6_liarsIn_X6_policeIn : GoodIn wsX6_liarsIn wsX6_policeIn := goodIn_r _ [6, 1, 7, 8, 5, 9, 10, 11, 12, 13, 14, 15, 16, 20, 21, 22, 23, 24, 25, 26, 27, 28, 29, 30, 31, 32, 33, 34, 35, 36, 37, 38, 39, 40] (by decide +kernel) (by decide +kernel)
set_option maxRecDepth 20000 in
theorem gX6_liarsIn_X6_policeIn : GoodIn wsX6_liarsIn (wsV RX6 134 RX6 yX6_policeIn wsX6_policeIn) := goodIn_app (goodIn_of _ (by decide +kernel)) ggX6_liarsIn_X6_policeIn
set_option maxRecDepth 20000 in
theorem ggX6_liarsIn_X6_has : GoodIn wsX6_liarsIn wsX6_has := goodIn_r _ [9] (by decide +kernel) (by decide +kernel)
set_option maxRecDepth 20000 in
theorem gX6_liarsIn_X6_has : GoodIn wsX6_liarsIn (va_wsS RX6 124 yX6_has wsX6_has) := goodIn_app (goodIn_of _ (by decide +kernel)) ggX6_liarsIn_X6_has
set_option maxRecDepth 20000 in
theorem ggX6_liarsIn_X6_bits : GoodIn wsX6_liarsIn wsX6_bits := goodIn_r _ [19] (by decide +kernel) (by decide +kernel)
set_option maxRecDepth 20000 in
theorem gX6_liarsIn_X6_bits : GoodIn wsX6_liarsIn (va_wsS RX6 171 yX6_bits wsX6_bits) := goodIn_app (goodIn_of _ (by decide +kernel)) ggX6_liarsIn_X6_bits
theorem dX6_liarsIn_0 : decode cX6_liarsIn 0 = .ok (.aload_n 0, 1) := by decide +kernel
theorem dX6_liarsIn_1 : decode cX6_liarsIn 1 = .ok (.iload_n 1, 1) := by decide +kernel
theorem dX6_liarsIn_2 : decode cX6_liarsIn 2 = .ok (.invokevirtual 134, 3) := by decide +kernel
theorem dX6_liarsIn_5 : decode cX6_liarsIn 5 = .ok (.istore_n 2, 1) := by decide +kernel
theorem dX6_liarsIn_6 : decode cX6_liarsIn 6 = .ok (.iconst 0, 1) := by decide +kernel
theorem dX6_liarsIn_7 : decode cX6_liarsIn 7 = .ok (.istore_n 3, 1) := by decide +kernel
theorem dX6_liarsIn_8 : decode cX6_liarsIn 8 = .ok (.iconst 0, 1) := by decide +kernel
theorem dX6_liarsIn_9 : decode cX6_liarsIn 9 = .ok (.istore 4, 2) := by decide +kernel
theorem dX6_liarsIn_11 : decode cX6_liarsIn 11 = .ok (.iload 4, 2) := by decide +kernel
theorem dX6_liarsIn_13 : decode cX6_liarsIn 13 = .ok (.aload_n 0, 1) := by decide +kernel
theorem dX6_liarsIn_14 : decode cX6_liarsIn 14 = .ok (.getfield 31, 3) := by decide +kernel
theorem dX6_liarsIn_17 : decode cX6_liarsIn 17 = .ok (.iconst 2, 1) := by decide +kernel
theorem dX6_liarsIn_18 : decode cX6_liarsIn 18 = .ok (.iaload, 1) := by decide +kernel
theorem dX6_liarsIn_19 : decode cX6_liarsIn 19 = .ok (.if_icmp .ge 40, 3) := by decide +kernel
theorem dX6_liarsIn_22 : decode cX6_liarsIn 22 = .ok (.iload_n 3, 1) := by decide +kernel
theorem dX6_liarsIn_23 : decode cX6_liarsIn 23 = .ok (.iload_n 2, 1) := by decide +kernel
theorem dX6_liarsIn_24 : decode cX6_liarsIn 24 = .ok (.iload 4, 2) := by decide +kernel
theorem dX6_liarsIn_26 : decode cX6_liarsIn 26 = .ok (.invokestatic 124, 3) := by decide +kernel
theorem dX6_liarsIn_29 : decode cX6_liarsIn 29 = .ok (.ifCond .eq 21, 3) := by decide +kernel
theorem dX6_liarsIn_32 : decode cX6_liarsIn 32 = .ok (.iconst 1, 1) := by decide +kernel
theorem dX6_liarsIn_33 : decode cX6_liarsIn 33 = .ok (.aload_n 0, 1) := by decide +kernel
theorem dX6_liarsIn_34 : decode cX6_liarsIn 34 = .ok (.getfield 31, 3) := by decide +kernel
theorem dX6_liarsIn_37 : decode cX6_liarsIn 37 = .ok (.iconst 4, 1) := by decide +kernel
theorem dX6_liarsIn_38 : decode cX6_liarsIn 38 = .ok (.iconst 4, 1) := by decide +kernel
theorem dX6_liarsIn_39 : decode cX6_liarsIn 39 = .ok (.iload 4, 2) := by decide +kernel
theorem dX6_liarsIn_41 : decode cX6_liarsIn 41 = .ok (.imul, 1) := by decide +kernel
theorem dX6_liarsIn_42 : decode cX6_liarsIn 42 = .ok (.iadd, 1) := by decide +kernel
theorem dX6_liarsIn_43 : decode cX6_liarsIn 43 = .ok (.iconst 3, 1) := by decide +kernel
theorem dX6_liarsIn_44 : decode cX6_liarsIn 44 = .ok (.iadd, 1) := by decide +kernel
theorem dX6_liarsIn_45 : decode cX6_liarsIn 45 = .ok (.iaload, 1) := by decide +kernel
theorem dX6_liarsIn_46 : decode cX6_liarsIn 46 = .ok (.ishl, 1) := by decide +kernel
theorem dX6_liarsIn_47 : decode cX6_liarsIn 47 = .ok (.goto 4, 3) := by decide +kernel
theorem dX6_liarsIn_50 : decode cX6_liarsIn 50 = .ok (.iconst 0, 1) := by decide +kernel
theorem dX6_liarsIn_51 : decode cX6_liarsIn 51 = .ok (.ior, 1) := by decide +kernel
theorem dX6_liarsIn_52 : decode cX6_liarsIn 52 = .ok (.istore_n 3, 1) := by decide +kernel
theorem dX6_liarsIn_53 : decode cX6_liarsIn 53 = .ok (.iinc 4 1, 3) := by decide +kernel
theorem dX6_liarsIn_56 : decode cX6_liarsIn 56 = .ok (.goto (-45), 3) := by decide +kernel
theorem dX6_liarsIn_59 : decode cX6_liarsIn 59 = .ok (.iload_n 3, 1) := by decide +kernel
theorem dX6_liarsIn_60 : decode cX6_liarsIn 60 = .ok (.invokestatic 171, 3) := by decide +kernel
theorem dX6_liarsIn_63 : decode cX6_liarsIn 63 = .ok (.ireturn, 1) := by decide +kernel
set_option maxRecDepth 20000 in
theorem ggX6_liars_X6_in : GoodIn wsX6_liars wsX6_in := goodIn_r _ [4] (by decide +kernel) (by decide +kernel)
set_option maxRecDepth 20000 in
theorem gX6_liars_X6_in : GoodIn wsX6_liars (va_wsS RX6 64 yX6_in wsX6_in) := goodIn_app (goodIn_of _ (by decide +kernel)) ggX6_liars_X6_in
set_option maxRecDepth 20000 in
theorem ggX6_liars_X6_asItIs : GoodIn wsX6_liars wsX6_asItIs := goodIn_r _ [8, 9, 10, 11, 12, 3, 13, 41, 42, 43, 44, 45, 46, 47, 48, 49, 50, 51, 52, 53, 54, 55, 56, 57, 58, 59, 60, 61] (by decide +kernel) (by decide +kernel)
set_option maxRecDepth 20000 in
theorem gX6_liars_X6_asItIs : GoodIn wsX6_liars (wsV RX6 149 RX6 yX6_asItIs wsX6_asItIs) := goodIn_app (goodIn_of _ (by decide +kernel)) ggX6_liars_X6_asItIs
set_option maxRecDepth 20000 in
theorem ggX6_liars_X6_liarsIn : GoodIn wsX6_liars wsX6_liarsIn := goodIn_r _ [17, 9, 18, 19, 20, 3, 21, 22, 23, 24, 25, 26, 27, 28, 29, 30, 31, 32, 33, 34, 41, 42, 43, 44, 45, 46, 47, 48, 49, 50, 51, 52, 53, 54, 55, 56, 57, 58, 59, 60, 61] (by decide +kernel) (by decide +kernel)
set_option maxRecDepth 20000 in
theorem gX6_liars_X6_liarsIn : GoodIn wsX6_liars (wsV RX6 190 RX6 yX6_liarsIn wsX6_liarsIn) := goodIn_app (goodIn_of _ (by decide +kernel)) ggX6_liars_X6_liarsIn
set_option maxRecDepth 20000 in
theorem ggX6_liars_X6_isWorld : GoodIn wsX6_liars wsX6_isWorld := goodIn_r _ [38, 39, 40, 18, 19, 20, 3, 21, 9, 22, 23, 24, 25, 26, 27, 28, 29, 30, 31, 41, 42, 43, 44, 45, 46, 47, 48, 49, 50, 51, 52, 53, 54, 55, 56, 57, 58, 59, 60, 61] (by decide +kernel) (by decide +kernel)
set_option maxRecDepth 20000 in
theorem gX6_liars_X6_isWorld : GoodIn wsX6_liars (wsV RX6 187 RX6 yX6_isWorld wsX6_isWorld) := goodIn_app (goodIn_of _ (by decide +kernel)) ggX6_liars_X6_isWorld
theorem dX6_liars_0 : decode cX6_liars 0 = .ok (.iload_n 1, 1) := by decide +kernel
theorem dX6_liars_1 : decode cX6_liars 1 = .ok (.iconst 0, 1) := by decide +kernel
theorem dX6_liars_2 : decode cX6_liars 2 = .ok (.iconst 1, 1) := by decide +kernel
theorem dX6_liars_3 : decode cX6_liars 3 = .ok (.invokestatic 64, 3) := by decide +kernel
theorem dX6_liars_6 : decode cX6_liars 6 = .ok (.ifCond .ne 5, 3) := by decide +kernel
theorem dX6_liars_9 : decode cX6_liars 9 = .ok (.iconst (-1), 1) := by decide +kernel
theorem dX6_liars_10 : decode cX6_liars 10 = .ok (.ireturn, 1) := by decide +kernel
theorem dX6_liars_11 : decode cX6_liars 11 = .ok (.aload_n 0, 1) := by decide +kernel
theorem dX6_liars_12 : decode cX6_liars 12 = .ok (.invokevirtual 149, 3) := by decide +kernel
theorem dX6_liars_15 : decode cX6_liars 15 = .ok (.bipush (-4), 2) := by decide +kernel
theorem dX6_liars_17 : decode cX6_liars 17 = .ok (.istore_n 2, 1) := by decide +kernel
theorem dX6_liars_18 : decode cX6_liars 18 = .ok (.bipush (-4), 2) := by decide +kernel
theorem dX6_liars_20 : decode cX6_liars 20 = .ok (.istore_n 3, 1) := by decide +kernel
theorem dX6_liars_21 : decode cX6_liars 21 = .ok (.iconst 0, 1) := by decide +kernel
theorem dX6_liars_22 : decode cX6_liars 22 = .ok (.istore 4, 2) := by decide +kernel
theorem dX6_liars_24 : decode cX6_liars 24 = .ok (.iload 4, 2) := by decide +kernel
theorem dX6_liars_26 : decode cX6_liars 26 = .ok (.bipush 64, 2) := by decide +kernel
theorem dX6_liars_28 : decode cX6_liars 28 = .ok (.if_icmp .ge 67, 3) := by decide +kernel
theorem dX6_liars_31 : decode cX6_liars 31 = .ok (.aload_n 0, 1) := by decide +kernel
theorem dX6_liars_32 : decode cX6_liars 32 = .ok (.iload 4, 2) := by decide +kernel
theorem dX6_liars_34 : decode cX6_liars 34 = .ok (.invokevirtual 190, 3) := by decide +kernel
theorem dX6_liars_37 : decode cX6_liars 37 = .ok (.istore 5, 2) := by decide +kernel
theorem dX6_liars_39 : decode cX6_liars 39 = .ok (.aload_n 0, 1) := by decide +kernel
theorem dX6_liars_40 : decode cX6_liars 40 = .ok (.iload 4, 2) := by decide +kernel
theorem dX6_liars_42 : decode cX6_liars 42 = .ok (.invokevirtual 187, 3) := by decide +kernel
theorem dX6_liars_45 : decode cX6_liars 45 = .ok (.ifCond .eq 17, 3) := by decide +kernel
theorem dX6_liars_48 : decode cX6_liars 48 = .ok (.iload_n 2, 1) := by decide +kernel
theorem dX6_liars_49 : decode cX6_liars 49 = .ok (.ifCond .lt 9, 3) := by decide +kernel
theorem dX6_liars_52 : decode cX6_liars 52 = .ok (.iload 5, 2) := by decide +kernel
theorem dX6_liars_54 : decode cX6_liars 54 = .ok (.iload_n 2, 1) := by decide +kernel
theorem dX6_liars_55 : decode cX6_liars 55 = .ok (.if_icmp .ge 7, 3) := by decide +kernel
theorem dX6_liars_58 : decode cX6_liars 58 = .ok (.iconst 1, 1) := by decide +kernel
theorem dX6_liars_59 : decode cX6_liars 59 = .ok (.goto 4, 3) := by decide +kernel
theorem dX6_liars_62 : decode cX6_liars 62 = .ok (.iconst 0, 1) := by decide +kernel
theorem dX6_liars_63 : decode cX6_liars 63 = .ok (.istore 6, 2) := by decide +kernel
theorem dX6_liars_65 : decode cX6_liars 65 = .ok (.iload 6, 2) := by decide +kernel
theorem dX6_liars_67 : decode cX6_liars 67 = .ok (.ifCond .eq 8, 3) := by decide +kernel
theorem dX6_liars_70 : decode cX6_liars 70 = .ok (.iload 4, 2) := by decide +kernel
theorem dX6_liars_72 : decode cX6_liars 72 = .ok (.goto 4, 3) := by decide +kernel
theorem dX6_liars_75 : decode cX6_liars 75 = .ok (.iload_n 3, 1) := by decide +kernel
theorem dX6_liars_76 : decode cX6_liars 76 = .ok (.istore_n 3, 1) := by decide +kernel
theorem dX6_liars_77 : decode cX6_liars 77 = .ok (.iload 6, 2) := by decide +kernel
theorem dX6_liars_79 : decode cX6_liars 79 = .ok (.ifCond .eq 8, 3) := by decide +kernel
theorem dX6_liars_82 : decode cX6_liars 82 = .ok (.iload 5, 2) := by decide +kernel
theorem dX6_liars_84 : decode cX6_liars 84 = .ok (.goto 4, 3) := by decide +kernel
theorem dX6_liars_87 : decode cX6_liars 87 = .ok (.iload_n 2, 1) := by decide +kernel
theorem dX6_liars_88 : decode cX6_liars 88 = .ok (.istore_n 2, 1) := by decide +kernel
theorem dX6_liars_89 : decode cX6_liars 89 = .ok (.iinc 4 1, 3) := by decide +kernel
theorem dX6_liars_92 : decode cX6_liars 92 = .ok (.goto (-68), 3) := by decide +kernel
theorem dX6_liars_95 : decode cX6_liars 95 = .ok (.iload_n 1, 1) := by decide +kernel
theorem dX6_liars_96 : decode cX6_liars 96 = .ok (.ifCond .ne 7, 3) := by decide +kernel
theorem dX6_liars_99 : decode cX6_liars 99 = .ok (.iload_n 2, 1) := by decide +kernel
theorem dX6_liars_100 : decode cX6_liars 100 = .ok (.goto 4, 3) := by decide +kernel
theorem dX6_liars_103 : decode cX6_liars 103 = .ok (.iload_n 3, 1) := by decide +kernel
theorem dX6_liars_104 : decode cX6_liars 104 = .ok (.ireturn, 1) := by decide +kernel
set_option maxRecDepth 20000 in
theorem ggX6_chance_X6_in : GoodIn wsX6_chance wsX6_in := goodIn_r _ [6] (by decide +kernel) (by decide +kernel)
set_option maxRecDepth 20000 in
theorem gX6_chance_X6_in : GoodIn wsX6_chance (va_wsS RX6 64 yX6_in wsX6_in) := goodIn_app (goodIn_of _ (by decide +kernel)) ggX6_chance_X6_in
set_option maxRecDepth 20000 in
theorem ggX6_chance_X6_asItIs : GoodIn wsX6_chance wsX6_asItIs := goodIn_r _ [10, 11, 1, 12, 13, 5, 14, 32, 33, 34, 35, 36, 37, 38, 39, 40, 41, 42, 43, 44, 45, 46, 47, 48, 49, 50, 51, 52] (by decide +kernel) (by decide +kernel)
set_option maxRecDepth 20000 in
theorem gX6_chance_X6_asItIs : GoodIn wsX6_chance (wsV RX6 149 RX6 yX6_asItIs wsX6_asItIs) := goodIn_app (goodIn_of _ (by decide +kernel)) ggX6_chance_X6_asItIs
set_option maxRecDepth 20000 in
theorem ggX6_chance_X6_policeIn : GoodIn wsX6_chance wsX6_policeIn := goodIn_r _ [18, 11, 19, 20, 5, 21, 22, 23, 24, 25, 26, 27, 28, 32, 33, 34, 35, 36, 37, 38, 39, 40, 41, 42, 43, 44, 45, 46, 47, 48, 49, 50, 51, 52] (by decide +kernel) (by decide +kernel)
set_option maxRecDepth 20000 in
theorem gX6_chance_X6_policeIn : GoodIn wsX6_chance (wsV RX6 134 RX6 yX6_policeIn wsX6_policeIn) := goodIn_app (goodIn_of _ (by decide +kernel)) ggX6_chance_X6_policeIn
set_option maxRecDepth 20000 in
theorem ggX6_chance_X6_bits : GoodIn wsX6_chance wsX6_bits := goodIn_r _ [31] (by decide +kernel) (by decide +kernel)
set_option maxRecDepth 20000 in
theorem gX6_chance_X6_bits : GoodIn wsX6_chance (va_wsS RX6 171 yX6_bits wsX6_bits) := goodIn_app (goodIn_of _ (by decide +kernel)) ggX6_chance_X6_bits
set_option maxRecDepth 20000 in
theorem ggX6_chance_X6_has : GoodIn wsX6_chance wsX6_has := goodIn_r _ [21] (by decide +kernel) (by decide +kernel)
set_option maxRecDepth 20000 in
theorem gX6_chance_X6_has : GoodIn wsX6_chance (va_wsS RX6 124 yX6_has wsX6_has) := goodIn_app (goodIn_of _ (by decide +kernel)) ggX6_chance_X6_has
theorem dX6_chance_0 : decode cX6_chance 0 = .ok (.iload_n 1, 1) := by decide +kernel
theorem dX6_chance_1 : decode cX6_chance 1 = .ok (.iconst 0, 1) := by decide +kernel
theorem dX6_chance_2 : decode cX6_chance 2 = .ok (.bipush 9, 2) := by decide +kernel
theorem dX6_chance_4 : decode cX6_chance 4 = .ok (.invokestatic 64, 3) := by decide +kernel
theorem dX6_chance_7 : decode cX6_chance 7 = .ok (.ifCond .eq 22, 3) := by decide +kernel
theorem dX6_chance_10 : decode cX6_chance 10 = .ok (.iload_n 2, 1) := by decide +kernel
theorem dX6_chance_11 : decode cX6_chance 11 = .ok (.iconst 0, 1) := by decide +kernel
theorem dX6_chance_12 : decode cX6_chance 12 = .ok (.bipush 10, 2) := by decide +kernel
theorem dX6_chance_14 : decode cX6_chance 14 = .ok (.invokestatic 64, 3) := by decide +kernel
theorem dX6_chance_17 : decode cX6_chance 17 = .ok (.ifCond .eq 12, 3) := by decide +kernel
theorem dX6_chance_20 : decode cX6_chance 20 = .ok (.iload_n 3, 1) := by decide +kernel
theorem dX6_chance_21 : decode cX6_chance 21 = .ok (.iconst 0, 1) := by decide +kernel
theorem dX6_chance_22 : decode cX6_chance 22 = .ok (.iconst 1, 1) := by decide +kernel
theorem dX6_chance_23 : decode cX6_chance 23 = .ok (.invokestatic 64, 3) := by decide +kernel
theorem dX6_chance_26 : decode cX6_chance 26 = .ok (.ifCond .ne 5, 3) := by decide +kernel
theorem dX6_chance_29 : decode cX6_chance 29 = .ok (.iconst (-1), 1) := by decide +kernel
theorem dX6_chance_30 : decode cX6_chance 30 = .ok (.ireturn, 1) := by decide +kernel
theorem dX6_chance_31 : decode cX6_chance 31 = .ok (.aload_n 0, 1) := by decide +kernel
theorem dX6_chance_32 : decode cX6_chance 32 = .ok (.invokevirtual 149, 3) := by decide +kernel
theorem dX6_chance_35 : decode cX6_chance 35 = .ok (.iconst 0, 1) := by decide +kernel
theorem dX6_chance_36 : decode cX6_chance 36 = .ok (.istore 4, 2) := by decide +kernel
theorem dX6_chance_38 : decode cX6_chance 38 = .ok (.iconst 0, 1) := by decide +kernel
theorem dX6_chance_39 : decode cX6_chance 39 = .ok (.istore 5, 2) := by decide +kernel
theorem dX6_chance_41 : decode cX6_chance 41 = .ok (.iload 5, 2) := by decide +kernel
theorem dX6_chance_43 : decode cX6_chance 43 = .ok (.bipush 64, 2) := by decide +kernel
theorem dX6_chance_45 : decode cX6_chance 45 = .ok (.if_icmp .ge 78, 3) := by decide +kernel
theorem dX6_chance_48 : decode cX6_chance 48 = .ok (.aload_n 0, 1) := by decide +kernel
theorem dX6_chance_49 : decode cX6_chance 49 = .ok (.aload_n 0, 1) := by decide +kernel
theorem dX6_chance_50 : decode cX6_chance 50 = .ok (.getfield 7, 3) := by decide +kernel
theorem dX6_chance_53 : decode cX6_chance 53 = .ok (.iconst 0, 1) := by decide +kernel
theorem dX6_chance_54 : decode cX6_chance 54 = .ok (.iaload, 1) := by decide +kernel
theorem dX6_chance_55 : decode cX6_chance 55 = .ok (.iload 5, 2) := by decide +kernel
theorem dX6_chance_57 : decode cX6_chance 57 = .ok (.ixor, 1) := by decide +kernel
theorem dX6_chance_58 : decode cX6_chance 58 = .ok (.invokevirtual 134, 3) := by decide +kernel
theorem dX6_chance_61 : decode cX6_chance 61 = .ok (.invokestatic 171, 3) := by decide +kernel
theorem dX6_chance_64 : decode cX6_chance 64 = .ok (.iload_n 1, 1) := by decide +kernel
theorem dX6_chance_65 : decode cX6_chance 65 = .ok (.if_icmp .lt 52, 3) := by decide +kernel
theorem dX6_chance_68 : decode cX6_chance 68 = .ok (.iconst 1, 1) := by decide +kernel
theorem dX6_chance_69 : decode cX6_chance 69 = .ok (.istore 6, 2) := by decide +kernel
theorem dX6_chance_71 : decode cX6_chance 71 = .ok (.iconst 0, 1) := by decide +kernel
theorem dX6_chance_72 : decode cX6_chance 72 = .ok (.istore 7, 2) := by decide +kernel
theorem dX6_chance_74 : decode cX6_chance 74 = .ok (.iload 7, 2) := by decide +kernel
theorem dX6_chance_76 : decode cX6_chance 76 = .ok (.bipush 6, 2) := by decide +kernel
theorem dX6_chance_78 : decode cX6_chance 78 = .ok (.if_icmp .ge 32, 3) := by decide +kernel
theorem dX6_chance_81 : decode cX6_chance 81 = .ok (.iload 6, 2) := by decide +kernel
theorem dX6_chance_83 : decode cX6_chance 83 = .ok (.iload 5, 2) := by decide +kernel
theorem dX6_chance_85 : decode cX6_chance 85 = .ok (.iload 7, 2) := by decide +kernel
theorem dX6_chance_87 : decode cX6_chance 87 = .ok (.invokestatic 124, 3) := by decide +kernel
theorem dX6_chance_90 : decode cX6_chance 90 = .ok (.ifCond .eq 7, 3) := by decide +kernel
theorem dX6_chance_93 : decode cX6_chance 93 = .ok (.iload_n 2, 1) := by decide +kernel
theorem dX6_chance_94 : decode cX6_chance 94 = .ok (.goto 7, 3) := by decide +kernel
theorem dX6_chance_97 : decode cX6_chance 97 = .ok (.bipush 10, 2) := by decide +kernel
theorem dX6_chance_99 : decode cX6_chance 99 = .ok (.iload_n 2, 1) := by decide +kernel
theorem dX6_chance_100 : decode cX6_chance 100 = .ok (.isub, 1) := by decide +kernel
theorem dX6_chance_101 : decode cX6_chance 101 = .ok (.imul, 1) := by decide +kernel
theorem dX6_chance_102 : decode cX6_chance 102 = .ok (.istore 6, 2) := by decide +kernel
theorem dX6_chance_104 : decode cX6_chance 104 = .ok (.iinc 7 1, 3) := by decide +kernel
theorem dX6_chance_107 : decode cX6_chance 107 = .ok (.goto (-33), 3) := by decide +kernel
theorem dX6_chance_110 : decode cX6_chance 110 = .ok (.iload 4, 2) := by decide +kernel
theorem dX6_chance_112 : decode cX6_chance 112 = .ok (.iload 6, 2) := by decide +kernel
theorem dX6_chance_114 : decode cX6_chance 114 = .ok (.iadd, 1) := by decide +kernel
theorem dX6_chance_115 : decode cX6_chance 115 = .ok (.istore 4, 2) := by decide +kernel
theorem dX6_chance_117 : decode cX6_chance 117 = .ok (.iinc 5 1, 3) := by decide +kernel
theorem dX6_chance_120 : decode cX6_chance 120 = .ok (.goto (-79), 3) := by decide +kernel
theorem dX6_chance_123 : decode cX6_chance 123 = .ok (.iload 4, 2) := by decide +kernel
theorem dX6_chance_125 : decode cX6_chance 125 = .ok (.istore 5, 2) := by decide +kernel
theorem dX6_chance_127 : decode cX6_chance 127 = .ok (.ldc 193, 2) := by decide +kernel
theorem dX6_chance_129 : decode cX6_chance 129 = .ok (.istore 6, 2) := by decide +kernel
theorem dX6_chance_131 : decode cX6_chance 131 = .ok (.iload 6, 2) := by decide +kernel
theorem dX6_chance_133 : decode cX6_chance 133 = .ok (.ifCond .le 21, 3) := by decide +kernel
theorem dX6_chance_136 : decode cX6_chance 136 = .ok (.iload 5, 2) := by decide +kernel
theorem dX6_chance_138 : decode cX6_chance 138 = .ok (.iload 6, 2) := by decide +kernel
theorem dX6_chance_140 : decode cX6_chance 140 = .ok (.irem, 1) := by decide +kernel
theorem dX6_chance_141 : decode cX6_chance 141 = .ok (.istore 7, 2) := by decide +kernel
theorem dX6_chance_143 : decode cX6_chance 143 = .ok (.iload 6, 2) := by decide +kernel
theorem dX6_chance_145 : decode cX6_chance 145 = .ok (.istore 5, 2) := by decide +kernel
theorem dX6_chance_147 : decode cX6_chance 147 = .ok (.iload 7, 2) := by decide +kernel
theorem dX6_chance_149 : decode cX6_chance 149 = .ok (.istore 6, 2) := by decide +kernel
theorem dX6_chance_151 : decode cX6_chance 151 = .ok (.goto (-20), 3) := by decide +kernel
theorem dX6_chance_154 : decode cX6_chance 154 = .ok (.iload_n 3, 1) := by decide +kernel
theorem dX6_chance_155 : decode cX6_chance 155 = .ok (.ifCond .ne 8, 3) := by decide +kernel
theorem dX6_chance_158 : decode cX6_chance 158 = .ok (.iload 4, 2) := by decide +kernel
theorem dX6_chance_160 : decode cX6_chance 160 = .ok (.goto 5, 3) := by decide +kernel
theorem dX6_chance_163 : decode cX6_chance 163 = .ok (.ldc 193, 2) := by decide +kernel
theorem dX6_chance_165 : decode cX6_chance 165 = .ok (.iload 5, 2) := by decide +kernel
theorem dX6_chance_167 : decode cX6_chance 167 = .ok (.idiv, 1) := by decide +kernel
theorem dX6_chance_168 : decode cX6_chance 168 = .ok (.ireturn, 1) := by decide +kernel
set_option maxRecDepth 20000 in
theorem ggX6_year_X6_in : GoodIn wsX6_year wsX6_in := goodIn_r _ [9] (by decide +kernel) (by decide +kernel)
set_option maxRecDepth 20000 in
theorem gX6_year_X6_in : GoodIn wsX6_year (va_wsS RX6 64 yX6_in wsX6_in) := goodIn_app (goodIn_of _ (by decide +kernel)) ggX6_year_X6_in
set_option maxRecDepth 20000 in
theorem ggX6_year_X6_asItIs : GoodIn wsX6_year wsX6_asItIs := goodIn_r _ [13, 5, 14, 15, 16, 8, 17, 61, 62, 63, 64, 65, 66, 67, 68, 69, 70, 71, 72, 73, 74, 75, 76, 77, 78, 79, 80, 81] (by decide +kernel) (by decide +kernel)
set_option maxRecDepth 20000 in
theorem gX6_year_X6_asItIs : GoodIn wsX6_year (wsV RX6 149 RX6 yX6_asItIs wsX6_asItIs) := goodIn_app (goodIn_of _ (by decide +kernel)) ggX6_year_X6_asItIs
set_option maxRecDepth 20000 in
theorem ggX6_year_X6_appoints : GoodIn wsX6_year wsX6_appoints := goodIn_r _ [21, 5, 22, 23, 24, 8, 25, 26, 27, 28, 29, 30, 31, 32, 33, 34, 35, 61, 62, 63, 64, 65, 66, 67, 68, 69, 70, 71, 72, 73, 74, 75, 76, 77, 78, 79, 80, 81] (by decide +kernel) (by decide +kernel)
set_option maxRecDepth 20000 in
theorem gX6_year_X6_appoints : GoodIn wsX6_year (wsV RX6 112 RX6 yX6_appoints wsX6_appoints) := goodIn_app (goodIn_of _ (by decide +kernel)) ggX6_year_X6_appoints
set_option maxRecDepth 20000 in
theorem ggX6_year_X6_canBeWithdrawn : GoodIn wsX6_year wsX6_canBeWithdrawn := goodIn_r _ [39, 5, 40, 26, 27, 8, 28, 61, 62, 63, 64, 65, 66, 67, 68, 69, 70, 71, 72, 73, 74, 75, 76, 77, 78, 79, 80, 81] (by decide +kernel) (by decide +kernel)
set_option maxRecDepth 20000 in
theorem gX6_year_X6_canBeWithdrawn : GoodIn wsX6_year (wsV RX6 161 RX6 yX6_canBeWithdrawn wsX6_canBeWithdrawn) := goodIn_app (goodIn_of _ (by decide +kernel)) ggX6_year_X6_canBeWithdrawn
set_option maxRecDepth 20000 in
theorem ggX6_year_X6_withdraws : GoodIn wsX6_year wsX6_withdraws := goodIn_r _ [44, 5, 61, 62, 63, 64, 65, 66, 67, 68, 69, 70, 71, 72, 73, 74, 75, 76, 77, 78, 79, 80, 81] (by decide +kernel) (by decide +kernel)
set_option maxRecDepth 20000 in
theorem gX6_year_X6_withdraws : GoodIn wsX6_year (wsV RX6 164 RX6 yX6_withdraws wsX6_withdraws) := goodIn_app (goodIn_of _ (by decide +kernel)) ggX6_year_X6_withdraws
set_option maxRecDepth 20000 in
theorem ggX6_year_X6_goes : GoodIn wsX6_year wsX6_goes := goodIn_r _ [48, 49, 5, 40, 1, 50, 51, 52, 8, 53, 29, 30, 31, 32, 33, 34, 35, 26, 27, 28, 61, 62, 63, 64, 65, 66, 67, 68, 69, 70, 71, 72, 73, 74, 75, 76, 77, 78, 79, 80, 81] (by decide +kernel) (by decide +kernel)
set_option maxRecDepth 20000 in
theorem gX6_year_X6_goes : GoodIn wsX6_year (wsV RX6 158 RX6 yX6_goes wsX6_goes) := goodIn_app (goodIn_of _ (by decide +kernel)) ggX6_year_X6_goes
set_option maxRecDepth 20000 in
theorem ggX6_year_X6_police : GoodIn wsX6_year wsX6_police := goodIn_r _ [57, 5, 61, 62, 63, 64, 65, 66, 67, 68, 69, 70, 71, 72, 73, 74, 75, 76, 77, 78, 79, 80, 81] (by decide +kernel) (by decide +kernel)
set_option maxRecDepth 20000 in
theorem gX6_year_X6_police : GoodIn wsX6_year (wsV RX6 168 RX6 yX6_police wsX6_police) := goodIn_app (goodIn_of _ (by decide +kernel)) ggX6_year_X6_police
set_option maxRecDepth 20000 in
theorem ggX6_year_X6_bits : GoodIn wsX6_year wsX6_bits := goodIn_r _ [60] (by decide +kernel) (by decide +kernel)
set_option maxRecDepth 20000 in
theorem gX6_year_X6_bits : GoodIn wsX6_year (va_wsS RX6 171 yX6_bits wsX6_bits) := goodIn_app (goodIn_of _ (by decide +kernel)) ggX6_year_X6_bits
theorem dX6_year_0 : decode cX6_year 0 = .ok (.iload_n 1, 1) := by decide +kernel
theorem dX6_year_1 : decode cX6_year 1 = .ok (.iconst 0, 1) := by decide +kernel
theorem dX6_year_2 : decode cX6_year 2 = .ok (.sipush 9999, 3) := by decide +kernel
theorem dX6_year_5 : decode cX6_year 5 = .ok (.invokestatic 64, 3) := by decide +kernel
theorem dX6_year_8 : decode cX6_year 8 = .ok (.ifCond .eq 22, 3) := by decide +kernel
theorem dX6_year_11 : decode cX6_year 11 = .ok (.iload_n 2, 1) := by decide +kernel
theorem dX6_year_12 : decode cX6_year 12 = .ok (.iconst 1, 1) := by decide +kernel
theorem dX6_year_13 : decode cX6_year 13 = .ok (.bipush 60, 2) := by decide +kernel
theorem dX6_year_15 : decode cX6_year 15 = .ok (.invokestatic 64, 3) := by decide +kernel
theorem dX6_year_18 : decode cX6_year 18 = .ok (.ifCond .eq 12, 3) := by decide +kernel
theorem dX6_year_21 : decode cX6_year 21 = .ok (.iload_n 3, 1) := by decide +kernel
theorem dX6_year_22 : decode cX6_year 22 = .ok (.iconst 0, 1) := by decide +kernel
theorem dX6_year_23 : decode cX6_year 23 = .ok (.iconst 1, 1) := by decide +kernel
theorem dX6_year_24 : decode cX6_year 24 = .ok (.invokestatic 64, 3) := by decide +kernel
theorem dX6_year_27 : decode cX6_year 27 = .ok (.ifCond .ne 5, 3) := by decide +kernel
theorem dX6_year_30 : decode cX6_year 30 = .ok (.iconst (-1), 1) := by decide +kernel
theorem dX6_year_31 : decode cX6_year 31 = .ok (.ireturn, 1) := by decide +kernel
theorem dX6_year_32 : decode cX6_year 32 = .ok (.aload_n 0, 1) := by decide +kernel
theorem dX6_year_33 : decode cX6_year 33 = .ok (.invokevirtual 149, 3) := by decide +kernel
theorem dX6_year_36 : decode cX6_year 36 = .ok (.aload_n 0, 1) := by decide +kernel
theorem dX6_year_37 : decode cX6_year 37 = .ok (.iconst 0, 1) := by decide +kernel
theorem dX6_year_38 : decode cX6_year 38 = .ok (.putfield 143, 3) := by decide +kernel
theorem dX6_year_41 : decode cX6_year 41 = .ok (.iconst 0, 1) := by decide +kernel
theorem dX6_year_42 : decode cX6_year 42 = .ok (.istore 4, 2) := by decide +kernel
theorem dX6_year_44 : decode cX6_year 44 = .ok (.iload 4, 2) := by decide +kernel
theorem dX6_year_46 : decode cX6_year 46 = .ok (.iload_n 2, 1) := by decide +kernel
theorem dX6_year_47 : decode cX6_year 47 = .ok (.if_icmp .ge 113, 3) := by decide +kernel
theorem dX6_year_50 : decode cX6_year 50 = .ok (.ldc2_w 194, 3) := by decide +kernel
theorem dX6_year_53 : decode cX6_year 53 = .ok (.iload_n 1, 1) := by decide +kernel
theorem dX6_year_54 : decode cX6_year 54 = .ok (.i2l, 1) := by decide +kernel
theorem dX6_year_55 : decode cX6_year 55 = .ok (.lmul, 1) := by decide +kernel
theorem dX6_year_56 : decode cX6_year 56 = .ok (.ldc2_w 196, 3) := by decide +kernel
theorem dX6_year_59 : decode cX6_year 59 = .ok (.iload 4, 2) := by decide +kernel
theorem dX6_year_61 : decode cX6_year 61 = .ok (.i2l, 1) := by decide +kernel
theorem dX6_year_62 : decode cX6_year 62 = .ok (.lmul, 1) := by decide +kernel
theorem dX6_year_63 : decode cX6_year 63 = .ok (.ladd, 1) := by decide +kernel
theorem dX6_year_64 : decode cX6_year 64 = .ok (.lconst 1, 1) := by decide +kernel
theorem dX6_year_65 : decode cX6_year 65 = .ok (.ladd, 1) := by decide +kernel
theorem dX6_year_66 : decode cX6_year 66 = .ok (.lstore 5, 2) := by decide +kernel
theorem dX6_year_68 : decode cX6_year 68 = .ok (.lload 5, 2) := by decide +kernel
theorem dX6_year_70 : decode cX6_year 70 = .ok (.lload 5, 2) := by decide +kernel
theorem dX6_year_72 : decode cX6_year 72 = .ok (.lmul, 1) := by decide +kernel
theorem dX6_year_73 : decode cX6_year 73 = .ok (.ldc2_w 198, 3) := by decide +kernel
theorem dX6_year_76 : decode cX6_year 76 = .ok (.lrem, 1) := by decide +kernel
theorem dX6_year_77 : decode cX6_year 77 = .ok (.l2i, 1) := by decide +kernel
theorem dX6_year_78 : decode cX6_year 78 = .ok (.istore 7, 2) := by decide +kernel
theorem dX6_year_80 : decode cX6_year 80 = .ok (.iload 7, 2) := by decide +kernel
theorem dX6_year_82 : decode cX6_year 82 = .ok (.bipush 8, 2) := by decide +kernel
theorem dX6_year_84 : decode cX6_year 84 = .ok (.idiv, 1) := by decide +kernel
theorem dX6_year_85 : decode cX6_year 85 = .ok (.iconst 3, 1) := by decide +kernel
theorem dX6_year_86 : decode cX6_year 86 = .ok (.irem, 1) := by decide +kernel
theorem dX6_year_87 : decode cX6_year 87 = .ok (.ifCond .ne 23, 3) := by decide +kernel
theorem dX6_year_90 : decode cX6_year 90 = .ok (.aload_n 0, 1) := by decide +kernel
theorem dX6_year_91 : decode cX6_year 91 = .ok (.getfield 31, 3) := by decide +kernel
theorem dX6_year_94 : decode cX6_year 94 = .ok (.iconst 0, 1) := by decide +kernel
theorem dX6_year_95 : decode cX6_year 95 = .ok (.dup2, 1) := by decide +kernel
theorem dX6_year_96 : decode cX6_year 96 = .ok (.iaload, 1) := by decide +kernel
theorem dX6_year_97 : decode cX6_year 97 = .ok (.iconst 1, 1) := by decide +kernel
theorem dX6_year_98 : decode cX6_year 98 = .ok (.iload 7, 2) := by decide +kernel
theorem dX6_year_100 : decode cX6_year 100 = .ok (.bipush 6, 2) := by decide +kernel
theorem dX6_year_102 : decode cX6_year 102 = .ok (.irem, 1) := by decide +kernel
theorem dX6_year_103 : decode cX6_year 103 = .ok (.ishl, 1) := by decide +kernel
theorem dX6_year_104 : decode cX6_year 104 = .ok (.ixor, 1) := by decide +kernel
theorem dX6_year_105 : decode cX6_year 105 = .ok (.iastore, 1) := by decide +kernel
theorem dX6_year_106 : decode cX6_year 106 = .ok (.aload_n 0, 1) := by decide +kernel
theorem dX6_year_107 : decode cX6_year 107 = .ok (.invokevirtual 112, 3) := by decide +kernel
theorem dX6_year_110 : decode cX6_year 110 = .ok (.iload 7, 2) := by decide +kernel
theorem dX6_year_112 : decode cX6_year 112 = .ok (.bipush 64, 2) := by decide +kernel
theorem dX6_year_114 : decode cX6_year 114 = .ok (.idiv, 1) := by decide +kernel
theorem dX6_year_115 : decode cX6_year 115 = .ok (.aload_n 0, 1) := by decide +kernel
theorem dX6_year_116 : decode cX6_year 116 = .ok (.getfield 31, 3) := by decide +kernel
theorem dX6_year_119 : decode cX6_year 119 = .ok (.iconst 2, 1) := by decide +kernel
theorem dX6_year_120 : decode cX6_year 120 = .ok (.iaload, 1) := by decide +kernel
theorem dX6_year_121 : decode cX6_year 121 = .ok (.irem, 1) := by decide +kernel
theorem dX6_year_122 : decode cX6_year 122 = .ok (.istore 8, 2) := by decide +kernel
theorem dX6_year_124 : decode cX6_year 124 = .ok (.iload 7, 2) := by decide +kernel
theorem dX6_year_126 : decode cX6_year 126 = .ok (.sipush 1024, 3) := by decide +kernel
theorem dX6_year_129 : decode cX6_year 129 = .ok (.idiv, 1) := by decide +kernel
theorem dX6_year_130 : decode cX6_year 130 = .ok (.iconst 5, 1) := by decide +kernel
theorem dX6_year_131 : decode cX6_year 131 = .ok (.irem, 1) := by decide +kernel
theorem dX6_year_132 : decode cX6_year 132 = .ok (.ifCond .ne 18, 3) := by decide +kernel
theorem dX6_year_135 : decode cX6_year 135 = .ok (.aload_n 0, 1) := by decide +kernel
theorem dX6_year_136 : decode cX6_year 136 = .ok (.iload 8, 2) := by decide +kernel
theorem dX6_year_138 : decode cX6_year 138 = .ok (.invokevirtual 161, 3) := by decide +kernel
theorem dX6_year_141 : decode cX6_year 141 = .ok (.ifCond .eq 9, 3) := by decide +kernel
theorem dX6_year_144 : decode cX6_year 144 = .ok (.aload_n 0, 1) := by decide +kernel
theorem dX6_year_145 : decode cX6_year 145 = .ok (.iload 8, 2) := by decide +kernel
theorem dX6_year_147 : decode cX6_year 147 = .ok (.invokevirtual 164, 3) := by decide +kernel
theorem dX6_year_150 : decode cX6_year 150 = .ok (.aload_n 0, 1) := by decide +kernel
theorem dX6_year_151 : decode cX6_year 151 = .ok (.invokevirtual 158, 3) := by decide +kernel
theorem dX6_year_154 : decode cX6_year 154 = .ok (.iinc 4 1, 3) := by decide +kernel
theorem dX6_year_157 : decode cX6_year 157 = .ok (.goto (-113), 3) := by decide +kernel
theorem dX6_year_160 : decode cX6_year 160 = .ok (.iload_n 3, 1) := by decide +kernel
theorem dX6_year_161 : decode cX6_year 161 = .ok (.ifCond .ne 13, 3) := by decide +kernel
theorem dX6_year_164 : decode cX6_year 164 = .ok (.aload_n 0, 1) := by decide +kernel
theorem dX6_year_165 : decode cX6_year 165 = .ok (.invokevirtual 168, 3) := by decide +kernel
theorem dX6_year_168 : decode cX6_year 168 = .ok (.invokestatic 171, 3) := by decide +kernel
theorem dX6_year_171 : decode cX6_year 171 = .ok (.goto 7, 3) := by decide +kernel
theorem dX6_year_174 : decode cX6_year 174 = .ok (.aload_n 0, 1) := by decide +kernel
theorem dX6_year_175 : decode cX6_year 175 = .ok (.getfield 143, 3) := by decide +kernel
theorem dX6_year_178 : decode cX6_year 178 = .ok (.ireturn, 1) := by decide +kernel
set_option maxRecDepth 20000 in
theorem ggX6_keep_X6_copies : GoodIn wsX6_keep wsX6_copies := goodIn_r _ [7] (by decide +kernel) (by decide +kernel)
set_option maxRecDepth 20000 in
theorem gX6_keep_X6_copies : GoodIn wsX6_keep (va_wsS RX6 108 yX6_copies wsX6_copies) := goodIn_app (goodIn_of _ (by decide +kernel)) ggX6_keep_X6_copies
theorem dX6_keep_0 : decode cX6_keep 0 = .ok (.aload_n 0, 1) := by decide +kernel
theorem dX6_keep_1 : decode cX6_keep 1 = .ok (.getfield 118, 3) := by decide +kernel
theorem dX6_keep_4 : decode cX6_keep 4 = .ok (.iconst 2, 1) := by decide +kernel
theorem dX6_keep_5 : decode cX6_keep 5 = .ok (.if_icmp .ne 6, 3) := by decide +kernel
theorem dX6_keep_8 : decode cX6_keep 8 = .ok (.bipush (-3), 2) := by decide +kernel
theorem dX6_keep_10 : decode cX6_keep 10 = .ok (.ireturn, 1) := by decide +kernel
theorem dX6_keep_11 : decode cX6_keep 11 = .ok (.aload_n 0, 1) := by decide +kernel
theorem dX6_keep_12 : decode cX6_keep 12 = .ok (.getfield 16, 3) := by decide +kernel
theorem dX6_keep_15 : decode cX6_keep 15 = .ok (.bipush 49, 2) := by decide +kernel
theorem dX6_keep_17 : decode cX6_keep 17 = .ok (.aload_n 0, 1) := by decide +kernel
theorem dX6_keep_18 : decode cX6_keep 18 = .ok (.getfield 118, 3) := by decide +kernel
theorem dX6_keep_21 : decode cX6_keep 21 = .ok (.imul, 1) := by decide +kernel
theorem dX6_keep_22 : decode cX6_keep 22 = .ok (.aload_n 0, 1) := by decide +kernel
theorem dX6_keep_23 : decode cX6_keep 23 = .ok (.getfield 7, 3) := by decide +kernel
theorem dX6_keep_26 : decode cX6_keep 26 = .ok (.iconst 0, 1) := by decide +kernel
theorem dX6_keep_27 : decode cX6_keep 27 = .ok (.invokestatic 108, 3) := by decide +kernel
theorem dX6_keep_30 : decode cX6_keep 30 = .ok (.aload_n 0, 1) := by decide +kernel
theorem dX6_keep_31 : decode cX6_keep 31 = .ok (.dup, 1) := by decide +kernel
theorem dX6_keep_32 : decode cX6_keep 32 = .ok (.getfield 118, 3) := by decide +kernel
theorem dX6_keep_35 : decode cX6_keep 35 = .ok (.iconst 1, 1) := by decide +kernel
theorem dX6_keep_36 : decode cX6_keep 36 = .ok (.iadd, 1) := by decide +kernel
theorem dX6_keep_37 : decode cX6_keep 37 = .ok (.putfield 118, 3) := by decide +kernel
theorem dX6_keep_40 : decode cX6_keep 40 = .ok (.aload_n 0, 1) := by decide +kernel
theorem dX6_keep_41 : decode cX6_keep 41 = .ok (.getfield 118, 3) := by decide +kernel
theorem dX6_keep_44 : decode cX6_keep 44 = .ok (.ireturn, 1) := by decide +kernel
set_option maxRecDepth 20000 in
theorem ggX6_back_X6_copies : GoodIn wsX6_back wsX6_copies := goodIn_r _ [8] (by decide +kernel) (by decide +kernel)
set_option maxRecDepth 20000 in
theorem gX6_back_X6_copies : GoodIn wsX6_back (va_wsS RX6 108 yX6_copies wsX6_copies) := goodIn_app (goodIn_of _ (by decide +kernel)) ggX6_back_X6_copies
theorem dX6_back_0 : decode cX6_back 0 = .ok (.aload_n 0, 1) := by decide +kernel
theorem dX6_back_1 : decode cX6_back 1 = .ok (.getfield 118, 3) := by decide +kernel
theorem dX6_back_4 : decode cX6_back 4 = .ok (.ifCond .ne 6, 3) := by decide +kernel
theorem dX6_back_7 : decode cX6_back 7 = .ok (.bipush (-2), 2) := by decide +kernel
theorem dX6_back_9 : decode cX6_back 9 = .ok (.ireturn, 1) := by decide +kernel
theorem dX6_back_10 : decode cX6_back 10 = .ok (.aload_n 0, 1) := by decide +kernel
theorem dX6_back_11 : decode cX6_back 11 = .ok (.dup, 1) := by decide +kernel
theorem dX6_back_12 : decode cX6_back 12 = .ok (.getfield 118, 3) := by decide +kernel
theorem dX6_back_15 : decode cX6_back 15 = .ok (.iconst 1, 1) := by decide +kernel
theorem dX6_back_16 : decode cX6_back 16 = .ok (.isub, 1) := by decide +kernel
theorem dX6_back_17 : decode cX6_back 17 = .ok (.putfield 118, 3) := by decide +kernel
theorem dX6_back_20 : decode cX6_back 20 = .ok (.aload_n 0, 1) := by decide +kernel
theorem dX6_back_21 : decode cX6_back 21 = .ok (.getfield 7, 3) := by decide +kernel
theorem dX6_back_24 : decode cX6_back 24 = .ok (.iconst 0, 1) := by decide +kernel
theorem dX6_back_25 : decode cX6_back 25 = .ok (.aload_n 0, 1) := by decide +kernel
theorem dX6_back_26 : decode cX6_back 26 = .ok (.getfield 16, 3) := by decide +kernel
theorem dX6_back_29 : decode cX6_back 29 = .ok (.bipush 49, 2) := by decide +kernel
theorem dX6_back_31 : decode cX6_back 31 = .ok (.aload_n 0, 1) := by decide +kernel
theorem dX6_back_32 : decode cX6_back 32 = .ok (.getfield 118, 3) := by decide +kernel
theorem dX6_back_35 : decode cX6_back 35 = .ok (.imul, 1) := by decide +kernel
theorem dX6_back_36 : decode cX6_back 36 = .ok (.invokestatic 108, 3) := by decide +kernel
theorem dX6_back_39 : decode cX6_back 39 = .ok (.aload_n 0, 1) := by decide +kernel
theorem dX6_back_40 : decode cX6_back 40 = .ok (.iconst 0, 1) := by decide +kernel
theorem dX6_back_41 : decode cX6_back 41 = .ok (.putfield 115, 3) := by decide +kernel
theorem dX6_back_44 : decode cX6_back 44 = .ok (.aload_n 0, 1) := by decide +kernel
theorem dX6_back_45 : decode cX6_back 45 = .ok (.getfield 118, 3) := by decide +kernel
theorem dX6_back_48 : decode cX6_back 48 = .ok (.ireturn, 1) := by decide +kernel
theorem dX6_longServed_0 : decode cX6_longServed 0 = .ok (.iconst 0, 1) := by decide +kernel
theorem dX6_longServed_1 : decode cX6_longServed 1 = .ok (.istore_n 1, 1) := by decide +kernel
theorem dX6_longServed_2 : decode cX6_longServed 2 = .ok (.iconst 0, 1) := by decide +kernel
theorem dX6_longServed_3 : decode cX6_longServed 3 = .ok (.istore_n 2, 1) := by decide +kernel
theorem dX6_longServed_4 : decode cX6_longServed 4 = .ok (.iload_n 2, 1) := by decide +kernel
theorem dX6_longServed_5 : decode cX6_longServed 5 = .ok (.aload_n 0, 1) := by decide +kernel
theorem dX6_longServed_6 : decode cX6_longServed 6 = .ok (.getfield 7, 3) := by decide +kernel
theorem dX6_longServed_9 : decode cX6_longServed 9 = .ok (.iconst 2, 1) := by decide +kernel
theorem dX6_longServed_10 : decode cX6_longServed 10 = .ok (.iaload, 1) := by decide +kernel
theorem dX6_longServed_11 : decode cX6_longServed 11 = .ok (.if_icmp .ge 33, 3) := by decide +kernel
theorem dX6_longServed_14 : decode cX6_longServed 14 = .ok (.iload_n 1, 1) := by decide +kernel
theorem dX6_longServed_15 : decode cX6_longServed 15 = .ok (.aload_n 0, 1) := by decide +kernel
theorem dX6_longServed_16 : decode cX6_longServed 16 = .ok (.getfield 7, 3) := by decide +kernel
theorem dX6_longServed_19 : decode cX6_longServed 19 = .ok (.bipush 40, 2) := by decide +kernel
theorem dX6_longServed_21 : decode cX6_longServed 21 = .ok (.iload_n 2, 1) := by decide +kernel
theorem dX6_longServed_22 : decode cX6_longServed 22 = .ok (.iadd, 1) := by decide +kernel
theorem dX6_longServed_23 : decode cX6_longServed 23 = .ok (.iaload, 1) := by decide +kernel
theorem dX6_longServed_24 : decode cX6_longServed 24 = .ok (.aload_n 0, 1) := by decide +kernel
theorem dX6_longServed_25 : decode cX6_longServed 25 = .ok (.getfield 105, 3) := by decide +kernel
theorem dX6_longServed_28 : decode cX6_longServed 28 = .ok (.if_icmp .lt 7, 3) := by decide +kernel
theorem dX6_longServed_31 : decode cX6_longServed 31 = .ok (.iconst 1, 1) := by decide +kernel
theorem dX6_longServed_32 : decode cX6_longServed 32 = .ok (.goto 4, 3) := by decide +kernel
theorem dX6_longServed_35 : decode cX6_longServed 35 = .ok (.iconst 0, 1) := by decide +kernel
theorem dX6_longServed_36 : decode cX6_longServed 36 = .ok (.iadd, 1) := by decide +kernel
theorem dX6_longServed_37 : decode cX6_longServed 37 = .ok (.istore_n 1, 1) := by decide +kernel
theorem dX6_longServed_38 : decode cX6_longServed 38 = .ok (.iinc 2 1, 3) := by decide +kernel
theorem dX6_longServed_41 : decode cX6_longServed 41 = .ok (.goto (-37), 3) := by decide +kernel
theorem dX6_longServed_44 : decode cX6_longServed 44 = .ok (.iload_n 1, 1) := by decide +kernel
theorem dX6_longServed_45 : decode cX6_longServed 45 = .ok (.ireturn, 1) := by decide +kernel
set_option maxRecDepth 20000 in
theorem ggX6_count_X6_asItIs : GoodIn wsX6_count wsX6_asItIs := goodIn_r _ [10, 11, 1, 12, 13, 9, 14, 27, 28, 29, 30, 31, 32, 33, 34, 35, 36, 37, 38, 39, 40, 41, 42, 43, 44, 45, 46, 47] (by decide +kernel) (by decide +kernel)
set_option maxRecDepth 20000 in
theorem gX6_count_X6_asItIs : GoodIn wsX6_count (wsV RX6 149 RX6 yX6_asItIs wsX6_asItIs) := goodIn_app (goodIn_of _ (by decide +kernel)) ggX6_count_X6_asItIs
set_option maxRecDepth 20000 in
theorem ggX6_count_X6_bits : GoodIn wsX6_count wsX6_bits := goodIn_r _ [17] (by decide +kernel) (by decide +kernel)
set_option maxRecDepth 20000 in
theorem gX6_count_X6_bits : GoodIn wsX6_count (va_wsS RX6 171 yX6_bits wsX6_bits) := goodIn_app (goodIn_of _ (by decide +kernel)) ggX6_count_X6_bits
set_option maxRecDepth 20000 in
theorem ggX6_count_X6_police : GoodIn wsX6_count wsX6_police := goodIn_r _ [21, 11, 27, 28, 29, 30, 31, 32, 33, 34, 35, 36, 37, 38, 39, 40, 41, 42, 43, 44, 45, 46, 47] (by decide +kernel) (by decide +kernel)
set_option maxRecDepth 20000 in
theorem gX6_count_X6_police : GoodIn wsX6_count (wsV RX6 168 RX6 yX6_police wsX6_police) := goodIn_app (goodIn_of _ (by decide +kernel)) ggX6_count_X6_police
set_option maxRecDepth 20000 in
theorem ggX6_count_X6_longServed : GoodIn wsX6_count wsX6_longServed := goodIn_r _ [25, 1, 26, 27, 28, 29, 30, 31, 32, 33, 34, 35, 36, 37, 38, 39, 40, 41, 42, 43, 44, 45, 46, 47] (by decide +kernel) (by decide +kernel)
set_option maxRecDepth 20000 in
theorem gX6_count_X6_longServed : GoodIn wsX6_count (wsV RX6 200 RX6 yX6_longServed wsX6_longServed) := goodIn_app (goodIn_of _ (by decide +kernel)) ggX6_count_X6_longServed
theorem dX6_count_0 : decode cX6_count 0 = .ok (.aload_n 0, 1) := by decide +kernel
theorem dX6_count_1 : decode cX6_count 1 = .ok (.invokevirtual 149, 3) := by decide +kernel
theorem dX6_count_4 : decode cX6_count 4 = .ok (.iload_n 1, 1) := by decide +kernel
theorem dX6_count_5 : decode cX6_count 5 = .ok (.tableswitch 122 0 9 #[55, 62, 72, 80, 85, 92, 102, 107, 112, 117], 55) := by decide +kernel
theorem dX6_count_60 : decode cX6_count 60 = .ok (.aload_n 0, 1) := by decide +kernel
theorem dX6_count_61 : decode cX6_count 61 = .ok (.getfield 7, 3) := by decide +kernel
theorem dX6_count_64 : decode cX6_count 64 = .ok (.iconst 2, 1) := by decide +kernel
theorem dX6_count_65 : decode cX6_count 65 = .ok (.iaload, 1) := by decide +kernel
theorem dX6_count_66 : decode cX6_count 66 = .ok (.ireturn, 1) := by decide +kernel
theorem dX6_count_67 : decode cX6_count 67 = .ok (.aload_n 0, 1) := by decide +kernel
theorem dX6_count_68 : decode cX6_count 68 = .ok (.getfield 7, 3) := by decide +kernel
theorem dX6_count_71 : decode cX6_count 71 = .ok (.iconst 3, 1) := by decide +kernel
theorem dX6_count_72 : decode cX6_count 72 = .ok (.iaload, 1) := by decide +kernel
theorem dX6_count_73 : decode cX6_count 73 = .ok (.invokestatic 171, 3) := by decide +kernel
theorem dX6_count_76 : decode cX6_count 76 = .ok (.ireturn, 1) := by decide +kernel
theorem dX6_count_77 : decode cX6_count 77 = .ok (.aload_n 0, 1) := by decide +kernel
theorem dX6_count_78 : decode cX6_count 78 = .ok (.invokevirtual 168, 3) := by decide +kernel
theorem dX6_count_81 : decode cX6_count 81 = .ok (.invokestatic 171, 3) := by decide +kernel
theorem dX6_count_84 : decode cX6_count 84 = .ok (.ireturn, 1) := by decide +kernel
theorem dX6_count_85 : decode cX6_count 85 = .ok (.aload_n 0, 1) := by decide +kernel
theorem dX6_count_86 : decode cX6_count 86 = .ok (.invokevirtual 200, 3) := by decide +kernel
theorem dX6_count_89 : decode cX6_count 89 = .ok (.ireturn, 1) := by decide +kernel
theorem dX6_count_90 : decode cX6_count 90 = .ok (.aload_n 0, 1) := by decide +kernel
theorem dX6_count_91 : decode cX6_count 91 = .ok (.getfield 7, 3) := by decide +kernel
theorem dX6_count_94 : decode cX6_count 94 = .ok (.iconst 1, 1) := by decide +kernel
theorem dX6_count_95 : decode cX6_count 95 = .ok (.iaload, 1) := by decide +kernel
theorem dX6_count_96 : decode cX6_count 96 = .ok (.ireturn, 1) := by decide +kernel
theorem dX6_count_97 : decode cX6_count 97 = .ok (.aload_n 0, 1) := by decide +kernel
theorem dX6_count_98 : decode cX6_count 98 = .ok (.getfield 7, 3) := by decide +kernel
theorem dX6_count_101 : decode cX6_count 101 = .ok (.iconst 0, 1) := by decide +kernel
theorem dX6_count_102 : decode cX6_count 102 = .ok (.iaload, 1) := by decide +kernel
theorem dX6_count_103 : decode cX6_count 103 = .ok (.invokestatic 171, 3) := by decide +kernel
theorem dX6_count_106 : decode cX6_count 106 = .ok (.ireturn, 1) := by decide +kernel
theorem dX6_count_107 : decode cX6_count 107 = .ok (.aload_n 0, 1) := by decide +kernel
theorem dX6_count_108 : decode cX6_count 108 = .ok (.getfield 121, 3) := by decide +kernel
theorem dX6_count_111 : decode cX6_count 111 = .ok (.ireturn, 1) := by decide +kernel
theorem dX6_count_112 : decode cX6_count 112 = .ok (.aload_n 0, 1) := by decide +kernel
theorem dX6_count_113 : decode cX6_count 113 = .ok (.getfield 115, 3) := by decide +kernel
theorem dX6_count_116 : decode cX6_count 116 = .ok (.ireturn, 1) := by decide +kernel
theorem dX6_count_117 : decode cX6_count 117 = .ok (.aload_n 0, 1) := by decide +kernel
theorem dX6_count_118 : decode cX6_count 118 = .ok (.getfield 118, 3) := by decide +kernel
theorem dX6_count_121 : decode cX6_count 121 = .ok (.ireturn, 1) := by decide +kernel
theorem dX6_count_122 : decode cX6_count 122 = .ok (.aload_n 0, 1) := by decide +kernel
theorem dX6_count_123 : decode cX6_count 123 = .ok (.getfield 68, 3) := by decide +kernel
theorem dX6_count_126 : decode cX6_count 126 = .ok (.ireturn, 1) := by decide +kernel
theorem dX6_count_127 : decode cX6_count 127 = .ok (.iconst (-1), 1) := by decide +kernel
theorem dX6_count_128 : decode cX6_count 128 = .ok (.ireturn, 1) := by decide +kernel
theorem dJ6_bitCount_0f7a4_0 : decode cJ6_bitCount_0f7a4 0 = .ok (.iload_n 0, 1) := by decide +kernel
theorem dJ6_bitCount_0f7a4_1 : decode cJ6_bitCount_0f7a4 1 = .ok (.iload_n 0, 1) := by decide +kernel
theorem dJ6_bitCount_0f7a4_2 : decode cJ6_bitCount_0f7a4 2 = .ok (.iconst 1, 1) := by decide +kernel
theorem dJ6_bitCount_0f7a4_3 : decode cJ6_bitCount_0f7a4 3 = .ok (.iushr, 1) := by decide +kernel
theorem dJ6_bitCount_0f7a4_4 : decode cJ6_bitCount_0f7a4 4 = .ok (.ldc_w 265, 3) := by decide +kernel
theorem dJ6_bitCount_0f7a4_7 : decode cJ6_bitCount_0f7a4 7 = .ok (.iand, 1) := by decide +kernel
theorem dJ6_bitCount_0f7a4_8 : decode cJ6_bitCount_0f7a4 8 = .ok (.isub, 1) := by decide +kernel
theorem dJ6_bitCount_0f7a4_9 : decode cJ6_bitCount_0f7a4 9 = .ok (.istore_n 0, 1) := by decide +kernel
theorem dJ6_bitCount_0f7a4_10 : decode cJ6_bitCount_0f7a4 10 = .ok (.iload_n 0, 1) := by decide +kernel
theorem dJ6_bitCount_0f7a4_11 : decode cJ6_bitCount_0f7a4 11 = .ok (.ldc_w 266, 3) := by decide +kernel
theorem dJ6_bitCount_0f7a4_14 : decode cJ6_bitCount_0f7a4 14 = .ok (.iand, 1) := by decide +kernel
theorem dJ6_bitCount_0f7a4_15 : decode cJ6_bitCount_0f7a4 15 = .ok (.iload_n 0, 1) := by decide +kernel
theorem dJ6_bitCount_0f7a4_16 : decode cJ6_bitCount_0f7a4 16 = .ok (.iconst 2, 1) := by decide +kernel
theorem dJ6_bitCount_0f7a4_17 : decode cJ6_bitCount_0f7a4 17 = .ok (.iushr, 1) := by decide +kernel
theorem dJ6_bitCount_0f7a4_18 : decode cJ6_bitCount_0f7a4 18 = .ok (.ldc_w 266, 3) := by decide +kernel
theorem dJ6_bitCount_0f7a4_21 : decode cJ6_bitCount_0f7a4 21 = .ok (.iand, 1) := by decide +kernel
theorem dJ6_bitCount_0f7a4_22 : decode cJ6_bitCount_0f7a4 22 = .ok (.iadd, 1) := by decide +kernel
theorem dJ6_bitCount_0f7a4_23 : decode cJ6_bitCount_0f7a4 23 = .ok (.istore_n 0, 1) := by decide +kernel
theorem dJ6_bitCount_0f7a4_24 : decode cJ6_bitCount_0f7a4 24 = .ok (.iload_n 0, 1) := by decide +kernel
theorem dJ6_bitCount_0f7a4_25 : decode cJ6_bitCount_0f7a4 25 = .ok (.iload_n 0, 1) := by decide +kernel
theorem dJ6_bitCount_0f7a4_26 : decode cJ6_bitCount_0f7a4 26 = .ok (.iconst 4, 1) := by decide +kernel
theorem dJ6_bitCount_0f7a4_27 : decode cJ6_bitCount_0f7a4 27 = .ok (.iushr, 1) := by decide +kernel
theorem dJ6_bitCount_0f7a4_28 : decode cJ6_bitCount_0f7a4 28 = .ok (.iadd, 1) := by decide +kernel
theorem dJ6_bitCount_0f7a4_29 : decode cJ6_bitCount_0f7a4 29 = .ok (.ldc_w 267, 3) := by decide +kernel
theorem dJ6_bitCount_0f7a4_32 : decode cJ6_bitCount_0f7a4 32 = .ok (.iand, 1) := by decide +kernel
theorem dJ6_bitCount_0f7a4_33 : decode cJ6_bitCount_0f7a4 33 = .ok (.istore_n 0, 1) := by decide +kernel
theorem dJ6_bitCount_0f7a4_34 : decode cJ6_bitCount_0f7a4 34 = .ok (.iload_n 0, 1) := by decide +kernel
theorem dJ6_bitCount_0f7a4_35 : decode cJ6_bitCount_0f7a4 35 = .ok (.iload_n 0, 1) := by decide +kernel
theorem dJ6_bitCount_0f7a4_36 : decode cJ6_bitCount_0f7a4 36 = .ok (.bipush 8, 2) := by decide +kernel
theorem dJ6_bitCount_0f7a4_38 : decode cJ6_bitCount_0f7a4 38 = .ok (.iushr, 1) := by decide +kernel
theorem dJ6_bitCount_0f7a4_39 : decode cJ6_bitCount_0f7a4 39 = .ok (.iadd, 1) := by decide +kernel
theorem dJ6_bitCount_0f7a4_40 : decode cJ6_bitCount_0f7a4 40 = .ok (.istore_n 0, 1) := by decide +kernel
theorem dJ6_bitCount_0f7a4_41 : decode cJ6_bitCount_0f7a4 41 = .ok (.iload_n 0, 1) := by decide +kernel
theorem dJ6_bitCount_0f7a4_42 : decode cJ6_bitCount_0f7a4 42 = .ok (.iload_n 0, 1) := by decide +kernel
theorem dJ6_bitCount_0f7a4_43 : decode cJ6_bitCount_0f7a4 43 = .ok (.bipush 16, 2) := by decide +kernel
theorem dJ6_bitCount_0f7a4_45 : decode cJ6_bitCount_0f7a4 45 = .ok (.iushr, 1) := by decide +kernel
theorem dJ6_bitCount_0f7a4_46 : decode cJ6_bitCount_0f7a4 46 = .ok (.iadd, 1) := by decide +kernel
theorem dJ6_bitCount_0f7a4_47 : decode cJ6_bitCount_0f7a4 47 = .ok (.istore_n 0, 1) := by decide +kernel
theorem dJ6_bitCount_0f7a4_48 : decode cJ6_bitCount_0f7a4 48 = .ok (.iload_n 0, 1) := by decide +kernel
theorem dJ6_bitCount_0f7a4_49 : decode cJ6_bitCount_0f7a4 49 = .ok (.bipush 63, 2) := by decide +kernel
theorem dJ6_bitCount_0f7a4_51 : decode cJ6_bitCount_0f7a4 51 = .ok (.iand, 1) := by decide +kernel
theorem dJ6_bitCount_0f7a4_52 : decode cJ6_bitCount_0f7a4 52 = .ok (.ireturn, 1) := by decide +kernel
theorem dJ13_bitCount_95d88_0 : decode cJ13_bitCount_95d88 0 = .ok (.lload_n 0, 1) := by decide +kernel
theorem dJ13_bitCount_95d88_1 : decode cJ13_bitCount_95d88 1 = .ok (.lload_n 0, 1) := by decide +kernel
theorem dJ13_bitCount_95d88_2 : decode cJ13_bitCount_95d88 2 = .ok (.iconst 1, 1) := by decide +kernel
theorem dJ13_bitCount_95d88_3 : decode cJ13_bitCount_95d88 3 = .ok (.lushr, 1) := by decide +kernel
theorem dJ13_bitCount_95d88_4 : decode cJ13_bitCount_95d88 4 = .ok (.ldc2_w 314, 3) := by decide +kernel
theorem dJ13_bitCount_95d88_7 : decode cJ13_bitCount_95d88 7 = .ok (.land, 1) := by decide +kernel
theorem dJ13_bitCount_95d88_8 : decode cJ13_bitCount_95d88 8 = .ok (.lsub, 1) := by decide +kernel
theorem dJ13_bitCount_95d88_9 : decode cJ13_bitCount_95d88 9 = .ok (.lstore_n 0, 1) := by decide +kernel
theorem dJ13_bitCount_95d88_10 : decode cJ13_bitCount_95d88 10 = .ok (.lload_n 0, 1) := by decide +kernel
theorem dJ13_bitCount_95d88_11 : decode cJ13_bitCount_95d88 11 = .ok (.ldc2_w 316, 3) := by decide +kernel
theorem dJ13_bitCount_95d88_14 : decode cJ13_bitCount_95d88 14 = .ok (.land, 1) := by decide +kernel
theorem dJ13_bitCount_95d88_15 : decode cJ13_bitCount_95d88 15 = .ok (.lload_n 0, 1) := by decide +kernel
theorem dJ13_bitCount_95d88_16 : decode cJ13_bitCount_95d88 16 = .ok (.iconst 2, 1) := by decide +kernel
theorem dJ13_bitCount_95d88_17 : decode cJ13_bitCount_95d88 17 = .ok (.lushr, 1) := by decide +kernel
theorem dJ13_bitCount_95d88_18 : decode cJ13_bitCount_95d88 18 = .ok (.ldc2_w 316, 3) := by decide +kernel
theorem dJ13_bitCount_95d88_21 : decode cJ13_bitCount_95d88 21 = .ok (.land, 1) := by decide +kernel
theorem dJ13_bitCount_95d88_22 : decode cJ13_bitCount_95d88 22 = .ok (.ladd, 1) := by decide +kernel
theorem dJ13_bitCount_95d88_23 : decode cJ13_bitCount_95d88 23 = .ok (.lstore_n 0, 1) := by decide +kernel
theorem dJ13_bitCount_95d88_24 : decode cJ13_bitCount_95d88 24 = .ok (.lload_n 0, 1) := by decide +kernel
theorem dJ13_bitCount_95d88_25 : decode cJ13_bitCount_95d88 25 = .ok (.lload_n 0, 1) := by decide +kernel
theorem dJ13_bitCount_95d88_26 : decode cJ13_bitCount_95d88 26 = .ok (.iconst 4, 1) := by decide +kernel
theorem dJ13_bitCount_95d88_27 : decode cJ13_bitCount_95d88 27 = .ok (.lushr, 1) := by decide +kernel
theorem dJ13_bitCount_95d88_28 : decode cJ13_bitCount_95d88 28 = .ok (.ladd, 1) := by decide +kernel
theorem dJ13_bitCount_95d88_29 : decode cJ13_bitCount_95d88 29 = .ok (.ldc2_w 318, 3) := by decide +kernel
theorem dJ13_bitCount_95d88_32 : decode cJ13_bitCount_95d88 32 = .ok (.land, 1) := by decide +kernel
theorem dJ13_bitCount_95d88_33 : decode cJ13_bitCount_95d88 33 = .ok (.lstore_n 0, 1) := by decide +kernel
theorem dJ13_bitCount_95d88_34 : decode cJ13_bitCount_95d88 34 = .ok (.lload_n 0, 1) := by decide +kernel
theorem dJ13_bitCount_95d88_35 : decode cJ13_bitCount_95d88 35 = .ok (.lload_n 0, 1) := by decide +kernel
theorem dJ13_bitCount_95d88_36 : decode cJ13_bitCount_95d88 36 = .ok (.bipush 8, 2) := by decide +kernel
theorem dJ13_bitCount_95d88_38 : decode cJ13_bitCount_95d88 38 = .ok (.lushr, 1) := by decide +kernel
theorem dJ13_bitCount_95d88_39 : decode cJ13_bitCount_95d88 39 = .ok (.ladd, 1) := by decide +kernel
theorem dJ13_bitCount_95d88_40 : decode cJ13_bitCount_95d88 40 = .ok (.lstore_n 0, 1) := by decide +kernel
theorem dJ13_bitCount_95d88_41 : decode cJ13_bitCount_95d88 41 = .ok (.lload_n 0, 1) := by decide +kernel
theorem dJ13_bitCount_95d88_42 : decode cJ13_bitCount_95d88 42 = .ok (.lload_n 0, 1) := by decide +kernel
theorem dJ13_bitCount_95d88_43 : decode cJ13_bitCount_95d88 43 = .ok (.bipush 16, 2) := by decide +kernel
theorem dJ13_bitCount_95d88_45 : decode cJ13_bitCount_95d88 45 = .ok (.lushr, 1) := by decide +kernel
theorem dJ13_bitCount_95d88_46 : decode cJ13_bitCount_95d88 46 = .ok (.ladd, 1) := by decide +kernel
theorem dJ13_bitCount_95d88_47 : decode cJ13_bitCount_95d88 47 = .ok (.lstore_n 0, 1) := by decide +kernel
theorem dJ13_bitCount_95d88_48 : decode cJ13_bitCount_95d88 48 = .ok (.lload_n 0, 1) := by decide +kernel
theorem dJ13_bitCount_95d88_49 : decode cJ13_bitCount_95d88 49 = .ok (.lload_n 0, 1) := by decide +kernel
theorem dJ13_bitCount_95d88_50 : decode cJ13_bitCount_95d88 50 = .ok (.bipush 32, 2) := by decide +kernel
theorem dJ13_bitCount_95d88_52 : decode cJ13_bitCount_95d88 52 = .ok (.lushr, 1) := by decide +kernel
theorem dJ13_bitCount_95d88_53 : decode cJ13_bitCount_95d88 53 = .ok (.ladd, 1) := by decide +kernel
theorem dJ13_bitCount_95d88_54 : decode cJ13_bitCount_95d88 54 = .ok (.lstore_n 0, 1) := by decide +kernel
theorem dJ13_bitCount_95d88_55 : decode cJ13_bitCount_95d88 55 = .ok (.lload_n 0, 1) := by decide +kernel
theorem dJ13_bitCount_95d88_56 : decode cJ13_bitCount_95d88 56 = .ok (.l2i, 1) := by decide +kernel
theorem dJ13_bitCount_95d88_57 : decode cJ13_bitCount_95d88 57 = .ok (.bipush 127, 2) := by decide +kernel
theorem dJ13_bitCount_95d88_59 : decode cJ13_bitCount_95d88 59 = .ok (.iand, 1) := by decide +kernel
theorem dJ13_bitCount_95d88_60 : decode cJ13_bitCount_95d88 60 = .ok (.ireturn, 1) := by decide +kernel
theorem dJ9_max_7cf53_0 : decode cJ9_max_7cf53 0 = .ok (.iload_n 0, 1) := by decide +kernel
theorem dJ9_max_7cf53_1 : decode cJ9_max_7cf53 1 = .ok (.iload_n 1, 1) := by decide +kernel
theorem dJ9_max_7cf53_2 : decode cJ9_max_7cf53 2 = .ok (.if_icmp .lt 7, 3) := by decide +kernel
theorem dJ9_max_7cf53_5 : decode cJ9_max_7cf53 5 = .ok (.iload_n 0, 1) := by decide +kernel
theorem dJ9_max_7cf53_6 : decode cJ9_max_7cf53 6 = .ok (.goto 4, 3) := by decide +kernel
theorem dJ9_max_7cf53_9 : decode cJ9_max_7cf53 9 = .ok (.iload_n 1, 1) := by decide +kernel
theorem dJ9_max_7cf53_10 : decode cJ9_max_7cf53 10 = .ok (.ireturn, 1) := by decide +kernel
theorem dJ9_min_7cf53_0 : decode cJ9_min_7cf53 0 = .ok (.iload_n 0, 1) := by decide +kernel
theorem dJ9_min_7cf53_1 : decode cJ9_min_7cf53 1 = .ok (.iload_n 1, 1) := by decide +kernel
theorem dJ9_min_7cf53_2 : decode cJ9_min_7cf53 2 = .ok (.if_icmp .gt 7, 3) := by decide +kernel
theorem dJ9_min_7cf53_5 : decode cJ9_min_7cf53 5 = .ok (.iload_n 0, 1) := by decide +kernel
theorem dJ9_min_7cf53_6 : decode cJ9_min_7cf53 6 = .ok (.goto 4, 3) := by decide +kernel
theorem dJ9_min_7cf53_9 : decode cJ9_min_7cf53 9 = .ok (.iload_n 1, 1) := by decide +kernel
theorem dJ9_min_7cf53_10 : decode cJ9_min_7cf53 10 = .ok (.ireturn, 1) := by decide +kernel
set_option maxRecDepth 20000 in
theorem ggJ0_toCharArray_70df3_J0_isLatin1_aae02 : GoodIn wsJ0_toCharArray_70df3 wsJ0_isLatin1_aae02 := goodIn_r _ [6, 7, 8] (by decide +kernel) (by decide +kernel)
set_option maxRecDepth 20000 in
theorem gJ0_toCharArray_70df3_J0_isLatin1_aae02 : GoodIn wsJ0_toCharArray_70df3 (wsV RJ0 492 RJ0 yJ0_isLatin1_aae02 wsJ0_isLatin1_aae02) := goodIn_app (goodIn_of _ (by decide +kernel)) ggJ0_toCharArray_70df3_J0_isLatin1_aae02
set_option maxRecDepth 20000 in
theorem ggJ0_toCharArray_70df3_J1_toChars_9d188 : GoodIn wsJ0_toCharArray_70df3 wsJ1_toChars_9d188 := goodIn_r _ [12, 13, 14, 15, 11, 16] (by decide +kernel) (by decide +kernel)
set_option maxRecDepth 20000 in
theorem gJ0_toCharArray_70df3_J1_toChars_9d188 : GoodIn wsJ0_toCharArray_70df3 (va_wsS RJ0 299 yJ1_toChars_9d188 wsJ1_toChars_9d188) := goodIn_app (goodIn_of _ (by decide +kernel)) ggJ0_toCharArray_70df3_J1_toChars_9d188
set_option maxRecDepth 20000 in
theorem ggJ0_toCharArray_70df3_J2_toChars_9d188 : GoodIn wsJ0_toCharArray_70df3 wsJ2_toChars_9d188 := goodIn_r _ [20, 13, 21, 22, 19, 23, 24, 25, 26, 27, 28, 29, 30, 31, 5, 32, 33, 34, 35, 36, 37, 38, 39, 40, 41, 42, 43] (by decide +kernel) (by decide +kernel)
set_option maxRecDepth 20000 in
theorem gJ0_toCharArray_70df3_J2_toChars_9d188 : GoodIn wsJ0_toCharArray_70df3 (va_wsS RJ0 303 yJ2_toChars_9d188 wsJ2_toChars_9d188) := goodIn_app (goodIn_of _ (by decide +kernel)) ggJ0_toCharArray_70df3_J2_toChars_9d188
theorem dJ0_toCharArray_70df3_0 : decode cJ0_toCharArray_70df3 0 = .ok (.aload_n 0, 1) := by decide +kernel
theorem dJ0_toCharArray_70df3_1 : decode cJ0_toCharArray_70df3 1 = .ok (.invokevirtual 492, 3) := by decide +kernel
theorem dJ0_toCharArray_70df3_4 : decode cJ0_toCharArray_70df3 4 = .ok (.ifCond .eq 13, 3) := by decide +kernel
theorem dJ0_toCharArray_70df3_7 : decode cJ0_toCharArray_70df3 7 = .ok (.aload_n 0, 1) := by decide +kernel
theorem dJ0_toCharArray_70df3_8 : decode cJ0_toCharArray_70df3 8 = .ok (.getfield 9, 3) := by decide +kernel
theorem dJ0_toCharArray_70df3_11 : decode cJ0_toCharArray_70df3 11 = .ok (.invokestatic 299, 3) := by decide +kernel
theorem dJ0_toCharArray_70df3_14 : decode cJ0_toCharArray_70df3 14 = .ok (.goto 10, 3) := by decide +kernel
theorem dJ0_toCharArray_70df3_17 : decode cJ0_toCharArray_70df3 17 = .ok (.aload_n 0, 1) := by decide +kernel
theorem dJ0_toCharArray_70df3_18 : decode cJ0_toCharArray_70df3 18 = .ok (.getfield 9, 3) := by decide +kernel
theorem dJ0_toCharArray_70df3_21 : decode cJ0_toCharArray_70df3 21 = .ok (.invokestatic 303, 3) := by decide +kernel
theorem dJ0_toCharArray_70df3_24 : decode cJ0_toCharArray_70df3 24 = .ok (.areturn, 1) := by decide +kernel
theorem dJ0_isLatin1_aae02_0 : decode cJ0_isLatin1_aae02 0 = .ok (.getstatic 38, 3) := by decide +kernel
theorem dJ0_isLatin1_aae02_3 : decode cJ0_isLatin1_aae02 3 = .ok (.ifCond .eq 14, 3) := by decide +kernel
theorem dJ0_isLatin1_aae02_6 : decode cJ0_isLatin1_aae02 6 = .ok (.aload_n 0, 1) := by decide +kernel
theorem dJ0_isLatin1_aae02_7 : decode cJ0_isLatin1_aae02 7 = .ok (.getfield 15, 3) := by decide +kernel
theorem dJ0_isLatin1_aae02_10 : decode cJ0_isLatin1_aae02 10 = .ok (.ifCond .ne 7, 3) := by decide +kernel
theorem dJ0_isLatin1_aae02_13 : decode cJ0_isLatin1_aae02 13 = .ok (.iconst 1, 1) := by decide +kernel
theorem dJ0_isLatin1_aae02_14 : decode cJ0_isLatin1_aae02 14 = .ok (.goto 4, 3) := by decide +kernel
theorem dJ0_isLatin1_aae02_17 : decode cJ0_isLatin1_aae02 17 = .ok (.iconst 0, 1) := by decide +kernel
theorem dJ0_isLatin1_aae02_18 : decode cJ0_isLatin1_aae02 18 = .ok (.ireturn, 1) := by decide +kernel
set_option maxRecDepth 20000 in
theorem ggJ0_checkBoundsOffCount_cabcc_J3_checkFromIndexSize_8c36e : GoodIn wsJ0_checkBoundsOffCount_cabcc wsJ3_checkFromIndexSize_8c36e := goodIn_r _ [5] (by decide +kernel) (by decide +kernel)
set_option maxRecDepth 20000 in
theorem gJ0_checkBoundsOffCount_cabcc_J3_checkFromIndexSize_8c36e : GoodIn wsJ0_checkBoundsOffCount_cabcc (va_wsS RJ0 1065 yJ3_checkFromIndexSize_8c36e wsJ3_checkFromIndexSize_8c36e) := goodIn_app (goodIn_of _ (by decide +kernel)) ggJ0_checkBoundsOffCount_cabcc_J3_checkFromIndexSize_8c36e
theorem dJ0_checkBoundsOffCount_cabcc_0 : decode cJ0_checkBoundsOffCount_cabcc 0 = .ok (.iload_n 0, 1) := by decide +kernel
theorem dJ0_checkBoundsOffCount_cabcc_1 : decode cJ0_checkBoundsOffCount_cabcc 1 = .ok (.iload_n 1, 1) := by decide +kernel
theorem dJ0_checkBoundsOffCount_cabcc_2 : decode cJ0_checkBoundsOffCount_cabcc 2 = .ok (.iload_n 2, 1) := by decide +kernel
theorem dJ0_checkBoundsOffCount_cabcc_3 : decode cJ0_checkBoundsOffCount_cabcc 3 = .ok (.getstatic 1053, 3) := by decide +kernel
theorem dJ0_checkBoundsOffCount_cabcc_6 : decode cJ0_checkBoundsOffCount_cabcc 6 = .ok (.invokestatic 1065, 3) := by decide +kernel
theorem dJ0_checkBoundsOffCount_cabcc_9 : decode cJ0_checkBoundsOffCount_cabcc 9 = .ok (.ireturn, 1) := by decide +kernel
set_option maxRecDepth 20000 in
theorem ggJ1_toChars_9d188_J1_inflate_03870 : GoodIn wsJ1_toChars_9d188 wsJ1_inflate_03870 := goodIn_r _ [5] (by decide +kernel) (by decide +kernel)
set_option maxRecDepth 20000 in
theorem gJ1_toChars_9d188_J1_inflate_03870 : GoodIn wsJ1_toChars_9d188 (va_wsS RJ1 13 yJ1_inflate_03870 wsJ1_inflate_03870) := goodIn_app (goodIn_of _ (by decide +kernel)) ggJ1_toChars_9d188_J1_inflate_03870
theorem dJ1_toChars_9d188_0 : decode cJ1_toChars_9d188 0 = .ok (.aload_n 0, 1) := by decide +kernel
theorem dJ1_toChars_9d188_1 : decode cJ1_toChars_9d188 1 = .ok (.arraylength, 1) := by decide +kernel
theorem dJ1_toChars_9d188_2 : decode cJ1_toChars_9d188 2 = .ok (.newarray .char, 2) := by decide +kernel
theorem dJ1_toChars_9d188_4 : decode cJ1_toChars_9d188 4 = .ok (.astore_n 1, 1) := by decide +kernel
theorem dJ1_toChars_9d188_5 : decode cJ1_toChars_9d188 5 = .ok (.aload_n 0, 1) := by decide +kernel
theorem dJ1_toChars_9d188_6 : decode cJ1_toChars_9d188 6 = .ok (.iconst 0, 1) := by decide +kernel
theorem dJ1_toChars_9d188_7 : decode cJ1_toChars_9d188 7 = .ok (.aload_n 1, 1) := by decide +kernel
theorem dJ1_toChars_9d188_8 : decode cJ1_toChars_9d188 8 = .ok (.iconst 0, 1) := by decide +kernel
theorem dJ1_toChars_9d188_9 : decode cJ1_toChars_9d188 9 = .ok (.aload_n 0, 1) := by decide +kernel
theorem dJ1_toChars_9d188_10 : decode cJ1_toChars_9d188 10 = .ok (.arraylength, 1) := by decide +kernel
theorem dJ1_toChars_9d188_11 : decode cJ1_toChars_9d188 11 = .ok (.invokestatic 13, 3) := by decide +kernel
theorem dJ1_toChars_9d188_14 : decode cJ1_toChars_9d188 14 = .ok (.aload_n 1, 1) := by decide +kernel
theorem dJ1_toChars_9d188_15 : decode cJ1_toChars_9d188 15 = .ok (.areturn, 1) := by decide +kernel
theorem dJ1_inflate_03870_0 : decode cJ1_inflate_03870 0 = .ok (.iconst 0, 1) := by decide +kernel
theorem dJ1_inflate_03870_1 : decode cJ1_inflate_03870 1 = .ok (.istore 5, 2) := by decide +kernel
theorem dJ1_inflate_03870_3 : decode cJ1_inflate_03870 3 = .ok (.iload 5, 2) := by decide +kernel
theorem dJ1_inflate_03870_5 : decode cJ1_inflate_03870 5 = .ok (.iload 4, 2) := by decide +kernel
theorem dJ1_inflate_03870_7 : decode cJ1_inflate_03870 7 = .ok (.if_icmp .ge 26, 3) := by decide +kernel
theorem dJ1_inflate_03870_10 : decode cJ1_inflate_03870 10 = .ok (.aload_n 2, 1) := by decide +kernel
theorem dJ1_inflate_03870_11 : decode cJ1_inflate_03870 11 = .ok (.iload_n 3, 1) := by decide +kernel
theorem dJ1_inflate_03870_12 : decode cJ1_inflate_03870 12 = .ok (.iinc 3 1, 3) := by decide +kernel
theorem dJ1_inflate_03870_15 : decode cJ1_inflate_03870 15 = .ok (.aload_n 0, 1) := by decide +kernel
theorem dJ1_inflate_03870_16 : decode cJ1_inflate_03870 16 = .ok (.iload_n 1, 1) := by decide +kernel
theorem dJ1_inflate_03870_17 : decode cJ1_inflate_03870 17 = .ok (.iinc 1 1, 3) := by decide +kernel
theorem dJ1_inflate_03870_20 : decode cJ1_inflate_03870 20 = .ok (.baload, 1) := by decide +kernel
theorem dJ1_inflate_03870_21 : decode cJ1_inflate_03870 21 = .ok (.sipush 255, 3) := by decide +kernel
theorem dJ1_inflate_03870_24 : decode cJ1_inflate_03870 24 = .ok (.iand, 1) := by decide +kernel
theorem dJ1_inflate_03870_25 : decode cJ1_inflate_03870 25 = .ok (.i2c, 1) := by decide +kernel
theorem dJ1_inflate_03870_26 : decode cJ1_inflate_03870 26 = .ok (.castore, 1) := by decide +kernel
theorem dJ1_inflate_03870_27 : decode cJ1_inflate_03870 27 = .ok (.iinc 5 1, 3) := by decide +kernel
theorem dJ1_inflate_03870_30 : decode cJ1_inflate_03870 30 = .ok (.goto (-27), 3) := by decide +kernel
theorem dJ1_inflate_03870_33 : decode cJ1_inflate_03870 33 = .ok (.return_, 1) := by decide +kernel
set_option maxRecDepth 20000 in
theorem ggJ2_getChar_3b067_J2_length_9d52b : GoodIn wsJ2_getChar_3b067 wsJ2_length_9d52b := goodIn_r _ [7] (by decide +kernel) (by decide +kernel)
set_option maxRecDepth 20000 in
theorem gJ2_getChar_3b067_J2_length_9d52b : GoodIn wsJ2_getChar_3b067 (va_wsS RJ2 48 yJ2_length_9d52b wsJ2_length_9d52b) := goodIn_app (goodIn_of _ (by decide +kernel)) ggJ2_getChar_3b067_J2_length_9d52b
theorem dJ2_getChar_3b067_0 : decode cJ2_getChar_3b067 0 = .ok (.getstatic 44, 3) := by decide +kernel
theorem dJ2_getChar_3b067_3 : decode cJ2_getChar_3b067 3 = .ok (.ifCond .ne 25, 3) := by decide +kernel
theorem dJ2_getChar_3b067_6 : decode cJ2_getChar_3b067 6 = .ok (.iload_n 1, 1) := by decide +kernel
theorem dJ2_getChar_3b067_7 : decode cJ2_getChar_3b067 7 = .ok (.ifCond .lt 11, 3) := by decide +kernel
theorem dJ2_getChar_3b067_10 : decode cJ2_getChar_3b067 10 = .ok (.iload_n 1, 1) := by decide +kernel
theorem dJ2_getChar_3b067_11 : decode cJ2_getChar_3b067 11 = .ok (.aload_n 0, 1) := by decide +kernel
theorem dJ2_getChar_3b067_12 : decode cJ2_getChar_3b067 12 = .ok (.invokestatic 48, 3) := by decide +kernel
theorem dJ2_getChar_3b067_15 : decode cJ2_getChar_3b067 15 = .ok (.if_icmp .lt 13, 3) := by decide +kernel
theorem dJ2_getChar_3b067_18 : decode cJ2_getChar_3b067 18 = .ok (.new 52, 3) := by decide +kernel
theorem dJ2_getChar_3b067_21 : decode cJ2_getChar_3b067 21 = .ok (.dup, 1) := by decide +kernel
theorem dJ2_getChar_3b067_22 : decode cJ2_getChar_3b067 22 = .ok (.ldc 54, 2) := by decide +kernel
theorem dJ2_getChar_3b067_24 : decode cJ2_getChar_3b067 24 = .ok (.invokespecial 56, 3) := by decide +kernel
theorem dJ2_getChar_3b067_27 : decode cJ2_getChar_3b067 27 = .ok (.athrow, 1) := by decide +kernel
theorem dJ2_getChar_3b067_28 : decode cJ2_getChar_3b067 28 = .ok (.iload_n 1, 1) := by decide +kernel
theorem dJ2_getChar_3b067_29 : decode cJ2_getChar_3b067 29 = .ok (.iconst 1, 1) := by decide +kernel
theorem dJ2_getChar_3b067_30 : decode cJ2_getChar_3b067 30 = .ok (.ishl, 1) := by decide +kernel
theorem dJ2_getChar_3b067_31 : decode cJ2_getChar_3b067 31 = .ok (.istore_n 1, 1) := by decide +kernel
theorem dJ2_getChar_3b067_32 : decode cJ2_getChar_3b067 32 = .ok (.aload_n 0, 1) := by decide +kernel
theorem dJ2_getChar_3b067_33 : decode cJ2_getChar_3b067 33 = .ok (.iload_n 1, 1) := by decide +kernel
theorem dJ2_getChar_3b067_34 : decode cJ2_getChar_3b067 34 = .ok (.iinc 1 1, 3) := by decide +kernel
theorem dJ2_getChar_3b067_37 : decode cJ2_getChar_3b067 37 = .ok (.baload, 1) := by decide +kernel
theorem dJ2_getChar_3b067_38 : decode cJ2_getChar_3b067 38 = .ok (.sipush 255, 3) := by decide +kernel
theorem dJ2_getChar_3b067_41 : decode cJ2_getChar_3b067 41 = .ok (.iand, 1) := by decide +kernel
theorem dJ2_getChar_3b067_42 : decode cJ2_getChar_3b067 42 = .ok (.getstatic 59, 3) := by decide +kernel
theorem dJ2_getChar_3b067_45 : decode cJ2_getChar_3b067 45 = .ok (.ishl, 1) := by decide +kernel
theorem dJ2_getChar_3b067_46 : decode cJ2_getChar_3b067 46 = .ok (.aload_n 0, 1) := by decide +kernel
theorem dJ2_getChar_3b067_47 : decode cJ2_getChar_3b067 47 = .ok (.iload_n 1, 1) := by decide +kernel
theorem dJ2_getChar_3b067_48 : decode cJ2_getChar_3b067 48 = .ok (.baload, 1) := by decide +kernel
theorem dJ2_getChar_3b067_49 : decode cJ2_getChar_3b067 49 = .ok (.sipush 255, 3) := by decide +kernel
theorem dJ2_getChar_3b067_52 : decode cJ2_getChar_3b067 52 = .ok (.iand, 1) := by decide +kernel
theorem dJ2_getChar_3b067_53 : decode cJ2_getChar_3b067 53 = .ok (.getstatic 63, 3) := by decide +kernel
theorem dJ2_getChar_3b067_56 : decode cJ2_getChar_3b067 56 = .ok (.ishl, 1) := by decide +kernel
theorem dJ2_getChar_3b067_57 : decode cJ2_getChar_3b067 57 = .ok (.ior, 1) := by decide +kernel
theorem dJ2_getChar_3b067_58 : decode cJ2_getChar_3b067 58 = .ok (.i2c, 1) := by decide +kernel
theorem dJ2_getChar_3b067_59 : decode cJ2_getChar_3b067 59 = .ok (.ireturn, 1) := by decide +kernel
theorem dJ2_length_9d52b_0 : decode cJ2_length_9d52b 0 = .ok (.aload_n 0, 1) := by decide +kernel
theorem dJ2_length_9d52b_1 : decode cJ2_length_9d52b 1 = .ok (.arraylength, 1) := by decide +kernel
theorem dJ2_length_9d52b_2 : decode cJ2_length_9d52b 2 = .ok (.iconst 1, 1) := by decide +kernel
theorem dJ2_length_9d52b_3 : decode cJ2_length_9d52b 3 = .ok (.ishr, 1) := by decide +kernel
theorem dJ2_length_9d52b_4 : decode cJ2_length_9d52b 4 = .ok (.ireturn, 1) := by decide +kernel
set_option maxRecDepth 20000 in
theorem ggJ2_toChars_9d188_J2_getChars_a1a8b : GoodIn wsJ2_toChars_9d188 wsJ2_getChars_a1a8b := goodIn_r _ [5, 6, 7, 4, 8, 9, 10, 11, 12, 13, 14, 15, 16, 17, 18, 19, 20, 21, 22, 23, 24, 25, 26] (by decide +kernel) (by decide +kernel)
set_option maxRecDepth 20000 in
theorem gJ2_toChars_9d188_J2_getChars_a1a8b : GoodIn wsJ2_toChars_9d188 (va_wsS RJ2 103 yJ2_getChars_a1a8b wsJ2_getChars_a1a8b) := goodIn_app (goodIn_of _ (by decide +kernel)) ggJ2_toChars_9d188_J2_getChars_a1a8b
theorem dJ2_toChars_9d188_0 : decode cJ2_toChars_9d188 0 = .ok (.aload_n 0, 1) := by decide +kernel
theorem dJ2_toChars_9d188_1 : decode cJ2_toChars_9d188 1 = .ok (.arraylength, 1) := by decide +kernel
theorem dJ2_toChars_9d188_2 : decode cJ2_toChars_9d188 2 = .ok (.iconst 1, 1) := by decide +kernel
theorem dJ2_toChars_9d188_3 : decode cJ2_toChars_9d188 3 = .ok (.ishr, 1) := by decide +kernel
theorem dJ2_toChars_9d188_4 : decode cJ2_toChars_9d188 4 = .ok (.newarray .char, 2) := by decide +kernel
theorem dJ2_toChars_9d188_6 : decode cJ2_toChars_9d188 6 = .ok (.astore_n 1, 1) := by decide +kernel
theorem dJ2_toChars_9d188_7 : decode cJ2_toChars_9d188 7 = .ok (.aload_n 0, 1) := by decide +kernel
theorem dJ2_toChars_9d188_8 : decode cJ2_toChars_9d188 8 = .ok (.iconst 0, 1) := by decide +kernel
theorem dJ2_toChars_9d188_9 : decode cJ2_toChars_9d188 9 = .ok (.aload_n 1, 1) := by decide +kernel
theorem dJ2_toChars_9d188_10 : decode cJ2_toChars_9d188 10 = .ok (.arraylength, 1) := by decide +kernel
theorem dJ2_toChars_9d188_11 : decode cJ2_toChars_9d188 11 = .ok (.aload_n 1, 1) := by decide +kernel
theorem dJ2_toChars_9d188_12 : decode cJ2_toChars_9d188 12 = .ok (.iconst 0, 1) := by decide +kernel
theorem dJ2_toChars_9d188_13 : decode cJ2_toChars_9d188 13 = .ok (.invokestatic 103, 3) := by decide +kernel
theorem dJ2_toChars_9d188_16 : decode cJ2_toChars_9d188 16 = .ok (.aload_n 1, 1) := by decide +kernel
theorem dJ2_toChars_9d188_17 : decode cJ2_toChars_9d188 17 = .ok (.areturn, 1) := by decide +kernel
set_option maxRecDepth 20000 in
theorem ggJ2_getChars_a1a8b_J2_checkBoundsOffCount_d044e : GoodIn wsJ2_getChars_a1a8b wsJ2_checkBoundsOffCount_d044e := goodIn_r _ [4, 5, 6, 3, 7, 8, 9, 10, 11, 12, 13, 14, 15, 16] (by decide +kernel) (by decide +kernel)
set_option maxRecDepth 20000 in
theorem gJ2_getChars_a1a8b_J2_checkBoundsOffCount_d044e : GoodIn wsJ2_getChars_a1a8b (va_wsS RJ2 173 yJ2_checkBoundsOffCount_d044e wsJ2_checkBoundsOffCount_d044e) := goodIn_app (goodIn_of _ (by decide +kernel)) ggJ2_getChars_a1a8b_J2_checkBoundsOffCount_d044e
set_option maxRecDepth 20000 in
theorem ggJ2_getChars_a1a8b_J2_getChar_3b067 : GoodIn wsJ2_getChars_a1a8b wsJ2_getChar_3b067 := goodIn_r _ [19, 20, 21, 22, 5, 6, 3, 7] (by decide +kernel) (by decide +kernel)
set_option maxRecDepth 20000 in
theorem gJ2_getChars_a1a8b_J2_getChar_3b067 : GoodIn wsJ2_getChars_a1a8b (va_wsS RJ2 71 yJ2_getChar_3b067 wsJ2_getChar_3b067) := goodIn_app (goodIn_of _ (by decide +kernel)) ggJ2_getChars_a1a8b_J2_getChar_3b067
theorem dJ2_getChars_a1a8b_0 : decode cJ2_getChars_a1a8b 0 = .ok (.iload_n 1, 1) := by decide +kernel
theorem dJ2_getChars_a1a8b_1 : decode cJ2_getChars_a1a8b 1 = .ok (.iload_n 2, 1) := by decide +kernel
theorem dJ2_getChars_a1a8b_2 : decode cJ2_getChars_a1a8b 2 = .ok (.if_icmp .ge 11, 3) := by decide +kernel
theorem dJ2_getChars_a1a8b_5 : decode cJ2_getChars_a1a8b 5 = .ok (.iload_n 1, 1) := by decide +kernel
theorem dJ2_getChars_a1a8b_6 : decode cJ2_getChars_a1a8b 6 = .ok (.iload_n 2, 1) := by decide +kernel
theorem dJ2_getChars_a1a8b_7 : decode cJ2_getChars_a1a8b 7 = .ok (.iload_n 1, 1) := by decide +kernel
theorem dJ2_getChars_a1a8b_8 : decode cJ2_getChars_a1a8b 8 = .ok (.isub, 1) := by decide +kernel
theorem dJ2_getChars_a1a8b_9 : decode cJ2_getChars_a1a8b 9 = .ok (.aload_n 0, 1) := by decide +kernel
theorem dJ2_getChars_a1a8b_10 : decode cJ2_getChars_a1a8b 10 = .ok (.invokestatic 173, 3) := by decide +kernel
theorem dJ2_getChars_a1a8b_13 : decode cJ2_getChars_a1a8b 13 = .ok (.iload_n 1, 1) := by decide +kernel
theorem dJ2_getChars_a1a8b_14 : decode cJ2_getChars_a1a8b 14 = .ok (.istore 5, 2) := by decide +kernel
theorem dJ2_getChars_a1a8b_16 : decode cJ2_getChars_a1a8b 16 = .ok (.iload 5, 2) := by decide +kernel
theorem dJ2_getChars_a1a8b_18 : decode cJ2_getChars_a1a8b 18 = .ok (.iload_n 2, 1) := by decide +kernel
theorem dJ2_getChars_a1a8b_19 : decode cJ2_getChars_a1a8b 19 = .ok (.if_icmp .ge 22, 3) := by decide +kernel
theorem dJ2_getChars_a1a8b_22 : decode cJ2_getChars_a1a8b 22 = .ok (.aload_n 3, 1) := by decide +kernel
theorem dJ2_getChars_a1a8b_23 : decode cJ2_getChars_a1a8b 23 = .ok (.iload 4, 2) := by decide +kernel
theorem dJ2_getChars_a1a8b_25 : decode cJ2_getChars_a1a8b 25 = .ok (.iinc 4 1, 3) := by decide +kernel
theorem dJ2_getChars_a1a8b_28 : decode cJ2_getChars_a1a8b 28 = .ok (.aload_n 0, 1) := by decide +kernel
theorem dJ2_getChars_a1a8b_29 : decode cJ2_getChars_a1a8b 29 = .ok (.iload 5, 2) := by decide +kernel
theorem dJ2_getChars_a1a8b_31 : decode cJ2_getChars_a1a8b 31 = .ok (.invokestatic 71, 3) := by decide +kernel
theorem dJ2_getChars_a1a8b_34 : decode cJ2_getChars_a1a8b 34 = .ok (.castore, 1) := by decide +kernel
theorem dJ2_getChars_a1a8b_35 : decode cJ2_getChars_a1a8b 35 = .ok (.iinc 5 1, 3) := by decide +kernel
theorem dJ2_getChars_a1a8b_38 : decode cJ2_getChars_a1a8b 38 = .ok (.goto (-22), 3) := by decide +kernel
theorem dJ2_getChars_a1a8b_41 : decode cJ2_getChars_a1a8b 41 = .ok (.return_, 1) := by decide +kernel
set_option maxRecDepth 20000 in
theorem ggJ2_checkBoundsOffCount_d044e_J2_length_9d52b : GoodIn wsJ2_checkBoundsOffCount_d044e wsJ2_length_9d52b := goodIn_r _ [4] (by decide +kernel) (by decide +kernel)
set_option maxRecDepth 20000 in
theorem gJ2_checkBoundsOffCount_d044e_J2_length_9d52b : GoodIn wsJ2_checkBoundsOffCount_d044e (va_wsS RJ2 48 yJ2_length_9d52b wsJ2_length_9d52b) := goodIn_app (goodIn_of _ (by decide +kernel)) ggJ2_checkBoundsOffCount_d044e_J2_length_9d52b
set_option maxRecDepth 20000 in
theorem ggJ2_checkBoundsOffCount_d044e_J0_checkBoundsOffCount_cabcc : GoodIn wsJ2_checkBoundsOffCount_d044e wsJ0_checkBoundsOffCount_cabcc := goodIn_r _ [8, 9, 10, 11, 12, 13] (by decide +kernel) (by decide +kernel)
set_option maxRecDepth 20000 in
theorem gJ2_checkBoundsOffCount_d044e_J0_checkBoundsOffCount_cabcc : GoodIn wsJ2_checkBoundsOffCount_d044e (va_wsS RJ2 419 yJ0_checkBoundsOffCount_cabcc wsJ0_checkBoundsOffCount_cabcc) := goodIn_app (goodIn_of _ (by decide +kernel)) ggJ2_checkBoundsOffCount_d044e_J0_checkBoundsOffCount_cabcc
theorem dJ2_checkBoundsOffCount_d044e_0 : decode cJ2_checkBoundsOffCount_d044e 0 = .ok (.iload_n 0, 1) := by decide +kernel
theorem dJ2_checkBoundsOffCount_d044e_1 : decode cJ2_checkBoundsOffCount_d044e 1 = .ok (.iload_n 1, 1) := by decide +kernel
theorem dJ2_checkBoundsOffCount_d044e_2 : decode cJ2_checkBoundsOffCount_d044e 2 = .ok (.aload_n 2, 1) := by decide +kernel
theorem dJ2_checkBoundsOffCount_d044e_3 : decode cJ2_checkBoundsOffCount_d044e 3 = .ok (.invokestatic 48, 3) := by decide +kernel
theorem dJ2_checkBoundsOffCount_d044e_6 : decode cJ2_checkBoundsOffCount_d044e 6 = .ok (.invokestatic 419, 3) := by decide +kernel
theorem dJ2_checkBoundsOffCount_d044e_9 : decode cJ2_checkBoundsOffCount_d044e 9 = .ok (.pop, 1) := by decide +kernel
theorem dJ2_checkBoundsOffCount_d044e_10 : decode cJ2_checkBoundsOffCount_d044e 10 = .ok (.return_, 1) := by decide +kernel
theorem dJ3_checkFromIndexSize_8c36e_0 : decode cJ3_checkFromIndexSize_8c36e 0 = .ok (.iload_n 2, 1) := by decide +kernel
theorem dJ3_checkFromIndexSize_8c36e_1 : decode cJ3_checkFromIndexSize_8c36e 1 = .ok (.iload_n 0, 1) := by decide +kernel
theorem dJ3_checkFromIndexSize_8c36e_2 : decode cJ3_checkFromIndexSize_8c36e 2 = .ok (.ior, 1) := by decide +kernel
theorem dJ3_checkFromIndexSize_8c36e_3 : decode cJ3_checkFromIndexSize_8c36e 3 = .ok (.iload_n 1, 1) := by decide +kernel
theorem dJ3_checkFromIndexSize_8c36e_4 : decode cJ3_checkFromIndexSize_8c36e 4 = .ok (.ior, 1) := by decide +kernel
theorem dJ3_checkFromIndexSize_8c36e_5 : decode cJ3_checkFromIndexSize_8c36e 5 = .ok (.ifCond .lt 10, 3) := by decide +kernel
theorem dJ3_checkFromIndexSize_8c36e_8 : decode cJ3_checkFromIndexSize_8c36e 8 = .ok (.iload_n 1, 1) := by decide +kernel
theorem dJ3_checkFromIndexSize_8c36e_9 : decode cJ3_checkFromIndexSize_8c36e 9 = .ok (.iload_n 2, 1) := by decide +kernel
theorem dJ3_checkFromIndexSize_8c36e_10 : decode cJ3_checkFromIndexSize_8c36e 10 = .ok (.iload_n 0, 1) := by decide +kernel
theorem dJ3_checkFromIndexSize_8c36e_11 : decode cJ3_checkFromIndexSize_8c36e 11 = .ok (.isub, 1) := by decide +kernel
theorem dJ3_checkFromIndexSize_8c36e_12 : decode cJ3_checkFromIndexSize_8c36e 12 = .ok (.if_icmp .le 11, 3) := by decide +kernel
theorem dJ3_checkFromIndexSize_8c36e_15 : decode cJ3_checkFromIndexSize_8c36e 15 = .ok (.aload_n 3, 1) := by decide +kernel
theorem dJ3_checkFromIndexSize_8c36e_16 : decode cJ3_checkFromIndexSize_8c36e 16 = .ok (.iload_n 0, 1) := by decide +kernel
theorem dJ3_checkFromIndexSize_8c36e_17 : decode cJ3_checkFromIndexSize_8c36e 17 = .ok (.iload_n 1, 1) := by decide +kernel
theorem dJ3_checkFromIndexSize_8c36e_18 : decode cJ3_checkFromIndexSize_8c36e 18 = .ok (.iload_n 2, 1) := by decide +kernel
theorem dJ3_checkFromIndexSize_8c36e_19 : decode cJ3_checkFromIndexSize_8c36e 19 = .ok (.invokestatic 103, 3) := by decide +kernel
theorem dJ3_checkFromIndexSize_8c36e_22 : decode cJ3_checkFromIndexSize_8c36e 22 = .ok (.athrow, 1) := by decide +kernel
theorem dJ3_checkFromIndexSize_8c36e_23 : decode cJ3_checkFromIndexSize_8c36e 23 = .ok (.iload_n 0, 1) := by decide +kernel
theorem dJ3_checkFromIndexSize_8c36e_24 : decode cJ3_checkFromIndexSize_8c36e 24 = .ok (.ireturn, 1) := by decide +kernel
set_option maxRecDepth 20000 in
theorem ggL_law_X5_init : GoodIn wsL_law wsX5_init := goodIn_r _ [8, 9, 10, 11, 12, 13, 14, 15, 16, 17, 18, 19, 20, 21, 22, 23, 24, 25, 26, 27, 28, 29, 30, 31, 32, 33, 34, 35, 36, 37, 38, 39, 40, 41, 42, 2, 43, 44, 45, 46, 47, 48, 49, 50, 51, 52, 53, 54, 55, 56, 57, 58, 59, 60, 61, 62, 63, 64, 65, 66, 67, 68, 69, 70, 71, 72, 73, 74, 75, 76, 77, 78, 79, 80, 81, 82, 83, 84, 85, 86, 87, 88, 89, 90, 91, 92, 93, 94, 95, 96, 97, 98, 99, 100, 101, 102, 103, 104, 105, 106, 107, 108, 109, 110, 111, 112, 113, 114, 115, 116, 117, 118, 119, 120, 121, 122, 123, 124, 125, 126, 127, 128, 129, 130, 131, 132, 133, 134, 135, 136, 137, 138, 139, 140, 141, 142, 143, 144, 145, 146, 147, 148, 149, 150, 151, 152, 153, 154, 155, 156, 157, 158, 159, 160, 161, 162, 163, 164, 165, 166, 167, 168, 169, 170, 171, 172, 173, 174, 175, 176, 177, 178, 179, 180, 181, 182, 183, 184, 185, 186, 187, 188, 189, 190, 191, 192, 814, 815, 816, 817, 818, 819, 820, 821, 822, 844, 845, 846, 847, 848, 849, 850, 851, 852, 853, 854, 855, 856, 857, 858, 859, 860, 861, 862] (by decide +kernel) (by decide +kernel)
set_option maxRecDepth 20000 in
theorem gL_law_X5_init : GoodIn wsL_law (wsX5_init) := ggL_law_X5_init
set_option maxRecDepth 20000 in
theorem ggL_law_X6_init : GoodIn wsL_law wsX6_init := goodIn_r _ [195, 196, 10, 11, 39, 197, 198, 199, 200, 201, 202, 203, 204, 205, 206, 207, 208, 209, 210, 211, 212, 5, 213, 214, 215, 216, 217, 218, 219, 220, 221, 222, 223, 224, 225, 226, 227, 228, 229, 230, 231, 232, 233, 234, 235, 236, 237, 238, 239, 240, 241, 242, 243, 244, 245, 246, 247, 248, 249, 823, 824, 825, 826, 827, 828, 829, 830, 831, 832, 833, 834, 835, 836, 837, 838, 839, 840, 841, 842, 843] (by decide +kernel) (by decide +kernel)
set_option maxRecDepth 20000 in
theorem gL_law_X6_init : GoodIn wsL_law (wsX6_init) := ggL_law_X6_init
set_option maxRecDepth 20000 in
theorem ggL_law_X5_write : GoodIn wsL_law wsX5_write := goodIn_r _ [253, 254, 13, 143, 144, 2, 145, 814, 815, 816, 817, 818, 819, 820, 821, 822] (by decide +kernel) (by decide +kernel)
set_option maxRecDepth 20000 in
theorem gL_law_X5_write : GoodIn wsL_law (wsV RL 13 RX5 yX5_write wsX5_write) := goodIn_app (goodIn_of _ (by decide +kernel)) ggL_law_X5_write
set_option maxRecDepth 20000 in
theorem ggL_law_X6_write : GoodIn wsL_law wsX6_write := goodIn_r _ [258, 259, 201, 260, 261, 5, 262, 823, 824, 825, 826, 827, 828, 829, 830, 831, 832, 833, 834, 835, 836, 837, 838, 839, 840, 841, 842, 843] (by decide +kernel) (by decide +kernel)
set_option maxRecDepth 20000 in
theorem gL_law_X6_write : GoodIn wsL_law (wsV RL 17 RX6 yX6_write wsX6_write) := goodIn_app (goodIn_of _ (by decide +kernel)) ggL_law_X6_write
set_option maxRecDepth 20000 in
theorem ggL_law_X5_wipe : GoodIn wsL_law wsX5_wipe := goodIn_r _ [266, 254, 814, 815, 816, 817, 818, 819, 820, 821, 822] (by decide +kernel) (by decide +kernel)
set_option maxRecDepth 20000 in
theorem gL_law_X5_wipe : GoodIn wsL_law (wsV RL 18 RX5 yX5_wipe wsX5_wipe) := goodIn_app (goodIn_of _ (by decide +kernel)) ggL_law_X5_wipe
set_option maxRecDepth 20000 in
theorem ggL_law_X6_wipe : GoodIn wsL_law wsX6_wipe := goodIn_r _ [270, 259, 823, 824, 825, 826, 827, 828, 829, 830, 831, 832, 833, 834, 835, 836, 837, 838, 839, 840, 841, 842, 843] (by decide +kernel) (by decide +kernel)
set_option maxRecDepth 20000 in
theorem gL_law_X6_wipe : GoodIn wsL_law (wsV RL 22 RX6 yX6_wipe wsX6_wipe) := goodIn_app (goodIn_of _ (by decide +kernel)) ggL_law_X6_wipe
set_option maxRecDepth 20000 in
theorem ggL_law_X5_fault : GoodIn wsL_law wsX5_fault := goodIn_r _ [274, 17, 13, 254, 22, 101, 102, 103, 16, 104, 105, 106, 107, 21, 108, 109, 110, 111, 112, 47, 113, 114, 115, 116, 117, 118, 119, 120, 121, 122, 40, 123, 124, 125, 126, 127, 128, 129, 130, 131, 132, 133, 134, 135, 136, 137, 138, 139, 140, 52, 141, 2, 142, 143, 144, 145, 146, 147, 148, 149, 150, 151, 152, 153, 54, 154, 155, 156, 157, 158, 159, 160, 161, 162, 163, 164, 165, 166, 167, 168, 48, 49, 50, 51, 169, 170, 171, 172, 173, 174, 175, 814, 815, 816, 817, 818, 819, 820, 821, 822, 845, 846, 847, 848, 849, 850, 851, 852, 853, 854, 855, 844] (by decide +kernel) (by decide +kernel)
set_option maxRecDepth 20000 in
theorem gL_law_X5_fault : GoodIn wsL_law (wsV RL 23 RX5 yX5_fault wsX5_fault) := goodIn_app (goodIn_of _ (by decide +kernel)) ggL_law_X5_fault
set_option maxRecDepth 20000 in
theorem ggL_law_X6_fault : GoodIn wsL_law wsX6_fault := goodIn_r _ [278, 279, 259, 210, 211, 212, 5, 213, 203, 209, 280, 281, 282, 283, 284, 285, 286, 287, 201, 288, 289, 290, 291, 202, 292, 293, 294, 295, 296, 297, 298, 260, 261, 262, 299, 300, 301, 302, 303, 304, 305, 306, 214, 215, 216, 217, 218, 219, 220, 307, 308, 309, 310, 823, 824, 825, 826, 827, 828, 829, 830, 831, 832, 833, 834, 835, 836, 837, 838, 839, 840, 841, 842, 843] (by decide +kernel) (by decide +kernel)
set_option maxRecDepth 20000 in
theorem gL_law_X6_fault : GoodIn wsL_law (wsV RL 26 RX6 yX6_fault wsX6_fault) := goodIn_app (goodIn_of _ (by decide +kernel)) ggL_law_X6_fault
set_option maxRecDepth 20000 in
theorem ggL_law_X5_lay : GoodIn wsL_law wsX5_lay := goodIn_r _ [314, 17, 13, 254, 22, 315, 18, 26, 27, 31, 101, 102, 103, 16, 104, 105, 106, 107, 21, 108, 109, 110, 111, 112, 47, 113, 114, 115, 116, 117, 118, 119, 120, 121, 122, 40, 123, 124, 125, 126, 127, 128, 129, 130, 131, 132, 133, 134, 135, 136, 137, 138, 139, 140, 52, 141, 2, 142, 143, 144, 145, 146, 147, 148, 149, 150, 151, 152, 153, 54, 154, 155, 156, 157, 158, 159, 160, 161, 162, 163, 164, 165, 166, 167, 168, 48, 49, 50, 51, 169, 170, 171, 172, 173, 174, 175, 316, 317, 318, 319, 320, 321, 322, 25, 323, 324, 325, 326, 327, 30, 328, 329, 814, 815, 816, 817, 818, 819, 820, 821, 822, 845, 846, 847, 848, 849, 850, 851, 852, 853, 854, 855, 844, 856, 857, 858, 859, 860] (by decide +kernel) (by decide +kernel)
set_option maxRecDepth 20000 in
theorem gL_law_X5_lay : GoodIn wsL_law (wsV RL 27 RX5 yX5_lay wsX5_lay) := goodIn_app (goodIn_of _ (by decide +kernel)) ggL_law_X5_lay
set_option maxRecDepth 20000 in
theorem ggL_law_X6_lay : GoodIn wsL_law wsX6_lay := goodIn_r _ [333, 203, 197, 334, 276, 277, 5, 278, 279, 259, 210, 211, 212, 213, 209, 280, 281, 282, 283, 284, 285, 286, 287, 201, 288, 289, 290, 291, 202, 292, 293, 294, 295, 296, 297, 298, 260, 261, 262, 299, 300, 301, 302, 303, 304, 305, 306, 214, 215, 216, 217, 218, 219, 220, 307, 308, 309, 310, 221, 222, 223, 224, 225, 204, 226, 227, 228, 229, 230, 231, 232, 233, 234, 235, 236, 237, 238, 239, 240, 241, 242, 243, 244, 245, 246, 247, 248, 249, 823, 824, 825, 826, 827, 828, 829, 830, 831, 832, 833, 834, 835, 836, 837, 838, 839, 840, 841, 842, 843] (by decide +kernel) (by decide +kernel)
set_option maxRecDepth 20000 in
theorem gL_law_X6_lay : GoodIn wsL_law (wsV RL 30 RX6 yX6_lay wsX6_lay) := goodIn_app (goodIn_of _ (by decide +kernel)) ggL_law_X6_lay
set_option maxRecDepth 20000 in
theorem ggL_law_X5_saying : GoodIn wsL_law wsX5_saying := goodIn_r _ [338, 18, 339, 340, 341, 342, 343, 344, 345, 147, 148, 21, 149, 110, 346, 347, 348, 349, 54, 146, 158, 2, 159, 350, 351, 352, 353, 155, 156, 157, 111, 354, 151, 152, 153, 109, 154, 814, 815, 816, 817, 818, 819, 820, 821, 822, 845, 846, 847, 848, 849, 850, 851, 852, 853, 854, 855] (by decide +kernel) (by decide +kernel)
set_option maxRecDepth 20000 in
theorem gL_law_X5_saying : GoodIn wsL_law (wsV RL 31 RX5 yX5_saying wsX5_saying) := goodIn_app (goodIn_of _ (by decide +kernel)) ggL_law_X5_saying
set_option maxRecDepth 20000 in
theorem ggL_law_X6_saying : GoodIn wsL_law wsX6_saying := goodIn_r _ [358, 197, 359, 360, 361, 5, 362, 260, 261, 262, 363, 364, 365, 366, 204, 229, 230, 231, 243, 244, 245, 246, 247, 248, 249, 240, 241, 242, 823, 824, 825, 826, 827, 828, 829, 830, 831, 832, 833, 834, 835, 836, 837, 838, 839, 840, 841, 842, 843] (by decide +kernel) (by decide +kernel)
set_option maxRecDepth 20000 in
theorem gL_law_X6_saying : GoodIn wsL_law (wsV RL 35 RX6 yX6_saying wsX6_saying) := goodIn_app (goodIn_of _ (by decide +kernel)) ggL_law_X6_saying
set_option maxRecDepth 20000 in
theorem ggL_law_X5_fact : GoodIn wsL_law wsX5_fact := goodIn_r _ [370, 18, 343, 371, 141, 2, 142, 143, 144, 145, 814, 815, 816, 817, 818, 819, 820, 821, 822, 845, 846, 847, 848, 849, 850, 851, 852, 853, 854, 855] (by decide +kernel) (by decide +kernel)
set_option maxRecDepth 20000 in
theorem gL_law_X5_fact : GoodIn wsL_law (wsV RL 36 RX5 yX5_fact wsX5_fact) := goodIn_app (goodIn_of _ (by decide +kernel)) ggL_law_X5_fact
set_option maxRecDepth 20000 in
theorem ggL_law_X6_fact : GoodIn wsL_law wsX6_fact := goodIn_r _ [375, 197, 376, 377, 5, 378, 260, 261, 262, 823, 824, 825, 826, 827, 828, 829, 830, 831, 832, 833, 834, 835, 836, 837, 838, 839, 840, 841, 842, 843] (by decide +kernel) (by decide +kernel)
set_option maxRecDepth 20000 in
theorem gL_law_X6_fact : GoodIn wsL_law (wsV RL 39 RX6 yX6_fact wsX6_fact) := goodIn_app (goodIn_of _ (by decide +kernel)) ggL_law_X6_fact
set_option maxRecDepth 20000 in
theorem ggL_law_X5_clash : GoodIn wsL_law wsX5_clash := goodIn_r _ [382, 18, 345, 147, 148, 21, 149, 110, 383, 384, 385, 386, 54, 146, 350, 351, 2, 352, 814, 815, 816, 817, 818, 819, 820, 821, 822, 845, 846, 847, 848, 849, 850, 851, 852, 853, 854, 855] (by decide +kernel) (by decide +kernel)
set_option maxRecDepth 20000 in
theorem gL_law_X5_clash : GoodIn wsL_law (wsV RL 40 RX5 yX5_clash wsX5_clash) := goodIn_app (goodIn_of _ (by decide +kernel)) ggL_law_X5_clash
set_option maxRecDepth 20000 in
theorem ggL_law_X6_clash : GoodIn wsL_law wsX6_clash := goodIn_r _ [390, 359, 360, 361, 5, 362, 197, 260, 261, 262, 363, 364, 365, 366, 204, 229, 230, 231, 391, 392, 393, 394, 243, 244, 245, 246, 247, 248, 249, 240, 241, 242, 823, 824, 825, 826, 827, 828, 829, 830, 831, 832, 833, 834, 835, 836, 837, 838, 839, 840, 841, 842, 843] (by decide +kernel) (by decide +kernel)
set_option maxRecDepth 20000 in
theorem gL_law_X6_clash : GoodIn wsL_law (wsV RL 43 RX6 yX6_clash wsX6_clash) := goodIn_app (goodIn_of _ (by decide +kernel)) ggL_law_X6_clash
set_option maxRecDepth 20000 in
theorem ggL_law_X5_pass : GoodIn wsL_law wsX5_pass := goodIn_r _ [398, 26, 18, 399, 143, 144, 2, 145, 400, 401, 402, 25, 403, 181, 324, 404, 405, 406, 407, 408, 317, 318, 21, 319, 109, 110, 111, 112, 47, 48, 49, 50, 51, 52, 54, 409, 410, 411, 412, 413, 414, 415, 416, 146, 147, 148, 149, 150, 151, 152, 153, 154, 155, 156, 157, 158, 159, 417, 418, 419, 420, 421, 422, 423, 424, 425, 384, 385, 386, 426, 427, 428, 429, 814, 815, 816, 817, 818, 819, 820, 821, 822, 845, 846, 847, 848, 849, 850, 851, 852, 853, 854, 855, 856, 857] (by decide +kernel) (by decide +kernel)
set_option maxRecDepth 20000 in
theorem gL_law_X5_pass : GoodIn wsL_law (wsV RL 44 RX5 yX5_pass wsX5_pass) := goodIn_app (goodIn_of _ (by decide +kernel)) ggL_law_X5_pass
set_option maxRecDepth 20000 in
theorem ggL_law_X6_pass : GoodIn wsL_law wsX6_pass := goodIn_r _ [433, 197, 204, 260, 261, 5, 262, 434, 435, 436, 437, 226, 198, 229, 230, 231, 363, 364, 365, 366, 438, 439, 440, 441, 442, 225, 443, 391, 392, 393, 394, 243, 244, 245, 246, 247, 248, 249, 240, 241, 242, 823, 824, 825, 826, 827, 828, 829, 830, 831, 832, 833, 834, 835, 836, 837, 838, 839, 840, 841, 842, 843] (by decide +kernel) (by decide +kernel)
set_option maxRecDepth 20000 in
theorem gL_law_X6_pass : GoodIn wsL_law (wsV RL 47 RX6 yX6_pass wsX6_pass) := goodIn_app (goodIn_of _ (by decide +kernel)) ggL_law_X6_pass
set_option maxRecDepth 20000 in
theorem ggL_law_X5_say : GoodIn wsL_law wsX5_say := goodIn_r _ [447, 18, 315, 26, 448, 160, 2, 161, 143, 144, 145, 162, 163, 164, 400, 401, 402, 25, 403, 181, 324, 404, 405, 406, 407, 408, 317, 318, 21, 319, 109, 110, 111, 112, 47, 48, 49, 50, 51, 52, 54, 449, 166, 167, 168, 169, 170, 171, 172, 173, 174, 175, 814, 815, 816, 817, 818, 819, 820, 821, 822, 845, 846, 847, 848, 849, 850, 851, 852, 853, 854, 855, 856, 857] (by decide +kernel) (by decide +kernel)
set_option maxRecDepth 20000 in
theorem gL_law_X5_say : GoodIn wsL_law (wsV RL 48 RX5 yX5_say wsX5_say) := goodIn_app (goodIn_of _ (by decide +kernel)) ggL_law_X5_say
set_option maxRecDepth 20000 in
theorem ggL_law_X6_say : GoodIn wsL_law wsX6_say := goodIn_r _ [453, 197, 204, 260, 261, 5, 262, 434, 435, 436, 437, 226, 198, 229, 230, 231, 363, 364, 365, 366, 218, 219, 220, 232, 233, 234, 235, 236, 237, 238, 239, 240, 241, 242, 243, 244, 245, 246, 247, 248, 249, 823, 824, 825, 826, 827, 828, 829, 830, 831, 832, 833, 834, 835, 836, 837, 838, 839, 840, 841, 842, 843] (by decide +kernel) (by decide +kernel)
set_option maxRecDepth 20000 in
theorem gL_law_X6_say : GoodIn wsL_law (wsV RL 52 RX6 yX6_say wsX6_say) := goodIn_app (goodIn_of _ (by decide +kernel)) ggL_law_X6_say
set_option maxRecDepth 20000 in
theorem ggL_law_X5_withdraw : GoodIn wsL_law wsX5_withdraw := goodIn_r _ [457, 18, 26, 345, 147, 148, 21, 149, 110, 458, 459, 460, 461, 146, 154, 155, 156, 157, 111, 421, 422, 423, 424, 52, 47, 150, 151, 152, 153, 54, 109, 158, 2, 159, 400, 401, 402, 25, 403, 181, 324, 404, 405, 406, 407, 408, 317, 318, 319, 112, 48, 49, 50, 51, 462, 427, 428, 429, 463, 464, 465, 466, 467, 468, 469, 470, 471, 347, 348, 349, 472, 473, 474, 475, 476, 477, 478, 814, 815, 816, 817, 818, 819, 820, 821, 822, 845, 846, 847, 848, 849, 850, 851, 852, 853, 854, 855, 856, 857] (by decide +kernel) (by decide +kernel)
set_option maxRecDepth 20000 in
theorem gL_law_X5_withdraw : GoodIn wsL_law (wsV RL 53 RX5 yX5_withdraw wsX5_withdraw) := goodIn_app (goodIn_of _ (by decide +kernel)) ggL_law_X5_withdraw
set_option maxRecDepth 20000 in
theorem ggL_law_X6_withdraw : GoodIn wsL_law wsX6_withdraw := goodIn_r _ [482, 197, 204, 359, 360, 361, 5, 362, 260, 261, 262, 363, 364, 365, 366, 229, 230, 231, 483, 484, 485, 486, 225, 240, 241, 242, 434, 435, 436, 437, 226, 198, 487, 488, 489, 490, 491, 492, 493, 494, 495, 496, 497, 823, 824, 825, 826, 827, 828, 829, 830, 831, 832, 833, 834, 835, 836, 837, 838, 839, 840, 841, 842, 843] (by decide +kernel) (by decide +kernel)
set_option maxRecDepth 20000 in
theorem gL_law_X6_withdraw : GoodIn wsL_law (wsV RL 56 RX6 yX6_withdraw wsX6_withdraw) := goodIn_app (goodIn_of _ (by decide +kernel)) ggL_law_X6_withdraw
set_option maxRecDepth 20000 in
theorem ggL_law_X5_turn : GoodIn wsL_law wsX5_turn := goodIn_r _ [501, 26, 18, 371, 141, 2, 142, 143, 144, 145, 400, 401, 402, 25, 403, 181, 324, 404, 405, 406, 407, 408, 317, 318, 21, 319, 109, 110, 111, 112, 47, 48, 49, 50, 51, 52, 54, 502, 138, 139, 140, 146, 147, 148, 149, 150, 151, 152, 153, 154, 155, 156, 157, 158, 159, 463, 464, 465, 466, 467, 468, 469, 470, 471, 347, 348, 349, 472, 473, 474, 475, 476, 477, 478, 814, 815, 816, 817, 818, 819, 820, 821, 822, 856, 857, 845, 846, 847, 848, 849, 850, 851, 852, 853, 854, 855] (by decide +kernel) (by decide +kernel)
set_option maxRecDepth 20000 in
theorem gL_law_X5_turn : GoodIn wsL_law (wsV RL 57 RX5 yX5_turn wsX5_turn) := goodIn_app (goodIn_of _ (by decide +kernel)) ggL_law_X5_turn
set_option maxRecDepth 20000 in
theorem ggL_law_X6_turn : GoodIn wsL_law wsX6_turn := goodIn_r _ [506, 204, 197, 376, 377, 5, 378, 260, 261, 262, 434, 435, 436, 437, 226, 198, 229, 230, 231, 363, 364, 365, 366, 232, 233, 234, 235, 236, 237, 238, 239, 240, 241, 242, 243, 244, 245, 246, 247, 248, 249, 491, 492, 493, 494, 495, 496, 497, 823, 824, 825, 826, 827, 828, 829, 830, 831, 832, 833, 834, 835, 836, 837, 838, 839, 840, 841, 842, 843] (by decide +kernel) (by decide +kernel)
set_option maxRecDepth 20000 in
theorem gL_law_X6_turn : GoodIn wsL_law (wsV RL 60 RX6 yX6_turn wsX6_turn) := goodIn_app (goodIn_of _ (by decide +kernel)) ggL_law_X6_turn
set_option maxRecDepth 20000 in
theorem ggL_law_X5_undo : GoodIn wsL_law wsX5_undo := goodIn_r _ [510, 26, 18, 511, 512, 513, 514, 25, 515, 324, 181, 408, 317, 318, 21, 319, 109, 110, 111, 112, 47, 48, 49, 50, 51, 52, 54, 814, 815, 816, 817, 818, 819, 820, 821, 822, 856, 857, 845, 846, 847, 848, 849, 850, 851, 852, 853, 854, 855] (by decide +kernel) (by decide +kernel)
set_option maxRecDepth 20000 in
theorem gL_law_X5_undo : GoodIn wsL_law (wsV RL 61 RX5 yX5_undo wsX5_undo) := goodIn_app (goodIn_of _ (by decide +kernel)) ggL_law_X5_undo
set_option maxRecDepth 20000 in
theorem ggL_law_X6_undo : GoodIn wsL_law wsX6_undo := goodIn_r _ [519, 226, 197, 198, 229, 230, 5, 231, 823, 824, 825, 826, 827, 828, 829, 830, 831, 832, 833, 834, 835, 836, 837, 838, 839, 840, 841, 842, 843] (by decide +kernel) (by decide +kernel)
set_option maxRecDepth 20000 in
theorem gL_law_X6_undo : GoodIn wsL_law (wsV RL 64 RX6 yX6_undo wsX6_undo) := goodIn_app (goodIn_of _ (by decide +kernel)) ggL_law_X6_undo
set_option maxRecDepth 20000 in
theorem ggL_law_X5_behind : GoodIn wsL_law wsX5_behind := goodIn_r _ [523, 22, 18, 343, 143, 144, 2, 145, 316, 317, 318, 21, 319, 109, 110, 111, 112, 47, 48, 49, 50, 51, 52, 54, 409, 410, 411, 412, 413, 414, 415, 416, 146, 147, 148, 149, 150, 151, 152, 153, 154, 155, 156, 157, 158, 159, 417, 418, 419, 420, 421, 422, 423, 424, 425, 384, 385, 386, 426, 427, 428, 429, 524, 468, 469, 470, 471, 347, 348, 349, 814, 815, 816, 817, 818, 819, 820, 821, 822, 845, 846, 847, 848, 849, 850, 851, 852, 853, 854, 855] (by decide +kernel) (by decide +kernel)
set_option maxRecDepth 20000 in
theorem gL_law_X5_behind : GoodIn wsL_law (wsV RL 65 RX5 yX5_behind wsX5_behind) := goodIn_app (goodIn_of _ (by decide +kernel)) ggL_law_X5_behind
set_option maxRecDepth 20000 in
theorem ggL_law_X6_behind : GoodIn wsL_law wsX6_behind := goodIn_r _ [528, 260, 261, 5, 262, 363, 364, 365, 366, 204, 197, 229, 230, 231, 438, 439, 440, 441, 442, 225, 443, 391, 392, 393, 394, 243, 244, 245, 246, 247, 248, 249, 240, 241, 242, 491, 492, 493, 494, 823, 824, 825, 826, 827, 828, 829, 830, 831, 832, 833, 834, 835, 836, 837, 838, 839, 840, 841, 842, 843] (by decide +kernel) (by decide +kernel)
set_option maxRecDepth 20000 in
theorem gL_law_X6_behind : GoodIn wsL_law (wsV RL 68 RX6 yX6_behind wsX6_behind) := goodIn_app (goodIn_of _ (by decide +kernel)) ggL_law_X6_behind
set_option maxRecDepth 20000 in
theorem ggL_law_X5_fall : GoodIn wsL_law wsX5_fall := goodIn_r _ [532, 22, 18, 143, 144, 2, 145, 316, 317, 318, 21, 319, 109, 110, 111, 112, 47, 48, 49, 50, 51, 52, 54, 533, 414, 415, 416, 146, 147, 148, 149, 150, 151, 152, 153, 154, 155, 156, 157, 158, 159, 534, 535, 536, 537, 417, 418, 419, 420, 421, 422, 423, 424, 425, 384, 385, 386, 538, 814, 815, 816, 817, 818, 819, 820, 821, 822, 845, 846, 847, 848, 849, 850, 851, 852, 853, 854, 855] (by decide +kernel) (by decide +kernel)
set_option maxRecDepth 20000 in
theorem gL_law_X5_fall : GoodIn wsL_law (wsV RL 69 RX5 yX5_fall wsX5_fall) := goodIn_app (goodIn_of _ (by decide +kernel)) ggL_law_X5_fall
set_option maxRecDepth 20000 in
theorem ggL_law_X6_fall : GoodIn wsL_law wsX6_fall := goodIn_r _ [542, 442, 260, 261, 5, 262, 363, 364, 365, 366, 204, 197, 229, 230, 231, 438, 439, 440, 441, 225, 443, 391, 392, 393, 394, 243, 244, 245, 246, 247, 248, 249, 240, 241, 242, 823, 824, 825, 826, 827, 828, 829, 830, 831, 832, 833, 834, 835, 836, 837, 838, 839, 840, 841, 842, 843] (by decide +kernel) (by decide +kernel)
set_option maxRecDepth 20000 in
theorem gL_law_X6_fall : GoodIn wsL_law (wsV RL 72 RX6 yX6_fall wsX6_fall) := goodIn_app (goodIn_of _ (by decide +kernel)) ggL_law_X6_fall
set_option maxRecDepth 20000 in
theorem ggL_law_X5_core : GoodIn wsL_law wsX5_core := goodIn_r _ [546, 18, 547, 548, 549, 21, 550, 551, 552, 553, 554, 110, 111, 472, 473, 474, 475, 476, 477, 478, 555, 556, 557, 558, 559, 54, 146, 147, 148, 149, 560, 2, 561, 814, 815, 816, 817, 818, 819, 820, 821, 822, 845, 846, 847, 848, 849, 850, 851, 852, 853, 854, 855] (by decide +kernel) (by decide +kernel)
set_option maxRecDepth 20000 in
theorem gL_law_X5_core : GoodIn wsL_law (wsV RL 73 RX5 yX5_core wsX5_core) := goodIn_app (goodIn_of _ (by decide +kernel)) ggL_law_X5_core
set_option maxRecDepth 20000 in
theorem ggL_law_X6_core : GoodIn wsL_law wsX6_core := goodIn_r _ [565, 197, 566, 567, 568, 5, 569, 205, 363, 364, 365, 366, 204, 229, 230, 231, 570, 571, 572, 573, 236, 237, 238, 239, 240, 241, 242, 243, 244, 245, 246, 247, 248, 249, 495, 496, 497, 574, 575, 576, 577, 823, 824, 825, 826, 827, 828, 829, 830, 831, 832, 833, 834, 835, 836, 837, 838, 839, 840, 841, 842, 843] (by decide +kernel) (by decide +kernel)
set_option maxRecDepth 20000 in
theorem gL_law_X6_core : GoodIn wsL_law (wsV RL 76 RX6 yX6_core wsX6_core) := goodIn_app (goodIn_of _ (by decide +kernel)) ggL_law_X6_core
set_option maxRecDepth 20000 in
theorem ggL_law_X5_cut : GoodIn wsL_law wsX5_cut := goodIn_r _ [581, 18, 582, 583, 584, 21, 585, 551, 552, 553, 554, 110, 111, 472, 473, 474, 475, 476, 477, 478, 555, 556, 557, 558, 559, 54, 146, 147, 148, 149, 560, 2, 561, 814, 815, 816, 817, 818, 819, 820, 821, 822, 845, 846, 847, 848, 849, 850, 851, 852, 853, 854, 855] (by decide +kernel) (by decide +kernel)
set_option maxRecDepth 20000 in
theorem gL_law_X5_cut : GoodIn wsL_law (wsV RL 77 RX5 yX5_cut wsX5_cut) := goodIn_app (goodIn_of _ (by decide +kernel)) ggL_law_X5_cut
set_option maxRecDepth 20000 in
theorem ggL_law_X6_cut : GoodIn wsL_law wsX6_cut := goodIn_r _ [589, 197, 566, 567, 568, 5, 569, 205, 363, 364, 365, 366, 204, 229, 230, 231, 570, 571, 572, 573, 236, 237, 238, 239, 240, 241, 242, 243, 244, 245, 246, 247, 248, 249, 495, 496, 497, 574, 575, 576, 577, 823, 824, 825, 826, 827, 828, 829, 830, 831, 832, 833, 834, 835, 836, 837, 838, 839, 840, 841, 842, 843] (by decide +kernel) (by decide +kernel)
set_option maxRecDepth 20000 in
theorem gL_law_X6_cut : GoodIn wsL_law (wsV RL 80 RX6 yX6_cut wsX6_cut) := goodIn_app (goodIn_of _ (by decide +kernel)) ggL_law_X6_cut
set_option maxRecDepth 20000 in
theorem ggL_law_X5_truest : GoodIn wsL_law wsX5_truest := goodIn_r _ [593, 18, 143, 144, 2, 145, 594, 595, 596, 21, 597, 551, 552, 553, 554, 110, 111, 467, 468, 469, 470, 154, 155, 156, 157, 471, 347, 348, 349, 54, 146, 147, 148, 149, 158, 159, 472, 473, 474, 475, 476, 477, 478, 814, 815, 816, 817, 818, 819, 820, 821, 822, 845, 846, 847, 848, 849, 850, 851, 852, 853, 854, 855] (by decide +kernel) (by decide +kernel)
set_option maxRecDepth 20000 in
theorem gL_law_X5_truest : GoodIn wsL_law (wsV RL 81 RX5 yX5_truest wsX5_truest) := goodIn_app (goodIn_of _ (by decide +kernel)) ggL_law_X5_truest
set_option maxRecDepth 20000 in
theorem ggL_law_X6_truest : GoodIn wsL_law wsX6_truest := goodIn_r _ [601, 205, 260, 261, 5, 262, 566, 567, 568, 569, 363, 364, 365, 366, 204, 197, 229, 230, 231, 570, 571, 572, 573, 236, 237, 238, 239, 240, 241, 242, 243, 244, 245, 246, 247, 248, 249, 495, 496, 497, 823, 824, 825, 826, 827, 828, 829, 830, 831, 832, 833, 834, 835, 836, 837, 838, 839, 840, 841, 842, 843] (by decide +kernel) (by decide +kernel)
set_option maxRecDepth 20000 in
theorem gL_law_X6_truest : GoodIn wsL_law (wsV RL 84 RX6 yX6_truest wsX6_truest) := goodIn_app (goodIn_of _ (by decide +kernel)) ggL_law_X6_truest
set_option maxRecDepth 20000 in
theorem ggL_law_X5_married : GoodIn wsL_law wsX5_married := goodIn_r _ [605, 18, 343, 524, 468, 469, 21, 470, 110, 154, 155, 156, 157, 111, 471, 347, 348, 349, 54, 146, 147, 148, 149, 158, 2, 159, 606, 607, 608, 609, 610, 611, 612, 613, 614, 560, 561, 615, 616, 617, 618, 51, 425, 384, 385, 386, 814, 815, 816, 817, 818, 819, 820, 821, 822, 845, 846, 847, 848, 849, 850, 851, 852, 853, 854, 855] (by decide +kernel) (by decide +kernel)
set_option maxRecDepth 20000 in
theorem gL_law_X5_married : GoodIn wsL_law (wsV RL 85 RX5 yX5_married wsX5_married) := goodIn_app (goodIn_of _ (by decide +kernel)) ggL_law_X5_married
set_option maxRecDepth 20000 in
theorem ggL_law_X6_married : GoodIn wsL_law wsX6_married := goodIn_r _ [622, 206, 363, 364, 365, 5, 366, 204, 197, 229, 230, 231, 491, 492, 493, 494, 240, 241, 242, 623, 624, 625, 626, 391, 392, 393, 394, 243, 244, 245, 246, 247, 248, 249, 823, 824, 825, 826, 827, 828, 829, 830, 831, 832, 833, 834, 835, 836, 837, 838, 839, 840, 841, 842, 843] (by decide +kernel) (by decide +kernel)
set_option maxRecDepth 20000 in
theorem gL_law_X6_married : GoodIn wsL_law (wsV RL 88 RX6 yX6_married wsX6_married) := goodIn_app (goodIn_of _ (by decide +kernel)) ggL_law_X6_married
set_option maxRecDepth 20000 in
theorem ggL_law_X5_trial : GoodIn wsL_law wsX5_trial := goodIn_r _ [630, 35, 18, 343, 143, 144, 2, 145, 631, 632, 633, 34, 634, 192, 191, 635, 468, 469, 21, 470, 110, 154, 155, 156, 157, 111, 471, 347, 348, 349, 54, 146, 147, 148, 149, 158, 159, 636, 473, 474, 475, 476, 477, 478, 637, 638, 639, 640, 641, 611, 612, 613, 642, 643, 644, 645, 646, 647, 648, 649, 650, 651, 652, 653, 654, 655, 656, 657, 814, 815, 816, 817, 818, 819, 820, 821, 822, 845, 846, 847, 848, 849, 850, 851, 852, 853, 854, 855, 861, 862] (by decide +kernel) (by decide +kernel)
set_option maxRecDepth 20000 in
theorem gL_law_X5_trial : GoodIn wsL_law (wsV RL 89 RX5 yX5_trial wsX5_trial) := goodIn_app (goodIn_of _ (by decide +kernel)) ggL_law_X5_trial
set_option maxRecDepth 20000 in
theorem ggL_law_X6_trial : GoodIn wsL_law wsX6_trial := goodIn_r _ [661, 207, 208, 197, 260, 261, 5, 262, 363, 364, 365, 366, 204, 229, 230, 231, 236, 237, 238, 239, 240, 241, 242, 243, 244, 245, 246, 247, 248, 249, 495, 496, 497, 823, 824, 825, 826, 827, 828, 829, 830, 831, 832, 833, 834, 835, 836, 837, 838, 839, 840, 841, 842, 843] (by decide +kernel) (by decide +kernel)
set_option maxRecDepth 20000 in
theorem gL_law_X6_trial : GoodIn wsL_law (wsV RL 92 RX6 yX6_trial wsX6_trial) := goodIn_app (goodIn_of _ (by decide +kernel)) ggL_law_X6_trial
set_option maxRecDepth 20000 in
theorem ggL_law_X5_see : GoodIn wsL_law wsX5_see := goodIn_r _ [665, 18, 31, 345, 147, 148, 21, 149, 110, 666, 667, 668, 30, 669, 329, 185, 187, 814, 815, 816, 817, 818, 819, 820, 821, 822, 845, 846, 847, 848, 849, 850, 851, 852, 853, 854, 855, 858, 859, 860] (by decide +kernel) (by decide +kernel)
set_option maxRecDepth 20000 in
theorem gL_law_X5_see : GoodIn wsL_law (wsV RL 93 RX5 yX5_see wsX5_see) := goodIn_app (goodIn_of _ (by decide +kernel)) ggL_law_X5_see
set_option maxRecDepth 20000 in
theorem ggL_law_X6_see : GoodIn wsL_law wsX6_see := goodIn_r _ [673, 228, 200, 359, 360, 361, 5, 362, 197, 260, 261, 262, 823, 824, 825, 826, 827, 828, 829, 830, 831, 832, 833, 834, 835, 836, 837, 838, 839, 840, 841, 842, 843] (by decide +kernel) (by decide +kernel)
set_option maxRecDepth 20000 in
theorem gL_law_X6_see : GoodIn wsL_law (wsV RL 97 RX6 yX6_see wsX6_see) := goodIn_app (goodIn_of _ (by decide +kernel)) ggL_law_X6_see
set_option maxRecDepth 20000 in
theorem ggL_law_X5_forget : GoodIn wsL_law wsX5_forget := goodIn_r _ [677, 31, 678, 325, 326, 327, 30, 328, 329, 814, 815, 816, 817, 818, 819, 820, 821, 822, 858, 859, 860] (by decide +kernel) (by decide +kernel)
set_option maxRecDepth 20000 in
theorem gL_law_X5_forget : GoodIn wsL_law (wsV RL 98 RX5 yX5_forget wsX5_forget) := goodIn_app (goodIn_of _ (by decide +kernel)) ggL_law_X5_forget
set_option maxRecDepth 20000 in
theorem ggL_law_X6_forget : GoodIn wsL_law wsX6_forget := goodIn_r _ [682, 228, 823, 824, 825, 826, 827, 828, 829, 830, 831, 832, 833, 834, 835, 836, 837, 838, 839, 840, 841, 842, 843] (by decide +kernel) (by decide +kernel)
set_option maxRecDepth 20000 in
theorem gL_law_X6_forget : GoodIn wsL_law (wsV RL 101 RX6 yX6_forget wsX6_forget) := goodIn_app (goodIn_of _ (by decide +kernel)) ggL_law_X6_forget
set_option maxRecDepth 20000 in
theorem ggL_law_X5_worlds : GoodIn wsL_law wsX5_worlds := goodIn_r _ [686, 31, 18, 143, 144, 2, 145, 687, 688, 689, 30, 690, 691, 329, 185, 187, 692, 693, 694, 21, 695, 54, 559, 146, 147, 148, 149, 110, 154, 155, 156, 157, 111, 696, 697, 698, 699, 700, 701, 702, 703, 704, 705, 706, 158, 159, 814, 815, 816, 817, 818, 819, 820, 821, 822, 858, 859, 860, 845, 846, 847, 848, 849, 850, 851, 852, 853, 854, 855] (by decide +kernel) (by decide +kernel)
set_option maxRecDepth 20000 in
theorem gL_law_X5_worlds : GoodIn wsL_law (wsV RL 102 RX5 yX5_worlds wsX5_worlds) := goodIn_app (goodIn_of _ (by decide +kernel)) ggL_law_X5_worlds
set_option maxRecDepth 20000 in
theorem ggL_law_X6_worlds : GoodIn wsL_law wsX6_worlds := goodIn_r _ [710, 260, 261, 5, 262, 363, 364, 365, 366, 204, 197, 229, 230, 231, 711, 712, 713, 714, 228, 200, 236, 237, 238, 239, 240, 241, 242, 243, 244, 245, 246, 247, 248, 249, 823, 824, 825, 826, 827, 828, 829, 830, 831, 832, 833, 834, 835, 836, 837, 838, 839, 840, 841, 842, 843] (by decide +kernel) (by decide +kernel)
set_option maxRecDepth 20000 in
theorem gL_law_X6_worlds : GoodIn wsL_law (wsV RL 105 RX6 yX6_worlds wsX6_worlds) := goodIn_app (goodIn_of _ (by decide +kernel)) ggL_law_X6_worlds
set_option maxRecDepth 20000 in
theorem ggL_law_X5_must : GoodIn wsL_law wsX5_must := goodIn_r _ [718, 31, 18, 371, 141, 2, 142, 143, 144, 145, 687, 688, 689, 30, 690, 691, 329, 185, 187, 692, 693, 694, 21, 695, 54, 559, 146, 147, 148, 149, 110, 154, 155, 156, 157, 111, 172, 173, 174, 175, 171, 814, 815, 816, 817, 818, 819, 820, 821, 822, 858, 859, 860, 845, 846, 847, 848, 849, 850, 851, 852, 853, 854, 855] (by decide +kernel) (by decide +kernel)
set_option maxRecDepth 20000 in
theorem gL_law_X5_must : GoodIn wsL_law (wsV RL 106 RX5 yX5_must wsX5_must) := goodIn_app (goodIn_of _ (by decide +kernel)) ggL_law_X5_must
set_option maxRecDepth 20000 in
theorem ggL_law_X6_must : GoodIn wsL_law wsX6_must := goodIn_r _ [722, 376, 377, 5, 378, 260, 261, 262, 363, 364, 365, 366, 204, 197, 229, 230, 231, 711, 712, 713, 714, 228, 200, 236, 237, 238, 239, 240, 241, 242, 243, 244, 245, 246, 247, 248, 249, 823, 824, 825, 826, 827, 828, 829, 830, 831, 832, 833, 834, 835, 836, 837, 838, 839, 840, 841, 842, 843] (by decide +kernel) (by decide +kernel)
set_option maxRecDepth 20000 in
theorem gL_law_X6_must : GoodIn wsL_law (wsV RL 109 RX6 yX6_must wsX6_must) := goodIn_app (goodIn_of _ (by decide +kernel)) ggL_law_X6_must
set_option maxRecDepth 20000 in
theorem ggL_law_X5_liars : GoodIn wsL_law wsX5_liars := goodIn_r _ [726, 31, 18, 143, 144, 2, 145, 687, 688, 689, 30, 690, 691, 329, 185, 187, 692, 693, 694, 21, 695, 54, 559, 146, 147, 148, 149, 110, 154, 155, 156, 157, 111, 727, 728, 729, 730, 51, 467, 468, 469, 470, 471, 347, 348, 349, 158, 159, 560, 561, 472, 473, 474, 475, 476, 477, 478, 706, 814, 815, 816, 817, 818, 819, 820, 821, 822, 858, 859, 860, 845, 846, 847, 848, 849, 850, 851, 852, 853, 854, 855] (by decide +kernel) (by decide +kernel)
set_option maxRecDepth 20000 in
theorem gL_law_X5_liars : GoodIn wsL_law (wsV RL 110 RX5 yX5_liars wsX5_liars) := goodIn_app (goodIn_of _ (by decide +kernel)) ggL_law_X5_liars
set_option maxRecDepth 20000 in
theorem ggL_law_X6_liars : GoodIn wsL_law wsX6_liars := goodIn_r _ [734, 260, 261, 5, 262, 363, 364, 365, 366, 204, 197, 229, 230, 231, 735, 736, 737, 738, 236, 237, 238, 239, 240, 241, 242, 243, 244, 245, 246, 247, 248, 249, 495, 496, 497, 711, 712, 713, 714, 228, 200, 823, 824, 825, 826, 827, 828, 829, 830, 831, 832, 833, 834, 835, 836, 837, 838, 839, 840, 841, 842, 843] (by decide +kernel) (by decide +kernel)
set_option maxRecDepth 20000 in
theorem gL_law_X6_liars : GoodIn wsL_law (wsV RL 113 RX6 yX6_liars wsX6_liars) := goodIn_app (goodIn_of _ (by decide +kernel)) ggL_law_X6_liars
set_option maxRecDepth 20000 in
theorem ggL_law_X5_chance : GoodIn wsL_law wsX5_chance := goodIn_r _ [742, 18, 343, 143, 144, 2, 145, 524, 468, 469, 21, 470, 110, 154, 155, 156, 157, 111, 471, 347, 348, 349, 54, 146, 147, 148, 149, 158, 159, 743, 473, 474, 475, 476, 477, 478, 744, 745, 746, 747, 748, 749, 750, 751, 752, 814, 815, 816, 817, 818, 819, 820, 821, 822, 845, 846, 847, 848, 849, 850, 851, 852, 853, 854, 855] (by decide +kernel) (by decide +kernel)
set_option maxRecDepth 20000 in
theorem gL_law_X5_chance : GoodIn wsL_law (wsV RL 114 RX5 yX5_chance wsX5_chance) := goodIn_app (goodIn_of _ (by decide +kernel)) ggL_law_X5_chance
set_option maxRecDepth 20000 in
theorem ggL_law_X6_chance : GoodIn wsL_law wsX6_chance := goodIn_r _ [756, 197, 757, 260, 261, 5, 262, 363, 364, 365, 366, 204, 229, 230, 231, 236, 237, 238, 239, 240, 241, 242, 243, 244, 245, 246, 247, 248, 249, 495, 496, 497, 823, 824, 825, 826, 827, 828, 829, 830, 831, 832, 833, 834, 835, 836, 837, 838, 839, 840, 841, 842, 843] (by decide +kernel) (by decide +kernel)
set_option maxRecDepth 20000 in
theorem gL_law_X6_chance : GoodIn wsL_law (wsV RL 118 RX6 yX6_chance wsX6_chance) := goodIn_app (goodIn_of _ (by decide +kernel)) ggL_law_X6_chance
set_option maxRecDepth 20000 in
theorem ggL_law_X5_year : GoodIn wsL_law wsX5_year := goodIn_r _ [761, 22, 18, 143, 144, 2, 145, 316, 317, 318, 21, 319, 109, 110, 111, 112, 47, 48, 49, 50, 51, 52, 54, 762, 763, 764, 765, 766, 767, 768, 769, 770, 771, 772, 138, 139, 140, 141, 142, 146, 147, 148, 149, 150, 151, 152, 153, 154, 155, 156, 157, 158, 159, 773, 459, 460, 461, 421, 422, 423, 424, 426, 427, 428, 429, 409, 410, 411, 412, 413, 414, 415, 416, 417, 418, 419, 420, 425, 384, 385, 386, 463, 464, 465, 466, 467, 468, 469, 470, 471, 347, 348, 349, 472, 473, 474, 475, 476, 477, 478, 814, 815, 816, 817, 818, 819, 820, 821, 822, 845, 846, 847, 848, 849, 850, 851, 852, 853, 854, 855] (by decide +kernel) (by decide +kernel)
set_option maxRecDepth 20000 in
theorem gL_law_X5_year : GoodIn wsL_law (wsV RL 119 RX5 yX5_year wsX5_year) := goodIn_app (goodIn_of _ (by decide +kernel)) ggL_law_X5_year
set_option maxRecDepth 20000 in
theorem ggL_law_X6_year : GoodIn wsL_law wsX6_year := goodIn_r _ [777, 443, 778, 779, 780, 204, 260, 261, 5, 262, 363, 364, 365, 366, 197, 229, 230, 231, 232, 233, 234, 235, 236, 237, 238, 239, 240, 241, 242, 243, 244, 245, 246, 247, 248, 249, 483, 484, 485, 486, 225, 487, 488, 489, 490, 438, 439, 440, 441, 442, 391, 392, 393, 394, 491, 492, 493, 494, 495, 496, 497, 823, 824, 825, 826, 827, 828, 829, 830, 831, 832, 833, 834, 835, 836, 837, 838, 839, 840, 841, 842, 843] (by decide +kernel) (by decide +kernel)
set_option maxRecDepth 20000 in
theorem gL_law_X6_year : GoodIn wsL_law (wsV RL 122 RX6 yX6_year wsX6_year) := goodIn_app (goodIn_of _ (by decide +kernel)) ggL_law_X6_year
set_option maxRecDepth 20000 in
theorem ggL_law_X5_keep : GoodIn wsL_law wsX5_keep := goodIn_r _ [784, 27, 511, 18, 400, 401, 402, 25, 403, 181, 324, 404, 405, 406, 407, 408, 317, 318, 21, 319, 109, 110, 111, 112, 47, 48, 49, 50, 51, 52, 54, 814, 815, 816, 817, 818, 819, 820, 821, 822, 856, 857, 845, 846, 847, 848, 849, 850, 851, 852, 853, 854, 855] (by decide +kernel) (by decide +kernel)
set_option maxRecDepth 20000 in
theorem gL_law_X5_keep : GoodIn wsL_law (wsV RL 123 RX5 yX5_keep wsX5_keep) := goodIn_app (goodIn_of _ (by decide +kernel)) ggL_law_X5_keep
set_option maxRecDepth 20000 in
theorem ggL_law_X6_keep : GoodIn wsL_law wsX6_keep := goodIn_r _ [788, 227, 199, 197, 229, 230, 5, 231, 823, 824, 825, 826, 827, 828, 829, 830, 831, 832, 833, 834, 835, 836, 837, 838, 839, 840, 841, 842, 843] (by decide +kernel) (by decide +kernel)
set_option maxRecDepth 20000 in
theorem gL_law_X6_keep : GoodIn wsL_law (wsV RL 126 RX6 yX6_keep wsX6_keep) := goodIn_app (goodIn_of _ (by decide +kernel)) ggL_law_X6_keep
set_option maxRecDepth 20000 in
theorem ggL_law_X5_back : GoodIn wsL_law wsX5_back := goodIn_r _ [792, 27, 18, 26, 511, 512, 513, 514, 25, 515, 324, 181, 408, 317, 318, 21, 319, 109, 110, 111, 112, 47, 48, 49, 50, 51, 52, 54, 320, 321, 322, 323, 814, 815, 816, 817, 818, 819, 820, 821, 822, 856, 857, 845, 846, 847, 848, 849, 850, 851, 852, 853, 854, 855] (by decide +kernel) (by decide +kernel)
set_option maxRecDepth 20000 in
theorem gL_law_X5_back : GoodIn wsL_law (wsV RL 127 RX5 yX5_back wsX5_back) := goodIn_app (goodIn_of _ (by decide +kernel)) ggL_law_X5_back
set_option maxRecDepth 20000 in
theorem ggL_law_X6_back : GoodIn wsL_law wsX6_back := goodIn_r _ [796, 227, 197, 199, 226, 229, 230, 5, 231, 823, 824, 825, 826, 827, 828, 829, 830, 831, 832, 833, 834, 835, 836, 837, 838, 839, 840, 841, 842, 843] (by decide +kernel) (by decide +kernel)
set_option maxRecDepth 20000 in
theorem gL_law_X6_back : GoodIn wsL_law (wsV RL 130 RX6 yX6_back wsX6_back) := goodIn_app (goodIn_of _ (by decide +kernel)) ggL_law_X6_back
set_option maxRecDepth 20000 in
theorem ggL_law_X5_count : GoodIn wsL_law wsX5_count := goodIn_r _ [800, 18, 315, 801, 399, 343, 31, 678, 26, 511, 27, 254, 743, 473, 474, 475, 476, 477, 478, 463, 464, 465, 21, 466, 109, 467, 468, 469, 470, 110, 154, 155, 156, 157, 111, 471, 347, 348, 349, 54, 146, 147, 148, 149, 158, 2, 159, 472, 802, 803, 804, 805, 421, 422, 423, 424, 52, 47, 150, 151, 152, 153, 351, 352, 814, 815, 816, 817, 818, 819, 820, 821, 822, 845, 846, 847, 848, 849, 850, 851, 852, 853, 854, 855, 858, 859, 860, 856, 857] (by decide +kernel) (by decide +kernel)
set_option maxRecDepth 20000 in
theorem gL_law_X5_count : GoodIn wsL_law (wsV RL 131 RX5 yX5_count wsX5_count) := goodIn_app (goodIn_of _ (by decide +kernel)) ggL_law_X5_count
set_option maxRecDepth 20000 in
theorem ggL_law_X6_count : GoodIn wsL_law wsX6_count := goodIn_r _ [809, 197, 228, 226, 227, 259, 363, 364, 365, 5, 366, 204, 229, 230, 231, 495, 496, 497, 491, 492, 493, 494, 810, 811, 812, 813, 225, 823, 824, 825, 826, 827, 828, 829, 830, 831, 832, 833, 834, 835, 836, 837, 838, 839, 840, 841, 842, 843] (by decide +kernel) (by decide +kernel)
set_option maxRecDepth 20000 in
theorem gL_law_X6_count : GoodIn wsL_law (wsV RL 134 RX6 yX6_count wsX6_count) := goodIn_app (goodIn_of _ (by decide +kernel)) ggL_law_X6_count
theorem dL_law_0 : decode cL_law 0 = .ok (.new 7, 3) := by decide +kernel
theorem dL_law_3 : decode cL_law 3 = .ok (.dup, 1) := by decide +kernel
theorem dL_law_4 : decode cL_law 4 = .ok (.invokespecial 9, 3) := by decide +kernel
theorem dL_law_7 : decode cL_law 7 = .ok (.astore_n 1, 1) := by decide +kernel
theorem dL_law_8 : decode cL_law 8 = .ok (.new 10, 3) := by decide +kernel
theorem dL_law_11 : decode cL_law 11 = .ok (.dup, 1) := by decide +kernel
theorem dL_law_12 : decode cL_law 12 = .ok (.invokespecial 12, 3) := by decide +kernel
theorem dL_law_15 : decode cL_law 15 = .ok (.astore_n 2, 1) := by decide +kernel
theorem dL_law_16 : decode cL_law 16 = .ok (.iconst 0, 1) := by decide +kernel
theorem dL_law_17 : decode cL_law 17 = .ok (.istore_n 3, 1) := by decide +kernel
theorem dL_law_18 : decode cL_law 18 = .ok (.iload_n 3, 1) := by decide +kernel
theorem dL_law_19 : decode cL_law 19 = .ok (.aload_n 0, 1) := by decide +kernel
theorem dL_law_20 : decode cL_law 20 = .ok (.arraylength, 1) := by decide +kernel
theorem dL_law_21 : decode cL_law 21 = .ok (.iconst 5, 1) := by decide +kernel
theorem dL_law_22 : decode cL_law 22 = .ok (.isub, 1) := by decide +kernel
theorem dL_law_23 : decode cL_law 23 = .ok (.if_icmp .gt 840, 3) := by decide +kernel
theorem dL_law_26 : decode cL_law 26 = .ok (.aload_n 0, 1) := by decide +kernel
theorem dL_law_27 : decode cL_law 27 = .ok (.iload_n 3, 1) := by decide +kernel
theorem dL_law_28 : decode cL_law 28 = .ok (.iaload, 1) := by decide +kernel
theorem dL_law_29 : decode cL_law 29 = .ok (.bipush 31, 2) := by decide +kernel
theorem dL_law_31 : decode cL_law 31 = .ok (.iand, 1) := by decide +kernel
theorem dL_law_32 : decode cL_law 32 = .ok (.tableswitch 825 0 28 #[132, 155, 168, 181, 194, 227, 250, 283, 306, 359, 382, 405, 418, 441, 464, 477, 490, 513, 526, 559, 608, 621, 644, 667, 690, 733, 776, 789, 802], 132) := by decide +kernel
theorem dL_law_164 : decode cL_law 164 = .ok (.aload_n 1, 1) := by decide +kernel
theorem dL_law_165 : decode cL_law 165 = .ok (.aload_n 0, 1) := by decide +kernel
theorem dL_law_166 : decode cL_law 166 = .ok (.iload_n 3, 1) := by decide +kernel
theorem dL_law_167 : decode cL_law 167 = .ok (.iconst 1, 1) := by decide +kernel
theorem dL_law_168 : decode cL_law 168 = .ok (.iadd, 1) := by decide +kernel
theorem dL_law_169 : decode cL_law 169 = .ok (.iaload, 1) := by decide +kernel
theorem dL_law_170 : decode cL_law 170 = .ok (.invokevirtual 13, 3) := by decide +kernel
theorem dL_law_173 : decode cL_law 173 = .ok (.aload_n 2, 1) := by decide +kernel
theorem dL_law_174 : decode cL_law 174 = .ok (.aload_n 0, 1) := by decide +kernel
theorem dL_law_175 : decode cL_law 175 = .ok (.iload_n 3, 1) := by decide +kernel
theorem dL_law_176 : decode cL_law 176 = .ok (.iconst 1, 1) := by decide +kernel
theorem dL_law_177 : decode cL_law 177 = .ok (.iadd, 1) := by decide +kernel
theorem dL_law_178 : decode cL_law 178 = .ok (.iaload, 1) := by decide +kernel
theorem dL_law_179 : decode cL_law 179 = .ok (.invokevirtual 17, 3) := by decide +kernel
theorem dL_law_182 : decode cL_law 182 = .ok (.if_icmp .eq 675, 3) := by decide +kernel
theorem dL_law_185 : decode cL_law 185 = .ok (.iconst 0, 1) := by decide +kernel
theorem dL_law_186 : decode cL_law 186 = .ok (.ireturn, 1) := by decide +kernel
theorem dL_law_187 : decode cL_law 187 = .ok (.aload_n 1, 1) := by decide +kernel
theorem dL_law_188 : decode cL_law 188 = .ok (.invokevirtual 18, 3) := by decide +kernel
theorem dL_law_191 : decode cL_law 191 = .ok (.aload_n 2, 1) := by decide +kernel
theorem dL_law_192 : decode cL_law 192 = .ok (.invokevirtual 22, 3) := by decide +kernel
theorem dL_law_195 : decode cL_law 195 = .ok (.if_icmp .eq 662, 3) := by decide +kernel
theorem dL_law_198 : decode cL_law 198 = .ok (.iconst 0, 1) := by decide +kernel
theorem dL_law_199 : decode cL_law 199 = .ok (.ireturn, 1) := by decide +kernel
theorem dL_law_200 : decode cL_law 200 = .ok (.aload_n 1, 1) := by decide +kernel
theorem dL_law_201 : decode cL_law 201 = .ok (.invokevirtual 23, 3) := by decide +kernel
theorem dL_law_204 : decode cL_law 204 = .ok (.aload_n 2, 1) := by decide +kernel
theorem dL_law_205 : decode cL_law 205 = .ok (.invokevirtual 26, 3) := by decide +kernel
theorem dL_law_208 : decode cL_law 208 = .ok (.if_icmp .eq 649, 3) := by decide +kernel
theorem dL_law_211 : decode cL_law 211 = .ok (.iconst 0, 1) := by decide +kernel
theorem dL_law_212 : decode cL_law 212 = .ok (.ireturn, 1) := by decide +kernel
theorem dL_law_213 : decode cL_law 213 = .ok (.aload_n 1, 1) := by decide +kernel
theorem dL_law_214 : decode cL_law 214 = .ok (.invokevirtual 27, 3) := by decide +kernel
theorem dL_law_217 : decode cL_law 217 = .ok (.aload_n 2, 1) := by decide +kernel
theorem dL_law_218 : decode cL_law 218 = .ok (.invokevirtual 30, 3) := by decide +kernel
theorem dL_law_221 : decode cL_law 221 = .ok (.if_icmp .eq 636, 3) := by decide +kernel
theorem dL_law_224 : decode cL_law 224 = .ok (.iconst 0, 1) := by decide +kernel
theorem dL_law_225 : decode cL_law 225 = .ok (.ireturn, 1) := by decide +kernel
theorem dL_law_226 : decode cL_law 226 = .ok (.aload_n 1, 1) := by decide +kernel
theorem dL_law_227 : decode cL_law 227 = .ok (.aload_n 0, 1) := by decide +kernel
theorem dL_law_228 : decode cL_law 228 = .ok (.iload_n 3, 1) := by decide +kernel
theorem dL_law_229 : decode cL_law 229 = .ok (.iconst 1, 1) := by decide +kernel
theorem dL_law_230 : decode cL_law 230 = .ok (.iadd, 1) := by decide +kernel
theorem dL_law_231 : decode cL_law 231 = .ok (.iaload, 1) := by decide +kernel
theorem dL_law_232 : decode cL_law 232 = .ok (.aload_n 0, 1) := by decide +kernel
theorem dL_law_233 : decode cL_law 233 = .ok (.iload_n 3, 1) := by decide +kernel
theorem dL_law_234 : decode cL_law 234 = .ok (.iconst 2, 1) := by decide +kernel
theorem dL_law_235 : decode cL_law 235 = .ok (.iadd, 1) := by decide +kernel
theorem dL_law_236 : decode cL_law 236 = .ok (.iaload, 1) := by decide +kernel
theorem dL_law_237 : decode cL_law 237 = .ok (.invokevirtual 31, 3) := by decide +kernel
theorem dL_law_240 : decode cL_law 240 = .ok (.aload_n 2, 1) := by decide +kernel
theorem dL_law_241 : decode cL_law 241 = .ok (.aload_n 0, 1) := by decide +kernel
theorem dL_law_242 : decode cL_law 242 = .ok (.iload_n 3, 1) := by decide +kernel
theorem dL_law_243 : decode cL_law 243 = .ok (.iconst 1, 1) := by decide +kernel
theorem dL_law_244 : decode cL_law 244 = .ok (.iadd, 1) := by decide +kernel
theorem dL_law_245 : decode cL_law 245 = .ok (.iaload, 1) := by decide +kernel
theorem dL_law_246 : decode cL_law 246 = .ok (.aload_n 0, 1) := by decide +kernel
theorem dL_law_247 : decode cL_law 247 = .ok (.iload_n 3, 1) := by decide +kernel
theorem dL_law_248 : decode cL_law 248 = .ok (.iconst 2, 1) := by decide +kernel
theorem dL_law_249 : decode cL_law 249 = .ok (.iadd, 1) := by decide +kernel
theorem dL_law_250 : decode cL_law 250 = .ok (.iaload, 1) := by decide +kernel
theorem dL_law_251 : decode cL_law 251 = .ok (.invokevirtual 35, 3) := by decide +kernel
theorem dL_law_254 : decode cL_law 254 = .ok (.if_icmp .eq 603, 3) := by decide +kernel
theorem dL_law_257 : decode cL_law 257 = .ok (.iconst 0, 1) := by decide +kernel
theorem dL_law_258 : decode cL_law 258 = .ok (.ireturn, 1) := by decide +kernel
theorem dL_law_259 : decode cL_law 259 = .ok (.aload_n 1, 1) := by decide +kernel
theorem dL_law_260 : decode cL_law 260 = .ok (.aload_n 0, 1) := by decide +kernel
theorem dL_law_261 : decode cL_law 261 = .ok (.iload_n 3, 1) := by decide +kernel
theorem dL_law_262 : decode cL_law 262 = .ok (.iconst 1, 1) := by decide +kernel
theorem dL_law_263 : decode cL_law 263 = .ok (.iadd, 1) := by decide +kernel
theorem dL_law_264 : decode cL_law 264 = .ok (.iaload, 1) := by decide +kernel
theorem dL_law_265 : decode cL_law 265 = .ok (.invokevirtual 36, 3) := by decide +kernel
theorem dL_law_268 : decode cL_law 268 = .ok (.aload_n 2, 1) := by decide +kernel
theorem dL_law_269 : decode cL_law 269 = .ok (.aload_n 0, 1) := by decide +kernel
theorem dL_law_270 : decode cL_law 270 = .ok (.iload_n 3, 1) := by decide +kernel
theorem dL_law_271 : decode cL_law 271 = .ok (.iconst 1, 1) := by decide +kernel
theorem dL_law_272 : decode cL_law 272 = .ok (.iadd, 1) := by decide +kernel
theorem dL_law_273 : decode cL_law 273 = .ok (.iaload, 1) := by decide +kernel
theorem dL_law_274 : decode cL_law 274 = .ok (.invokevirtual 39, 3) := by decide +kernel
theorem dL_law_277 : decode cL_law 277 = .ok (.if_icmp .eq 580, 3) := by decide +kernel
theorem dL_law_280 : decode cL_law 280 = .ok (.iconst 0, 1) := by decide +kernel
theorem dL_law_281 : decode cL_law 281 = .ok (.ireturn, 1) := by decide +kernel
theorem dL_law_282 : decode cL_law 282 = .ok (.aload_n 1, 1) := by decide +kernel
theorem dL_law_283 : decode cL_law 283 = .ok (.aload_n 0, 1) := by decide +kernel
theorem dL_law_284 : decode cL_law 284 = .ok (.iload_n 3, 1) := by decide +kernel
theorem dL_law_285 : decode cL_law 285 = .ok (.iconst 1, 1) := by decide +kernel
theorem dL_law_286 : decode cL_law 286 = .ok (.iadd, 1) := by decide +kernel
theorem dL_law_287 : decode cL_law 287 = .ok (.iaload, 1) := by decide +kernel
theorem dL_law_288 : decode cL_law 288 = .ok (.aload_n 0, 1) := by decide +kernel
theorem dL_law_289 : decode cL_law 289 = .ok (.iload_n 3, 1) := by decide +kernel
theorem dL_law_290 : decode cL_law 290 = .ok (.iconst 2, 1) := by decide +kernel
theorem dL_law_291 : decode cL_law 291 = .ok (.iadd, 1) := by decide +kernel
theorem dL_law_292 : decode cL_law 292 = .ok (.iaload, 1) := by decide +kernel
theorem dL_law_293 : decode cL_law 293 = .ok (.invokevirtual 40, 3) := by decide +kernel
theorem dL_law_296 : decode cL_law 296 = .ok (.aload_n 2, 1) := by decide +kernel
theorem dL_law_297 : decode cL_law 297 = .ok (.aload_n 0, 1) := by decide +kernel
theorem dL_law_298 : decode cL_law 298 = .ok (.iload_n 3, 1) := by decide +kernel
theorem dL_law_299 : decode cL_law 299 = .ok (.iconst 1, 1) := by decide +kernel
theorem dL_law_300 : decode cL_law 300 = .ok (.iadd, 1) := by decide +kernel
theorem dL_law_301 : decode cL_law 301 = .ok (.iaload, 1) := by decide +kernel
theorem dL_law_302 : decode cL_law 302 = .ok (.aload_n 0, 1) := by decide +kernel
theorem dL_law_303 : decode cL_law 303 = .ok (.iload_n 3, 1) := by decide +kernel
theorem dL_law_304 : decode cL_law 304 = .ok (.iconst 2, 1) := by decide +kernel
theorem dL_law_305 : decode cL_law 305 = .ok (.iadd, 1) := by decide +kernel
theorem dL_law_306 : decode cL_law 306 = .ok (.iaload, 1) := by decide +kernel
theorem dL_law_307 : decode cL_law 307 = .ok (.invokevirtual 43, 3) := by decide +kernel
theorem dL_law_310 : decode cL_law 310 = .ok (.if_icmp .eq 547, 3) := by decide +kernel
theorem dL_law_313 : decode cL_law 313 = .ok (.iconst 0, 1) := by decide +kernel
theorem dL_law_314 : decode cL_law 314 = .ok (.ireturn, 1) := by decide +kernel
theorem dL_law_315 : decode cL_law 315 = .ok (.aload_n 1, 1) := by decide +kernel
theorem dL_law_316 : decode cL_law 316 = .ok (.aload_n 0, 1) := by decide +kernel
theorem dL_law_317 : decode cL_law 317 = .ok (.iload_n 3, 1) := by decide +kernel
theorem dL_law_318 : decode cL_law 318 = .ok (.iconst 1, 1) := by decide +kernel
theorem dL_law_319 : decode cL_law 319 = .ok (.iadd, 1) := by decide +kernel
theorem dL_law_320 : decode cL_law 320 = .ok (.iaload, 1) := by decide +kernel
theorem dL_law_321 : decode cL_law 321 = .ok (.invokevirtual 44, 3) := by decide +kernel
theorem dL_law_324 : decode cL_law 324 = .ok (.aload_n 2, 1) := by decide +kernel
theorem dL_law_325 : decode cL_law 325 = .ok (.aload_n 0, 1) := by decide +kernel
theorem dL_law_326 : decode cL_law 326 = .ok (.iload_n 3, 1) := by decide +kernel
theorem dL_law_327 : decode cL_law 327 = .ok (.iconst 1, 1) := by decide +kernel
theorem dL_law_328 : decode cL_law 328 = .ok (.iadd, 1) := by decide +kernel
theorem dL_law_329 : decode cL_law 329 = .ok (.iaload, 1) := by decide +kernel
theorem dL_law_330 : decode cL_law 330 = .ok (.invokevirtual 47, 3) := by decide +kernel
theorem dL_law_333 : decode cL_law 333 = .ok (.if_icmp .eq 524, 3) := by decide +kernel
theorem dL_law_336 : decode cL_law 336 = .ok (.iconst 0, 1) := by decide +kernel
theorem dL_law_337 : decode cL_law 337 = .ok (.ireturn, 1) := by decide +kernel
theorem dL_law_338 : decode cL_law 338 = .ok (.aload_n 1, 1) := by decide +kernel
theorem dL_law_339 : decode cL_law 339 = .ok (.aload_n 0, 1) := by decide +kernel
theorem dL_law_340 : decode cL_law 340 = .ok (.iload_n 3, 1) := by decide +kernel
theorem dL_law_341 : decode cL_law 341 = .ok (.iconst 1, 1) := by decide +kernel
theorem dL_law_342 : decode cL_law 342 = .ok (.iadd, 1) := by decide +kernel
theorem dL_law_343 : decode cL_law 343 = .ok (.iaload, 1) := by decide +kernel
theorem dL_law_344 : decode cL_law 344 = .ok (.aload_n 0, 1) := by decide +kernel
theorem dL_law_345 : decode cL_law 345 = .ok (.iload_n 3, 1) := by decide +kernel
theorem dL_law_346 : decode cL_law 346 = .ok (.iconst 2, 1) := by decide +kernel
theorem dL_law_347 : decode cL_law 347 = .ok (.iadd, 1) := by decide +kernel
theorem dL_law_348 : decode cL_law 348 = .ok (.iaload, 1) := by decide +kernel
theorem dL_law_349 : decode cL_law 349 = .ok (.aload_n 0, 1) := by decide +kernel
theorem dL_law_350 : decode cL_law 350 = .ok (.iload_n 3, 1) := by decide +kernel
theorem dL_law_351 : decode cL_law 351 = .ok (.iconst 3, 1) := by decide +kernel
theorem dL_law_352 : decode cL_law 352 = .ok (.iadd, 1) := by decide +kernel
theorem dL_law_353 : decode cL_law 353 = .ok (.iaload, 1) := by decide +kernel
theorem dL_law_354 : decode cL_law 354 = .ok (.aload_n 0, 1) := by decide +kernel
theorem dL_law_355 : decode cL_law 355 = .ok (.iload_n 3, 1) := by decide +kernel
theorem dL_law_356 : decode cL_law 356 = .ok (.iconst 4, 1) := by decide +kernel
theorem dL_law_357 : decode cL_law 357 = .ok (.iadd, 1) := by decide +kernel
theorem dL_law_358 : decode cL_law 358 = .ok (.iaload, 1) := by decide +kernel
theorem dL_law_359 : decode cL_law 359 = .ok (.invokevirtual 48, 3) := by decide +kernel
theorem dL_law_362 : decode cL_law 362 = .ok (.aload_n 2, 1) := by decide +kernel
theorem dL_law_363 : decode cL_law 363 = .ok (.aload_n 0, 1) := by decide +kernel
theorem dL_law_364 : decode cL_law 364 = .ok (.iload_n 3, 1) := by decide +kernel
theorem dL_law_365 : decode cL_law 365 = .ok (.iconst 1, 1) := by decide +kernel
theorem dL_law_366 : decode cL_law 366 = .ok (.iadd, 1) := by decide +kernel
theorem dL_law_367 : decode cL_law 367 = .ok (.iaload, 1) := by decide +kernel
theorem dL_law_368 : decode cL_law 368 = .ok (.aload_n 0, 1) := by decide +kernel
theorem dL_law_369 : decode cL_law 369 = .ok (.iload_n 3, 1) := by decide +kernel
theorem dL_law_370 : decode cL_law 370 = .ok (.iconst 2, 1) := by decide +kernel
theorem dL_law_371 : decode cL_law 371 = .ok (.iadd, 1) := by decide +kernel
theorem dL_law_372 : decode cL_law 372 = .ok (.iaload, 1) := by decide +kernel
theorem dL_law_373 : decode cL_law 373 = .ok (.aload_n 0, 1) := by decide +kernel
theorem dL_law_374 : decode cL_law 374 = .ok (.iload_n 3, 1) := by decide +kernel
theorem dL_law_375 : decode cL_law 375 = .ok (.iconst 3, 1) := by decide +kernel
theorem dL_law_376 : decode cL_law 376 = .ok (.iadd, 1) := by decide +kernel
theorem dL_law_377 : decode cL_law 377 = .ok (.iaload, 1) := by decide +kernel
theorem dL_law_378 : decode cL_law 378 = .ok (.aload_n 0, 1) := by decide +kernel
theorem dL_law_379 : decode cL_law 379 = .ok (.iload_n 3, 1) := by decide +kernel
theorem dL_law_380 : decode cL_law 380 = .ok (.iconst 4, 1) := by decide +kernel
theorem dL_law_381 : decode cL_law 381 = .ok (.iadd, 1) := by decide +kernel
theorem dL_law_382 : decode cL_law 382 = .ok (.iaload, 1) := by decide +kernel
theorem dL_law_383 : decode cL_law 383 = .ok (.invokevirtual 52, 3) := by decide +kernel
theorem dL_law_386 : decode cL_law 386 = .ok (.if_icmp .eq 471, 3) := by decide +kernel
theorem dL_law_389 : decode cL_law 389 = .ok (.iconst 0, 1) := by decide +kernel
theorem dL_law_390 : decode cL_law 390 = .ok (.ireturn, 1) := by decide +kernel
theorem dL_law_391 : decode cL_law 391 = .ok (.aload_n 1, 1) := by decide +kernel
theorem dL_law_392 : decode cL_law 392 = .ok (.aload_n 0, 1) := by decide +kernel
theorem dL_law_393 : decode cL_law 393 = .ok (.iload_n 3, 1) := by decide +kernel
theorem dL_law_394 : decode cL_law 394 = .ok (.iconst 1, 1) := by decide +kernel
theorem dL_law_395 : decode cL_law 395 = .ok (.iadd, 1) := by decide +kernel
theorem dL_law_396 : decode cL_law 396 = .ok (.iaload, 1) := by decide +kernel
theorem dL_law_397 : decode cL_law 397 = .ok (.invokevirtual 53, 3) := by decide +kernel
theorem dL_law_400 : decode cL_law 400 = .ok (.aload_n 2, 1) := by decide +kernel
theorem dL_law_401 : decode cL_law 401 = .ok (.aload_n 0, 1) := by decide +kernel
theorem dL_law_402 : decode cL_law 402 = .ok (.iload_n 3, 1) := by decide +kernel
theorem dL_law_403 : decode cL_law 403 = .ok (.iconst 1, 1) := by decide +kernel
theorem dL_law_404 : decode cL_law 404 = .ok (.iadd, 1) := by decide +kernel
theorem dL_law_405 : decode cL_law 405 = .ok (.iaload, 1) := by decide +kernel
theorem dL_law_406 : decode cL_law 406 = .ok (.invokevirtual 56, 3) := by decide +kernel
theorem dL_law_409 : decode cL_law 409 = .ok (.if_icmp .eq 448, 3) := by decide +kernel
theorem dL_law_412 : decode cL_law 412 = .ok (.iconst 0, 1) := by decide +kernel
theorem dL_law_413 : decode cL_law 413 = .ok (.ireturn, 1) := by decide +kernel
theorem dL_law_414 : decode cL_law 414 = .ok (.aload_n 1, 1) := by decide +kernel
theorem dL_law_415 : decode cL_law 415 = .ok (.aload_n 0, 1) := by decide +kernel
theorem dL_law_416 : decode cL_law 416 = .ok (.iload_n 3, 1) := by decide +kernel
theorem dL_law_417 : decode cL_law 417 = .ok (.iconst 1, 1) := by decide +kernel
theorem dL_law_418 : decode cL_law 418 = .ok (.iadd, 1) := by decide +kernel
theorem dL_law_419 : decode cL_law 419 = .ok (.iaload, 1) := by decide +kernel
theorem dL_law_420 : decode cL_law 420 = .ok (.invokevirtual 57, 3) := by decide +kernel
theorem dL_law_423 : decode cL_law 423 = .ok (.aload_n 2, 1) := by decide +kernel
theorem dL_law_424 : decode cL_law 424 = .ok (.aload_n 0, 1) := by decide +kernel
theorem dL_law_425 : decode cL_law 425 = .ok (.iload_n 3, 1) := by decide +kernel
theorem dL_law_426 : decode cL_law 426 = .ok (.iconst 1, 1) := by decide +kernel
theorem dL_law_427 : decode cL_law 427 = .ok (.iadd, 1) := by decide +kernel
theorem dL_law_428 : decode cL_law 428 = .ok (.iaload, 1) := by decide +kernel
theorem dL_law_429 : decode cL_law 429 = .ok (.invokevirtual 60, 3) := by decide +kernel
theorem dL_law_432 : decode cL_law 432 = .ok (.if_icmp .eq 425, 3) := by decide +kernel
theorem dL_law_435 : decode cL_law 435 = .ok (.iconst 0, 1) := by decide +kernel
theorem dL_law_436 : decode cL_law 436 = .ok (.ireturn, 1) := by decide +kernel
theorem dL_law_437 : decode cL_law 437 = .ok (.aload_n 1, 1) := by decide +kernel
theorem dL_law_438 : decode cL_law 438 = .ok (.invokevirtual 61, 3) := by decide +kernel
theorem dL_law_441 : decode cL_law 441 = .ok (.aload_n 2, 1) := by decide +kernel
theorem dL_law_442 : decode cL_law 442 = .ok (.invokevirtual 64, 3) := by decide +kernel
theorem dL_law_445 : decode cL_law 445 = .ok (.if_icmp .eq 412, 3) := by decide +kernel
theorem dL_law_448 : decode cL_law 448 = .ok (.iconst 0, 1) := by decide +kernel
theorem dL_law_449 : decode cL_law 449 = .ok (.ireturn, 1) := by decide +kernel
theorem dL_law_450 : decode cL_law 450 = .ok (.aload_n 1, 1) := by decide +kernel
theorem dL_law_451 : decode cL_law 451 = .ok (.aload_n 0, 1) := by decide +kernel
theorem dL_law_452 : decode cL_law 452 = .ok (.iload_n 3, 1) := by decide +kernel
theorem dL_law_453 : decode cL_law 453 = .ok (.iconst 1, 1) := by decide +kernel
theorem dL_law_454 : decode cL_law 454 = .ok (.iadd, 1) := by decide +kernel
theorem dL_law_455 : decode cL_law 455 = .ok (.iaload, 1) := by decide +kernel
theorem dL_law_456 : decode cL_law 456 = .ok (.invokevirtual 65, 3) := by decide +kernel
theorem dL_law_459 : decode cL_law 459 = .ok (.aload_n 2, 1) := by decide +kernel
theorem dL_law_460 : decode cL_law 460 = .ok (.aload_n 0, 1) := by decide +kernel
theorem dL_law_461 : decode cL_law 461 = .ok (.iload_n 3, 1) := by decide +kernel
theorem dL_law_462 : decode cL_law 462 = .ok (.iconst 1, 1) := by decide +kernel
theorem dL_law_463 : decode cL_law 463 = .ok (.iadd, 1) := by decide +kernel
theorem dL_law_464 : decode cL_law 464 = .ok (.iaload, 1) := by decide +kernel
theorem dL_law_465 : decode cL_law 465 = .ok (.invokevirtual 68, 3) := by decide +kernel
theorem dL_law_468 : decode cL_law 468 = .ok (.if_icmp .eq 389, 3) := by decide +kernel
theorem dL_law_471 : decode cL_law 471 = .ok (.iconst 0, 1) := by decide +kernel
theorem dL_law_472 : decode cL_law 472 = .ok (.ireturn, 1) := by decide +kernel
theorem dL_law_473 : decode cL_law 473 = .ok (.aload_n 1, 1) := by decide +kernel
theorem dL_law_474 : decode cL_law 474 = .ok (.aload_n 0, 1) := by decide +kernel
theorem dL_law_475 : decode cL_law 475 = .ok (.iload_n 3, 1) := by decide +kernel
theorem dL_law_476 : decode cL_law 476 = .ok (.iconst 1, 1) := by decide +kernel
theorem dL_law_477 : decode cL_law 477 = .ok (.iadd, 1) := by decide +kernel
theorem dL_law_478 : decode cL_law 478 = .ok (.iaload, 1) := by decide +kernel
theorem dL_law_479 : decode cL_law 479 = .ok (.invokevirtual 69, 3) := by decide +kernel
theorem dL_law_482 : decode cL_law 482 = .ok (.aload_n 2, 1) := by decide +kernel
theorem dL_law_483 : decode cL_law 483 = .ok (.aload_n 0, 1) := by decide +kernel
theorem dL_law_484 : decode cL_law 484 = .ok (.iload_n 3, 1) := by decide +kernel
theorem dL_law_485 : decode cL_law 485 = .ok (.iconst 1, 1) := by decide +kernel
theorem dL_law_486 : decode cL_law 486 = .ok (.iadd, 1) := by decide +kernel
theorem dL_law_487 : decode cL_law 487 = .ok (.iaload, 1) := by decide +kernel
theorem dL_law_488 : decode cL_law 488 = .ok (.invokevirtual 72, 3) := by decide +kernel
theorem dL_law_491 : decode cL_law 491 = .ok (.if_icmp .eq 366, 3) := by decide +kernel
theorem dL_law_494 : decode cL_law 494 = .ok (.iconst 0, 1) := by decide +kernel
theorem dL_law_495 : decode cL_law 495 = .ok (.ireturn, 1) := by decide +kernel
theorem dL_law_496 : decode cL_law 496 = .ok (.aload_n 1, 1) := by decide +kernel
theorem dL_law_497 : decode cL_law 497 = .ok (.invokevirtual 73, 3) := by decide +kernel
theorem dL_law_500 : decode cL_law 500 = .ok (.aload_n 2, 1) := by decide +kernel
theorem dL_law_501 : decode cL_law 501 = .ok (.invokevirtual 76, 3) := by decide +kernel
theorem dL_law_504 : decode cL_law 504 = .ok (.if_icmp .eq 353, 3) := by decide +kernel
theorem dL_law_507 : decode cL_law 507 = .ok (.iconst 0, 1) := by decide +kernel
theorem dL_law_508 : decode cL_law 508 = .ok (.ireturn, 1) := by decide +kernel
theorem dL_law_509 : decode cL_law 509 = .ok (.aload_n 1, 1) := by decide +kernel
theorem dL_law_510 : decode cL_law 510 = .ok (.invokevirtual 77, 3) := by decide +kernel
theorem dL_law_513 : decode cL_law 513 = .ok (.aload_n 2, 1) := by decide +kernel
theorem dL_law_514 : decode cL_law 514 = .ok (.invokevirtual 80, 3) := by decide +kernel
theorem dL_law_517 : decode cL_law 517 = .ok (.if_icmp .eq 340, 3) := by decide +kernel
theorem dL_law_520 : decode cL_law 520 = .ok (.iconst 0, 1) := by decide +kernel
theorem dL_law_521 : decode cL_law 521 = .ok (.ireturn, 1) := by decide +kernel
theorem dL_law_522 : decode cL_law 522 = .ok (.aload_n 1, 1) := by decide +kernel
theorem dL_law_523 : decode cL_law 523 = .ok (.aload_n 0, 1) := by decide +kernel
theorem dL_law_524 : decode cL_law 524 = .ok (.iload_n 3, 1) := by decide +kernel
theorem dL_law_525 : decode cL_law 525 = .ok (.iconst 1, 1) := by decide +kernel
theorem dL_law_526 : decode cL_law 526 = .ok (.iadd, 1) := by decide +kernel
theorem dL_law_527 : decode cL_law 527 = .ok (.iaload, 1) := by decide +kernel
theorem dL_law_528 : decode cL_law 528 = .ok (.invokevirtual 81, 3) := by decide +kernel
theorem dL_law_531 : decode cL_law 531 = .ok (.aload_n 2, 1) := by decide +kernel
theorem dL_law_532 : decode cL_law 532 = .ok (.aload_n 0, 1) := by decide +kernel
theorem dL_law_533 : decode cL_law 533 = .ok (.iload_n 3, 1) := by decide +kernel
theorem dL_law_534 : decode cL_law 534 = .ok (.iconst 1, 1) := by decide +kernel
theorem dL_law_535 : decode cL_law 535 = .ok (.iadd, 1) := by decide +kernel
theorem dL_law_536 : decode cL_law 536 = .ok (.iaload, 1) := by decide +kernel
theorem dL_law_537 : decode cL_law 537 = .ok (.invokevirtual 84, 3) := by decide +kernel
theorem dL_law_540 : decode cL_law 540 = .ok (.if_icmp .eq 317, 3) := by decide +kernel
theorem dL_law_543 : decode cL_law 543 = .ok (.iconst 0, 1) := by decide +kernel
theorem dL_law_544 : decode cL_law 544 = .ok (.ireturn, 1) := by decide +kernel
theorem dL_law_545 : decode cL_law 545 = .ok (.aload_n 1, 1) := by decide +kernel
theorem dL_law_546 : decode cL_law 546 = .ok (.invokevirtual 85, 3) := by decide +kernel
theorem dL_law_549 : decode cL_law 549 = .ok (.aload_n 2, 1) := by decide +kernel
theorem dL_law_550 : decode cL_law 550 = .ok (.invokevirtual 88, 3) := by decide +kernel
theorem dL_law_553 : decode cL_law 553 = .ok (.if_icmp .eq 304, 3) := by decide +kernel
theorem dL_law_556 : decode cL_law 556 = .ok (.iconst 0, 1) := by decide +kernel
theorem dL_law_557 : decode cL_law 557 = .ok (.ireturn, 1) := by decide +kernel
theorem dL_law_558 : decode cL_law 558 = .ok (.aload_n 1, 1) := by decide +kernel
theorem dL_law_559 : decode cL_law 559 = .ok (.aload_n 0, 1) := by decide +kernel
theorem dL_law_560 : decode cL_law 560 = .ok (.iload_n 3, 1) := by decide +kernel
theorem dL_law_561 : decode cL_law 561 = .ok (.iconst 1, 1) := by decide +kernel
theorem dL_law_562 : decode cL_law 562 = .ok (.iadd, 1) := by decide +kernel
theorem dL_law_563 : decode cL_law 563 = .ok (.iaload, 1) := by decide +kernel
theorem dL_law_564 : decode cL_law 564 = .ok (.aload_n 0, 1) := by decide +kernel
theorem dL_law_565 : decode cL_law 565 = .ok (.iload_n 3, 1) := by decide +kernel
theorem dL_law_566 : decode cL_law 566 = .ok (.iconst 2, 1) := by decide +kernel
theorem dL_law_567 : decode cL_law 567 = .ok (.iadd, 1) := by decide +kernel
theorem dL_law_568 : decode cL_law 568 = .ok (.iaload, 1) := by decide +kernel
theorem dL_law_569 : decode cL_law 569 = .ok (.invokevirtual 89, 3) := by decide +kernel
theorem dL_law_572 : decode cL_law 572 = .ok (.aload_n 2, 1) := by decide +kernel
theorem dL_law_573 : decode cL_law 573 = .ok (.aload_n 0, 1) := by decide +kernel
theorem dL_law_574 : decode cL_law 574 = .ok (.iload_n 3, 1) := by decide +kernel
theorem dL_law_575 : decode cL_law 575 = .ok (.iconst 1, 1) := by decide +kernel
theorem dL_law_576 : decode cL_law 576 = .ok (.iadd, 1) := by decide +kernel
theorem dL_law_577 : decode cL_law 577 = .ok (.iaload, 1) := by decide +kernel
theorem dL_law_578 : decode cL_law 578 = .ok (.aload_n 0, 1) := by decide +kernel
theorem dL_law_579 : decode cL_law 579 = .ok (.iload_n 3, 1) := by decide +kernel
theorem dL_law_580 : decode cL_law 580 = .ok (.iconst 2, 1) := by decide +kernel
theorem dL_law_581 : decode cL_law 581 = .ok (.iadd, 1) := by decide +kernel
theorem dL_law_582 : decode cL_law 582 = .ok (.iaload, 1) := by decide +kernel
theorem dL_law_583 : decode cL_law 583 = .ok (.invokevirtual 92, 3) := by decide +kernel
theorem dL_law_586 : decode cL_law 586 = .ok (.if_icmp .eq 271, 3) := by decide +kernel
theorem dL_law_589 : decode cL_law 589 = .ok (.iconst 0, 1) := by decide +kernel
theorem dL_law_590 : decode cL_law 590 = .ok (.ireturn, 1) := by decide +kernel
theorem dL_law_591 : decode cL_law 591 = .ok (.aload_n 1, 1) := by decide +kernel
theorem dL_law_592 : decode cL_law 592 = .ok (.aload_n 0, 1) := by decide +kernel
theorem dL_law_593 : decode cL_law 593 = .ok (.iload_n 3, 1) := by decide +kernel
theorem dL_law_594 : decode cL_law 594 = .ok (.iconst 1, 1) := by decide +kernel
theorem dL_law_595 : decode cL_law 595 = .ok (.iadd, 1) := by decide +kernel
theorem dL_law_596 : decode cL_law 596 = .ok (.iaload, 1) := by decide +kernel
theorem dL_law_597 : decode cL_law 597 = .ok (.aload_n 0, 1) := by decide +kernel
theorem dL_law_598 : decode cL_law 598 = .ok (.iload_n 3, 1) := by decide +kernel
theorem dL_law_599 : decode cL_law 599 = .ok (.iconst 2, 1) := by decide +kernel
theorem dL_law_600 : decode cL_law 600 = .ok (.iadd, 1) := by decide +kernel
theorem dL_law_601 : decode cL_law 601 = .ok (.iaload, 1) := by decide +kernel
theorem dL_law_602 : decode cL_law 602 = .ok (.ifCond .eq 7, 3) := by decide +kernel
theorem dL_law_605 : decode cL_law 605 = .ok (.iconst 1, 1) := by decide +kernel
theorem dL_law_606 : decode cL_law 606 = .ok (.goto 4, 3) := by decide +kernel
theorem dL_law_609 : decode cL_law 609 = .ok (.iconst 0, 1) := by decide +kernel
theorem dL_law_610 : decode cL_law 610 = .ok (.invokevirtual 93, 3) := by decide +kernel
theorem dL_law_613 : decode cL_law 613 = .ok (.aload_n 2, 1) := by decide +kernel
theorem dL_law_614 : decode cL_law 614 = .ok (.aload_n 0, 1) := by decide +kernel
theorem dL_law_615 : decode cL_law 615 = .ok (.iload_n 3, 1) := by decide +kernel
theorem dL_law_616 : decode cL_law 616 = .ok (.iconst 1, 1) := by decide +kernel
theorem dL_law_617 : decode cL_law 617 = .ok (.iadd, 1) := by decide +kernel
theorem dL_law_618 : decode cL_law 618 = .ok (.iaload, 1) := by decide +kernel
theorem dL_law_619 : decode cL_law 619 = .ok (.aload_n 0, 1) := by decide +kernel
theorem dL_law_620 : decode cL_law 620 = .ok (.iload_n 3, 1) := by decide +kernel
theorem dL_law_621 : decode cL_law 621 = .ok (.iconst 2, 1) := by decide +kernel
theorem dL_law_622 : decode cL_law 622 = .ok (.iadd, 1) := by decide +kernel
theorem dL_law_623 : decode cL_law 623 = .ok (.iaload, 1) := by decide +kernel
theorem dL_law_624 : decode cL_law 624 = .ok (.ifCond .eq 7, 3) := by decide +kernel
theorem dL_law_627 : decode cL_law 627 = .ok (.iconst 1, 1) := by decide +kernel
theorem dL_law_628 : decode cL_law 628 = .ok (.goto 4, 3) := by decide +kernel
theorem dL_law_631 : decode cL_law 631 = .ok (.iconst 0, 1) := by decide +kernel
theorem dL_law_632 : decode cL_law 632 = .ok (.invokevirtual 97, 3) := by decide +kernel
theorem dL_law_635 : decode cL_law 635 = .ok (.if_icmp .eq 222, 3) := by decide +kernel
theorem dL_law_638 : decode cL_law 638 = .ok (.iconst 0, 1) := by decide +kernel
theorem dL_law_639 : decode cL_law 639 = .ok (.ireturn, 1) := by decide +kernel
theorem dL_law_640 : decode cL_law 640 = .ok (.aload_n 1, 1) := by decide +kernel
theorem dL_law_641 : decode cL_law 641 = .ok (.invokevirtual 98, 3) := by decide +kernel
theorem dL_law_644 : decode cL_law 644 = .ok (.aload_n 2, 1) := by decide +kernel
theorem dL_law_645 : decode cL_law 645 = .ok (.invokevirtual 101, 3) := by decide +kernel
theorem dL_law_648 : decode cL_law 648 = .ok (.if_icmp .eq 209, 3) := by decide +kernel
theorem dL_law_651 : decode cL_law 651 = .ok (.iconst 0, 1) := by decide +kernel
theorem dL_law_652 : decode cL_law 652 = .ok (.ireturn, 1) := by decide +kernel
theorem dL_law_653 : decode cL_law 653 = .ok (.aload_n 1, 1) := by decide +kernel
theorem dL_law_654 : decode cL_law 654 = .ok (.aload_n 0, 1) := by decide +kernel
theorem dL_law_655 : decode cL_law 655 = .ok (.iload_n 3, 1) := by decide +kernel
theorem dL_law_656 : decode cL_law 656 = .ok (.iconst 1, 1) := by decide +kernel
theorem dL_law_657 : decode cL_law 657 = .ok (.iadd, 1) := by decide +kernel
theorem dL_law_658 : decode cL_law 658 = .ok (.iaload, 1) := by decide +kernel
theorem dL_law_659 : decode cL_law 659 = .ok (.invokevirtual 102, 3) := by decide +kernel
theorem dL_law_662 : decode cL_law 662 = .ok (.aload_n 2, 1) := by decide +kernel
theorem dL_law_663 : decode cL_law 663 = .ok (.aload_n 0, 1) := by decide +kernel
theorem dL_law_664 : decode cL_law 664 = .ok (.iload_n 3, 1) := by decide +kernel
theorem dL_law_665 : decode cL_law 665 = .ok (.iconst 1, 1) := by decide +kernel
theorem dL_law_666 : decode cL_law 666 = .ok (.iadd, 1) := by decide +kernel
theorem dL_law_667 : decode cL_law 667 = .ok (.iaload, 1) := by decide +kernel
theorem dL_law_668 : decode cL_law 668 = .ok (.invokevirtual 105, 3) := by decide +kernel
theorem dL_law_671 : decode cL_law 671 = .ok (.if_icmp .eq 186, 3) := by decide +kernel
theorem dL_law_674 : decode cL_law 674 = .ok (.iconst 0, 1) := by decide +kernel
theorem dL_law_675 : decode cL_law 675 = .ok (.ireturn, 1) := by decide +kernel
theorem dL_law_676 : decode cL_law 676 = .ok (.aload_n 1, 1) := by decide +kernel
theorem dL_law_677 : decode cL_law 677 = .ok (.aload_n 0, 1) := by decide +kernel
theorem dL_law_678 : decode cL_law 678 = .ok (.iload_n 3, 1) := by decide +kernel
theorem dL_law_679 : decode cL_law 679 = .ok (.iconst 1, 1) := by decide +kernel
theorem dL_law_680 : decode cL_law 680 = .ok (.iadd, 1) := by decide +kernel
theorem dL_law_681 : decode cL_law 681 = .ok (.iaload, 1) := by decide +kernel
theorem dL_law_682 : decode cL_law 682 = .ok (.invokevirtual 106, 3) := by decide +kernel
theorem dL_law_685 : decode cL_law 685 = .ok (.aload_n 2, 1) := by decide +kernel
theorem dL_law_686 : decode cL_law 686 = .ok (.aload_n 0, 1) := by decide +kernel
theorem dL_law_687 : decode cL_law 687 = .ok (.iload_n 3, 1) := by decide +kernel
theorem dL_law_688 : decode cL_law 688 = .ok (.iconst 1, 1) := by decide +kernel
theorem dL_law_689 : decode cL_law 689 = .ok (.iadd, 1) := by decide +kernel
theorem dL_law_690 : decode cL_law 690 = .ok (.iaload, 1) := by decide +kernel
theorem dL_law_691 : decode cL_law 691 = .ok (.invokevirtual 109, 3) := by decide +kernel
theorem dL_law_694 : decode cL_law 694 = .ok (.if_icmp .eq 163, 3) := by decide +kernel
theorem dL_law_697 : decode cL_law 697 = .ok (.iconst 0, 1) := by decide +kernel
theorem dL_law_698 : decode cL_law 698 = .ok (.ireturn, 1) := by decide +kernel
theorem dL_law_699 : decode cL_law 699 = .ok (.aload_n 1, 1) := by decide +kernel
theorem dL_law_700 : decode cL_law 700 = .ok (.aload_n 0, 1) := by decide +kernel
theorem dL_law_701 : decode cL_law 701 = .ok (.iload_n 3, 1) := by decide +kernel
theorem dL_law_702 : decode cL_law 702 = .ok (.iconst 1, 1) := by decide +kernel
theorem dL_law_703 : decode cL_law 703 = .ok (.iadd, 1) := by decide +kernel
theorem dL_law_704 : decode cL_law 704 = .ok (.iaload, 1) := by decide +kernel
theorem dL_law_705 : decode cL_law 705 = .ok (.invokevirtual 110, 3) := by decide +kernel
theorem dL_law_708 : decode cL_law 708 = .ok (.aload_n 2, 1) := by decide +kernel
theorem dL_law_709 : decode cL_law 709 = .ok (.aload_n 0, 1) := by decide +kernel
theorem dL_law_710 : decode cL_law 710 = .ok (.iload_n 3, 1) := by decide +kernel
theorem dL_law_711 : decode cL_law 711 = .ok (.iconst 1, 1) := by decide +kernel
theorem dL_law_712 : decode cL_law 712 = .ok (.iadd, 1) := by decide +kernel
theorem dL_law_713 : decode cL_law 713 = .ok (.iaload, 1) := by decide +kernel
theorem dL_law_714 : decode cL_law 714 = .ok (.invokevirtual 113, 3) := by decide +kernel
theorem dL_law_717 : decode cL_law 717 = .ok (.if_icmp .eq 140, 3) := by decide +kernel
theorem dL_law_720 : decode cL_law 720 = .ok (.iconst 0, 1) := by decide +kernel
theorem dL_law_721 : decode cL_law 721 = .ok (.ireturn, 1) := by decide +kernel
theorem dL_law_722 : decode cL_law 722 = .ok (.aload_n 1, 1) := by decide +kernel
theorem dL_law_723 : decode cL_law 723 = .ok (.aload_n 0, 1) := by decide +kernel
theorem dL_law_724 : decode cL_law 724 = .ok (.iload_n 3, 1) := by decide +kernel
theorem dL_law_725 : decode cL_law 725 = .ok (.iconst 1, 1) := by decide +kernel
theorem dL_law_726 : decode cL_law 726 = .ok (.iadd, 1) := by decide +kernel
theorem dL_law_727 : decode cL_law 727 = .ok (.iaload, 1) := by decide +kernel
theorem dL_law_728 : decode cL_law 728 = .ok (.aload_n 0, 1) := by decide +kernel
theorem dL_law_729 : decode cL_law 729 = .ok (.iload_n 3, 1) := by decide +kernel
theorem dL_law_730 : decode cL_law 730 = .ok (.iconst 2, 1) := by decide +kernel
theorem dL_law_731 : decode cL_law 731 = .ok (.iadd, 1) := by decide +kernel
theorem dL_law_732 : decode cL_law 732 = .ok (.iaload, 1) := by decide +kernel
theorem dL_law_733 : decode cL_law 733 = .ok (.aload_n 0, 1) := by decide +kernel
theorem dL_law_734 : decode cL_law 734 = .ok (.iload_n 3, 1) := by decide +kernel
theorem dL_law_735 : decode cL_law 735 = .ok (.iconst 3, 1) := by decide +kernel
theorem dL_law_736 : decode cL_law 736 = .ok (.iadd, 1) := by decide +kernel
theorem dL_law_737 : decode cL_law 737 = .ok (.iaload, 1) := by decide +kernel
theorem dL_law_738 : decode cL_law 738 = .ok (.invokevirtual 114, 3) := by decide +kernel
theorem dL_law_741 : decode cL_law 741 = .ok (.aload_n 2, 1) := by decide +kernel
theorem dL_law_742 : decode cL_law 742 = .ok (.aload_n 0, 1) := by decide +kernel
theorem dL_law_743 : decode cL_law 743 = .ok (.iload_n 3, 1) := by decide +kernel
theorem dL_law_744 : decode cL_law 744 = .ok (.iconst 1, 1) := by decide +kernel
theorem dL_law_745 : decode cL_law 745 = .ok (.iadd, 1) := by decide +kernel
theorem dL_law_746 : decode cL_law 746 = .ok (.iaload, 1) := by decide +kernel
theorem dL_law_747 : decode cL_law 747 = .ok (.aload_n 0, 1) := by decide +kernel
theorem dL_law_748 : decode cL_law 748 = .ok (.iload_n 3, 1) := by decide +kernel
theorem dL_law_749 : decode cL_law 749 = .ok (.iconst 2, 1) := by decide +kernel
theorem dL_law_750 : decode cL_law 750 = .ok (.iadd, 1) := by decide +kernel
theorem dL_law_751 : decode cL_law 751 = .ok (.iaload, 1) := by decide +kernel
theorem dL_law_752 : decode cL_law 752 = .ok (.aload_n 0, 1) := by decide +kernel
theorem dL_law_753 : decode cL_law 753 = .ok (.iload_n 3, 1) := by decide +kernel
theorem dL_law_754 : decode cL_law 754 = .ok (.iconst 3, 1) := by decide +kernel
theorem dL_law_755 : decode cL_law 755 = .ok (.iadd, 1) := by decide +kernel
theorem dL_law_756 : decode cL_law 756 = .ok (.iaload, 1) := by decide +kernel
theorem dL_law_757 : decode cL_law 757 = .ok (.invokevirtual 118, 3) := by decide +kernel
theorem dL_law_760 : decode cL_law 760 = .ok (.if_icmp .eq 97, 3) := by decide +kernel
theorem dL_law_763 : decode cL_law 763 = .ok (.iconst 0, 1) := by decide +kernel
theorem dL_law_764 : decode cL_law 764 = .ok (.ireturn, 1) := by decide +kernel
theorem dL_law_765 : decode cL_law 765 = .ok (.aload_n 1, 1) := by decide +kernel
theorem dL_law_766 : decode cL_law 766 = .ok (.aload_n 0, 1) := by decide +kernel
theorem dL_law_767 : decode cL_law 767 = .ok (.iload_n 3, 1) := by decide +kernel
theorem dL_law_768 : decode cL_law 768 = .ok (.iconst 1, 1) := by decide +kernel
theorem dL_law_769 : decode cL_law 769 = .ok (.iadd, 1) := by decide +kernel
theorem dL_law_770 : decode cL_law 770 = .ok (.iaload, 1) := by decide +kernel
theorem dL_law_771 : decode cL_law 771 = .ok (.aload_n 0, 1) := by decide +kernel
theorem dL_law_772 : decode cL_law 772 = .ok (.iload_n 3, 1) := by decide +kernel
theorem dL_law_773 : decode cL_law 773 = .ok (.iconst 2, 1) := by decide +kernel
theorem dL_law_774 : decode cL_law 774 = .ok (.iadd, 1) := by decide +kernel
theorem dL_law_775 : decode cL_law 775 = .ok (.iaload, 1) := by decide +kernel
theorem dL_law_776 : decode cL_law 776 = .ok (.aload_n 0, 1) := by decide +kernel
theorem dL_law_777 : decode cL_law 777 = .ok (.iload_n 3, 1) := by decide +kernel
theorem dL_law_778 : decode cL_law 778 = .ok (.iconst 3, 1) := by decide +kernel
theorem dL_law_779 : decode cL_law 779 = .ok (.iadd, 1) := by decide +kernel
theorem dL_law_780 : decode cL_law 780 = .ok (.iaload, 1) := by decide +kernel
theorem dL_law_781 : decode cL_law 781 = .ok (.invokevirtual 119, 3) := by decide +kernel
theorem dL_law_784 : decode cL_law 784 = .ok (.aload_n 2, 1) := by decide +kernel
theorem dL_law_785 : decode cL_law 785 = .ok (.aload_n 0, 1) := by decide +kernel
theorem dL_law_786 : decode cL_law 786 = .ok (.iload_n 3, 1) := by decide +kernel
theorem dL_law_787 : decode cL_law 787 = .ok (.iconst 1, 1) := by decide +kernel
theorem dL_law_788 : decode cL_law 788 = .ok (.iadd, 1) := by decide +kernel
theorem dL_law_789 : decode cL_law 789 = .ok (.iaload, 1) := by decide +kernel
theorem dL_law_790 : decode cL_law 790 = .ok (.aload_n 0, 1) := by decide +kernel
theorem dL_law_791 : decode cL_law 791 = .ok (.iload_n 3, 1) := by decide +kernel
theorem dL_law_792 : decode cL_law 792 = .ok (.iconst 2, 1) := by decide +kernel
theorem dL_law_793 : decode cL_law 793 = .ok (.iadd, 1) := by decide +kernel
theorem dL_law_794 : decode cL_law 794 = .ok (.iaload, 1) := by decide +kernel
theorem dL_law_795 : decode cL_law 795 = .ok (.aload_n 0, 1) := by decide +kernel
theorem dL_law_796 : decode cL_law 796 = .ok (.iload_n 3, 1) := by decide +kernel
theorem dL_law_797 : decode cL_law 797 = .ok (.iconst 3, 1) := by decide +kernel
theorem dL_law_798 : decode cL_law 798 = .ok (.iadd, 1) := by decide +kernel
theorem dL_law_799 : decode cL_law 799 = .ok (.iaload, 1) := by decide +kernel
theorem dL_law_800 : decode cL_law 800 = .ok (.invokevirtual 122, 3) := by decide +kernel
theorem dL_law_803 : decode cL_law 803 = .ok (.if_icmp .eq 54, 3) := by decide +kernel
theorem dL_law_806 : decode cL_law 806 = .ok (.iconst 0, 1) := by decide +kernel
theorem dL_law_807 : decode cL_law 807 = .ok (.ireturn, 1) := by decide +kernel
theorem dL_law_808 : decode cL_law 808 = .ok (.aload_n 1, 1) := by decide +kernel
theorem dL_law_809 : decode cL_law 809 = .ok (.invokevirtual 123, 3) := by decide +kernel
theorem dL_law_812 : decode cL_law 812 = .ok (.aload_n 2, 1) := by decide +kernel
theorem dL_law_813 : decode cL_law 813 = .ok (.invokevirtual 126, 3) := by decide +kernel
theorem dL_law_816 : decode cL_law 816 = .ok (.if_icmp .eq 41, 3) := by decide +kernel
theorem dL_law_819 : decode cL_law 819 = .ok (.iconst 0, 1) := by decide +kernel
theorem dL_law_820 : decode cL_law 820 = .ok (.ireturn, 1) := by decide +kernel
theorem dL_law_821 : decode cL_law 821 = .ok (.aload_n 1, 1) := by decide +kernel
theorem dL_law_822 : decode cL_law 822 = .ok (.invokevirtual 127, 3) := by decide +kernel
theorem dL_law_825 : decode cL_law 825 = .ok (.aload_n 2, 1) := by decide +kernel
theorem dL_law_826 : decode cL_law 826 = .ok (.invokevirtual 130, 3) := by decide +kernel
theorem dL_law_829 : decode cL_law 829 = .ok (.if_icmp .eq 28, 3) := by decide +kernel
theorem dL_law_832 : decode cL_law 832 = .ok (.iconst 0, 1) := by decide +kernel
theorem dL_law_833 : decode cL_law 833 = .ok (.ireturn, 1) := by decide +kernel
theorem dL_law_834 : decode cL_law 834 = .ok (.aload_n 1, 1) := by decide +kernel
theorem dL_law_835 : decode cL_law 835 = .ok (.aload_n 0, 1) := by decide +kernel
theorem dL_law_836 : decode cL_law 836 = .ok (.iload_n 3, 1) := by decide +kernel
theorem dL_law_837 : decode cL_law 837 = .ok (.iconst 1, 1) := by decide +kernel
theorem dL_law_838 : decode cL_law 838 = .ok (.iadd, 1) := by decide +kernel
theorem dL_law_839 : decode cL_law 839 = .ok (.iaload, 1) := by decide +kernel
theorem dL_law_840 : decode cL_law 840 = .ok (.invokevirtual 131, 3) := by decide +kernel
theorem dL_law_843 : decode cL_law 843 = .ok (.aload_n 2, 1) := by decide +kernel
theorem dL_law_844 : decode cL_law 844 = .ok (.aload_n 0, 1) := by decide +kernel
theorem dL_law_845 : decode cL_law 845 = .ok (.iload_n 3, 1) := by decide +kernel
theorem dL_law_846 : decode cL_law 846 = .ok (.iconst 1, 1) := by decide +kernel
theorem dL_law_847 : decode cL_law 847 = .ok (.iadd, 1) := by decide +kernel
theorem dL_law_848 : decode cL_law 848 = .ok (.iaload, 1) := by decide +kernel
theorem dL_law_849 : decode cL_law 849 = .ok (.invokevirtual 134, 3) := by decide +kernel
theorem dL_law_852 : decode cL_law 852 = .ok (.if_icmp .eq 5, 3) := by decide +kernel
theorem dL_law_855 : decode cL_law 855 = .ok (.iconst 0, 1) := by decide +kernel
theorem dL_law_856 : decode cL_law 856 = .ok (.ireturn, 1) := by decide +kernel
theorem dL_law_857 : decode cL_law 857 = .ok (.iinc 3 5, 3) := by decide +kernel
theorem dL_law_860 : decode cL_law 860 = .ok (.goto (-842), 3) := by decide +kernel
theorem dL_law_863 : decode cL_law 863 = .ok (.iconst 1, 1) := by decide +kernel
theorem dL_law_864 : decode cL_law 864 = .ok (.ireturn, 1) := by decide +kernel
abbrev vwCl : List vw_C := [(RX0, TX0, 11), (RX1, TX1, 2), (RX2, TX2, 2), (RX3, TX3, 1), (RX4, TX4, 3), (RX5, TX5, 9), (RX6, TX6, 21)]
/-! ===== END printed: names ===== -/
end
section
theorem gg_ok : True := trivial
end
