-- ===== PART A: goes FIRST, ahead of the names: the tables' words, and 'selects' of the private methods out of them =====
/-- a private method of a class that the tables say can be made, by its rows of tables_1 -/
def lw_okq (q : MethodName × Nat) : Prop := (q.1.cls ≠ "java/lang/invoke/MethodHandle" ∧ q.1.cls ≠ "java/lang/invoke/VarHandle") ∧ Cond.instantiable q.1.cls q.2 ∈ tables_1 ∧ Cond.privateMethod q.1 ∈ tables_1 ∧ Cond.instanceMethod q.1 ∈ tables_1
theorem lw_p0 : lw_okq (⟨"PageTree", "addLast", "(IZI)I"⟩, 6) := ⟨⟨by decide +kernel, by decide +kernel⟩, List.mem_of_getElem? (i := 17) (by decide +kernel), List.mem_of_getElem? (i := 224) (by decide +kernel), List.mem_of_getElem? (i := 225) (by decide +kernel)⟩
theorem lw_p1 : lw_okq (⟨"PageTree$Order", "refresh", "()V"⟩, 11) := ⟨⟨by decide +kernel, by decide +kernel⟩, List.mem_of_getElem? (i := 61) (by decide +kernel), List.mem_of_getElem? (i := 300) (by decide +kernel), List.mem_of_getElem? (i := 301) (by decide +kernel)⟩
theorem lw_p2 : lw_okq (⟨"PageTree$Items", "hasSlot", "(II)Z"⟩, 8) := ⟨⟨by decide +kernel, by decide +kernel⟩, List.mem_of_getElem? (i := 25) (by decide +kernel), List.mem_of_getElem? (i := 324) (by decide +kernel), List.mem_of_getElem? (i := 325) (by decide +kernel)⟩
theorem lw_p3 : lw_okq (⟨"PageTree$Mender", "tell", "(II)V"⟩, 10) := ⟨⟨by decide +kernel, by decide +kernel⟩, List.mem_of_getElem? (i := 108) (by decide +kernel), List.mem_of_getElem? (i := 345) (by decide +kernel), List.mem_of_getElem? (i := 346) (by decide +kernel)⟩
theorem lw_p4 : lw_okq (⟨"PageTree$Order", "isTaken", "(I)Z"⟩, 11) := ⟨⟨by decide +kernel, by decide +kernel⟩, List.mem_of_getElem? (i := 61) (by decide +kernel), List.mem_of_getElem? (i := 426) (by decide +kernel), List.mem_of_getElem? (i := 427) (by decide +kernel)⟩
theorem lw_p5 : lw_okq (⟨"PageTree$Items", "dropFromList", "(II)V"⟩, 8) := ⟨⟨by decide +kernel, by decide +kernel⟩, List.mem_of_getElem? (i := 25) (by decide +kernel), List.mem_of_getElem? (i := 477) (by decide +kernel), List.mem_of_getElem? (i := 478) (by decide +kernel)⟩
theorem lw_p6 : lw_okq (⟨"PageTree$Labels", "rangeFrom", "(I)I"⟩, 6) := ⟨⟨by decide +kernel, by decide +kernel⟩, List.mem_of_getElem? (i := 151) (by decide +kernel), List.mem_of_getElem? (i := 510) (by decide +kernel), List.mem_of_getElem? (i := 511) (by decide +kernel)⟩
theorem lw_p7 : lw_okq (⟨"PageTree$Labels", "rangeAround", "(I)I"⟩, 6) := ⟨⟨by decide +kernel, by decide +kernel⟩, List.mem_of_getElem? (i := 151) (by decide +kernel), List.mem_of_getElem? (i := 526) (by decide +kernel), List.mem_of_getElem? (i := 527) (by decide +kernel)⟩
theorem lw_p8 : lw_okq (⟨"PageTree$Labels", "writeDigits", "(I)V"⟩, 6) := ⟨⟨by decide +kernel, by decide +kernel⟩, List.mem_of_getElem? (i := 151) (by decide +kernel), List.mem_of_getElem? (i := 530) (by decide +kernel), List.mem_of_getElem? (i := 531) (by decide +kernel)⟩
theorem lw_p9 : lw_okq (⟨"PageTree$Labels", "writeSign", "(C)V"⟩, 6) := ⟨⟨by decide +kernel, by decide +kernel⟩, List.mem_of_getElem? (i := 151) (by decide +kernel), List.mem_of_getElem? (i := 534) (by decide +kernel), List.mem_of_getElem? (i := 535) (by decide +kernel)⟩
theorem lw_p10 : lw_okq (⟨"PageTree$Labels", "write", "(II)V"⟩, 6) := ⟨⟨by decide +kernel, by decide +kernel⟩, List.mem_of_getElem? (i := 151) (by decide +kernel), List.mem_of_getElem? (i := 538) (by decide +kernel), List.mem_of_getElem? (i := 539) (by decide +kernel)⟩
theorem lw_p11 : lw_okq (⟨"PageTree$Labels", "writeRoman", "(I)V"⟩, 6) := ⟨⟨by decide +kernel, by decide +kernel⟩, List.mem_of_getElem? (i := 151) (by decide +kernel), List.mem_of_getElem? (i := 542) (by decide +kernel), List.mem_of_getElem? (i := 543) (by decide +kernel)⟩
theorem lw_p12 : lw_okq (⟨"PageTree$Labels", "writeSigns", "(Ljava/lang/String;)V"⟩, 6) := ⟨⟨by decide +kernel, by decide +kernel⟩, List.mem_of_getElem? (i := 151) (by decide +kernel), List.mem_of_getElem? (i := 564) (by decide +kernel), List.mem_of_getElem? (i := 565) (by decide +kernel)⟩
theorem lw_p13 : lw_okq (⟨"PageTree$Labels", "writeLetters", "(I)V"⟩, 6) := ⟨⟨by decide +kernel, by decide +kernel⟩, List.mem_of_getElem? (i := 151) (by decide +kernel), List.mem_of_getElem? (i := 616) (by decide +kernel), List.mem_of_getElem? (i := 617) (by decide +kernel)⟩
theorem lw_p14 : lw_okq (⟨"PageTree$Balancer", "raiseRow", "()V"⟩, 3) := ⟨⟨by decide +kernel, by decide +kernel⟩, List.mem_of_getElem? (i := 135) (by decide +kernel), List.mem_of_getElem? (i := 667) (by decide +kernel), List.mem_of_getElem? (i := 668) (by decide +kernel)⟩
theorem lw_p15 : lw_okq (⟨"PageTree$Balancer", "hang", "(III)V"⟩, 3) := ⟨⟨by decide +kernel, by decide +kernel⟩, List.mem_of_getElem? (i := 135) (by decide +kernel), List.mem_of_getElem? (i := 672) (by decide +kernel), List.mem_of_getElem? (i := 673) (by decide +kernel)⟩
def lw_privs_1 : List (MethodName × Nat) := [(⟨"PageTree", "addLast", "(IZI)I"⟩, 6), (⟨"PageTree$Order", "refresh", "()V"⟩, 11), (⟨"PageTree$Items", "hasSlot", "(II)Z"⟩, 8), (⟨"PageTree$Mender", "tell", "(II)V"⟩, 10), (⟨"PageTree$Order", "isTaken", "(I)Z"⟩, 11), (⟨"PageTree$Items", "dropFromList", "(II)V"⟩, 8), (⟨"PageTree$Labels", "rangeFrom", "(I)I"⟩, 6), (⟨"PageTree$Labels", "rangeAround", "(I)I"⟩, 6), (⟨"PageTree$Labels", "writeDigits", "(I)V"⟩, 6), (⟨"PageTree$Labels", "writeSign", "(C)V"⟩, 6), (⟨"PageTree$Labels", "write", "(II)V"⟩, 6), (⟨"PageTree$Labels", "writeRoman", "(I)V"⟩, 6), (⟨"PageTree$Labels", "writeSigns", "(Ljava/lang/String;)V"⟩, 6), (⟨"PageTree$Labels", "writeLetters", "(I)V"⟩, 6), (⟨"PageTree$Balancer", "raiseRow", "()V"⟩, 3), (⟨"PageTree$Balancer", "hang", "(III)V"⟩, 3)]
theorem lw_r1 : ∀ q ∈ lw_privs_1, lw_okq q := List.forall_mem_cons.mpr ⟨lw_p0, List.forall_mem_cons.mpr ⟨lw_p1, List.forall_mem_cons.mpr ⟨lw_p2, List.forall_mem_cons.mpr ⟨lw_p3, List.forall_mem_cons.mpr ⟨lw_p4, List.forall_mem_cons.mpr ⟨lw_p5, List.forall_mem_cons.mpr ⟨lw_p6, List.forall_mem_cons.mpr ⟨lw_p7, List.forall_mem_cons.mpr ⟨lw_p8, List.forall_mem_cons.mpr ⟨lw_p9, List.forall_mem_cons.mpr ⟨lw_p10, List.forall_mem_cons.mpr ⟨lw_p11, List.forall_mem_cons.mpr ⟨lw_p12, List.forall_mem_cons.mpr ⟨lw_p13, List.forall_mem_cons.mpr ⟨lw_p14, List.forall_mem_cons.mpr ⟨lw_p15, fun _ h => absurd h List.not_mem_nil⟩⟩⟩⟩⟩⟩⟩⟩⟩⟩⟩⟩⟩⟩⟩⟩
theorem lw_p16 : lw_okq (⟨"PageTreeModel", "isNode", "(I)Z"⟩, 30) := ⟨⟨by decide +kernel, by decide +kernel⟩, List.mem_of_getElem? (i := 685) (by decide +kernel), List.mem_of_getElem? (i := 786) (by decide +kernel), List.mem_of_getElem? (i := 787) (by decide +kernel)⟩
theorem lw_p17 : lw_okq (⟨"PageTreeModel", "isItem", "(I)Z"⟩, 30) := ⟨⟨by decide +kernel, by decide +kernel⟩, List.mem_of_getElem? (i := 685) (by decide +kernel), List.mem_of_getElem? (i := 790) (by decide +kernel), List.mem_of_getElem? (i := 791) (by decide +kernel)⟩
theorem lw_p18 : lw_okq (⟨"PageTreeModel", "made", "(ZII)I"⟩, 30) := ⟨⟨by decide +kernel, by decide +kernel⟩, List.mem_of_getElem? (i := 685) (by decide +kernel), List.mem_of_getElem? (i := 794) (by decide +kernel), List.mem_of_getElem? (i := 795) (by decide +kernel)⟩
theorem lw_p19 : lw_okq (⟨"PageTreeModel", "append", "(II)V"⟩, 30) := ⟨⟨by decide +kernel, by decide +kernel⟩, List.mem_of_getElem? (i := 685) (by decide +kernel), List.mem_of_getElem? (i := 798) (by decide +kernel), List.mem_of_getElem? (i := 799) (by decide +kernel)⟩
theorem lw_p20 : lw_okq (⟨"PageTreeModel", "valueOf", "(II)I"⟩, 30) := ⟨⟨by decide +kernel, by decide +kernel⟩, List.mem_of_getElem? (i := 685) (by decide +kernel), List.mem_of_getElem? (i := 822) (by decide +kernel), List.mem_of_getElem? (i := 823) (by decide +kernel)⟩
theorem lw_p21 : lw_okq (⟨"PageTreeModel", "walk", "()V"⟩, 30) := ⟨⟨by decide +kernel, by decide +kernel⟩, List.mem_of_getElem? (i := 685) (by decide +kernel), List.mem_of_getElem? (i := 830) (by decide +kernel), List.mem_of_getElem? (i := 831) (by decide +kernel)⟩
theorem lw_p22 : lw_okq (⟨"PageTreeModel", "begin", "()V"⟩, 30) := ⟨⟨by decide +kernel, by decide +kernel⟩, List.mem_of_getElem? (i := 685) (by decide +kernel), List.mem_of_getElem? (i := 834) (by decide +kernel), List.mem_of_getElem? (i := 835) (by decide +kernel)⟩
theorem lw_p23 : lw_okq (⟨"PageTreeModel", "goInto", "(I)V"⟩, 30) := ⟨⟨by decide +kernel, by decide +kernel⟩, List.mem_of_getElem? (i := 685) (by decide +kernel), List.mem_of_getElem? (i := 838) (by decide +kernel), List.mem_of_getElem? (i := 839) (by decide +kernel)⟩
theorem lw_p24 : lw_okq (⟨"PageTreeModel", "goUp", "()V"⟩, 30) := ⟨⟨by decide +kernel, by decide +kernel⟩, List.mem_of_getElem? (i := 685) (by decide +kernel), List.mem_of_getElem? (i := 842) (by decide +kernel), List.mem_of_getElem? (i := 843) (by decide +kernel)⟩
theorem lw_p25 : lw_okq (⟨"PageTreeModel", "takePage", "(I)V"⟩, 30) := ⟨⟨by decide +kernel, by decide +kernel⟩, List.mem_of_getElem? (i := 685) (by decide +kernel), List.mem_of_getElem? (i := 846) (by decide +kernel), List.mem_of_getElem? (i := 847) (by decide +kernel)⟩
theorem lw_p26 : lw_okq (⟨"PageTreeModel", "placeOf", "(I)I"⟩, 30) := ⟨⟨by decide +kernel, by decide +kernel⟩, List.mem_of_getElem? (i := 685) (by decide +kernel), List.mem_of_getElem? (i := 858) (by decide +kernel), List.mem_of_getElem? (i := 859) (by decide +kernel)⟩
theorem lw_p27 : lw_okq (⟨"PageTreeModel", "tell", "(II)V"⟩, 30) := ⟨⟨by decide +kernel, by decide +kernel⟩, List.mem_of_getElem? (i := 685) (by decide +kernel), List.mem_of_getElem? (i := 870) (by decide +kernel), List.mem_of_getElem? (i := 871) (by decide +kernel)⟩
theorem lw_p28 : lw_okq (⟨"PageTreeModel", "mendKid", "(II)Z"⟩, 30) := ⟨⟨by decide +kernel, by decide +kernel⟩, List.mem_of_getElem? (i := 685) (by decide +kernel), List.mem_of_getElem? (i := 874) (by decide +kernel), List.mem_of_getElem? (i := 875) (by decide +kernel)⟩
theorem lw_p29 : lw_okq (⟨"PageTreeModel", "isOnWay", "(I)Z"⟩, 30) := ⟨⟨by decide +kernel, by decide +kernel⟩, List.mem_of_getElem? (i := 685) (by decide +kernel), List.mem_of_getElem? (i := 878) (by decide +kernel), List.mem_of_getElem? (i := 879) (by decide +kernel)⟩
theorem lw_p30 : lw_okq (⟨"PageTreeModel", "takeOff", "(II)V"⟩, 30) := ⟨⟨by decide +kernel, by decide +kernel⟩, List.mem_of_getElem? (i := 685) (by decide +kernel), List.mem_of_getElem? (i := 882) (by decide +kernel), List.mem_of_getElem? (i := 883) (by decide +kernel)⟩
theorem lw_p31 : lw_okq (⟨"PageTreeModel", "listed", "(II)I"⟩, 30) := ⟨⟨by decide +kernel, by decide +kernel⟩, List.mem_of_getElem? (i := 685) (by decide +kernel), List.mem_of_getElem? (i := 894) (by decide +kernel), List.mem_of_getElem? (i := 895) (by decide +kernel)⟩
def lw_privs_2 : List (MethodName × Nat) := [(⟨"PageTreeModel", "isNode", "(I)Z"⟩, 30), (⟨"PageTreeModel", "isItem", "(I)Z"⟩, 30), (⟨"PageTreeModel", "made", "(ZII)I"⟩, 30), (⟨"PageTreeModel", "append", "(II)V"⟩, 30), (⟨"PageTreeModel", "valueOf", "(II)I"⟩, 30), (⟨"PageTreeModel", "walk", "()V"⟩, 30), (⟨"PageTreeModel", "begin", "()V"⟩, 30), (⟨"PageTreeModel", "goInto", "(I)V"⟩, 30), (⟨"PageTreeModel", "goUp", "()V"⟩, 30), (⟨"PageTreeModel", "takePage", "(I)V"⟩, 30), (⟨"PageTreeModel", "placeOf", "(I)I"⟩, 30), (⟨"PageTreeModel", "tell", "(II)V"⟩, 30), (⟨"PageTreeModel", "mendKid", "(II)Z"⟩, 30), (⟨"PageTreeModel", "isOnWay", "(I)Z"⟩, 30), (⟨"PageTreeModel", "takeOff", "(II)V"⟩, 30), (⟨"PageTreeModel", "listed", "(II)I"⟩, 30)]
theorem lw_r2 : ∀ q ∈ lw_privs_2, lw_okq q := List.forall_mem_cons.mpr ⟨lw_p16, List.forall_mem_cons.mpr ⟨lw_p17, List.forall_mem_cons.mpr ⟨lw_p18, List.forall_mem_cons.mpr ⟨lw_p19, List.forall_mem_cons.mpr ⟨lw_p20, List.forall_mem_cons.mpr ⟨lw_p21, List.forall_mem_cons.mpr ⟨lw_p22, List.forall_mem_cons.mpr ⟨lw_p23, List.forall_mem_cons.mpr ⟨lw_p24, List.forall_mem_cons.mpr ⟨lw_p25, List.forall_mem_cons.mpr ⟨lw_p26, List.forall_mem_cons.mpr ⟨lw_p27, List.forall_mem_cons.mpr ⟨lw_p28, List.forall_mem_cons.mpr ⟨lw_p29, List.forall_mem_cons.mpr ⟨lw_p30, List.forall_mem_cons.mpr ⟨lw_p31, fun _ h => absurd h List.not_mem_nil⟩⟩⟩⟩⟩⟩⟩⟩⟩⟩⟩⟩⟩⟩⟩⟩
theorem lw_p32 : lw_okq (⟨"PageTreeModel", "ownAll", "(I)V"⟩, 30) := ⟨⟨by decide +kernel, by decide +kernel⟩, List.mem_of_getElem? (i := 685) (by decide +kernel), List.mem_of_getElem? (i := 898) (by decide +kernel), List.mem_of_getElem? (i := 899) (by decide +kernel)⟩
theorem lw_p33 : lw_okq (⟨"PageTreeModel", "takeOffAll", "(I)V"⟩, 30) := ⟨⟨by decide +kernel, by decide +kernel⟩, List.mem_of_getElem? (i := 685) (by decide +kernel), List.mem_of_getElem? (i := 902) (by decide +kernel), List.mem_of_getElem? (i := 903) (by decide +kernel)⟩
theorem lw_p34 : lw_okq (⟨"PageTreeModel", "putAt", "(III)V"⟩, 30) := ⟨⟨by decide +kernel, by decide +kernel⟩, List.mem_of_getElem? (i := 685) (by decide +kernel), List.mem_of_getElem? (i := 906) (by decide +kernel), List.mem_of_getElem? (i := 907) (by decide +kernel)⟩
theorem lw_p35 : lw_okq (⟨"PageTreeModel", "sayLabel", "(I)V"⟩, 30) := ⟨⟨by decide +kernel, by decide +kernel⟩, List.mem_of_getElem? (i := 685) (by decide +kernel), List.mem_of_getElem? (i := 926) (by decide +kernel), List.mem_of_getElem? (i := 927) (by decide +kernel)⟩
theorem lw_p36 : lw_okq (⟨"PageTreeModel", "sayDigits", "(I)V"⟩, 30) := ⟨⟨by decide +kernel, by decide +kernel⟩, List.mem_of_getElem? (i := 685) (by decide +kernel), List.mem_of_getElem? (i := 930) (by decide +kernel), List.mem_of_getElem? (i := 931) (by decide +kernel)⟩
theorem lw_p37 : lw_okq (⟨"PageTreeModel", "say", "(I)V"⟩, 30) := ⟨⟨by decide +kernel, by decide +kernel⟩, List.mem_of_getElem? (i := 685) (by decide +kernel), List.mem_of_getElem? (i := 934) (by decide +kernel), List.mem_of_getElem? (i := 935) (by decide +kernel)⟩
theorem lw_p38 : lw_okq (⟨"PageTreeModel", "sayRoman", "(I)V"⟩, 30) := ⟨⟨by decide +kernel, by decide +kernel⟩, List.mem_of_getElem? (i := 685) (by decide +kernel), List.mem_of_getElem? (i := 938) (by decide +kernel), List.mem_of_getElem? (i := 939) (by decide +kernel)⟩
theorem lw_p39 : lw_okq (⟨"PageTreeModel", "sayPlace", "(IIII)V"⟩, 30) := ⟨⟨by decide +kernel, by decide +kernel⟩, List.mem_of_getElem? (i := 685) (by decide +kernel), List.mem_of_getElem? (i := 942) (by decide +kernel), List.mem_of_getElem? (i := 943) (by decide +kernel)⟩
theorem lw_p40 : lw_okq (⟨"PageTreeModel", "named", "(I)I"⟩, 30) := ⟨⟨by decide +kernel, by decide +kernel⟩, List.mem_of_getElem? (i := 685) (by decide +kernel), List.mem_of_getElem? (i := 950) (by decide +kernel), List.mem_of_getElem? (i := 951) (by decide +kernel)⟩
theorem lw_p41 : lw_okq (⟨"PageTreeModel", "hang", "(II)V"⟩, 30) := ⟨⟨by decide +kernel, by decide +kernel⟩, List.mem_of_getElem? (i := 685) (by decide +kernel), List.mem_of_getElem? (i := 965) (by decide +kernel), List.mem_of_getElem? (i := 966) (by decide +kernel)⟩
def lw_privs_3 : List (MethodName × Nat) := [(⟨"PageTreeModel", "ownAll", "(I)V"⟩, 30), (⟨"PageTreeModel", "takeOffAll", "(I)V"⟩, 30), (⟨"PageTreeModel", "putAt", "(III)V"⟩, 30), (⟨"PageTreeModel", "sayLabel", "(I)V"⟩, 30), (⟨"PageTreeModel", "sayDigits", "(I)V"⟩, 30), (⟨"PageTreeModel", "say", "(I)V"⟩, 30), (⟨"PageTreeModel", "sayRoman", "(I)V"⟩, 30), (⟨"PageTreeModel", "sayPlace", "(IIII)V"⟩, 30), (⟨"PageTreeModel", "named", "(I)I"⟩, 30), (⟨"PageTreeModel", "hang", "(II)V"⟩, 30)]
theorem lw_r3 : ∀ q ∈ lw_privs_3, lw_okq q := List.forall_mem_cons.mpr ⟨lw_p32, List.forall_mem_cons.mpr ⟨lw_p33, List.forall_mem_cons.mpr ⟨lw_p34, List.forall_mem_cons.mpr ⟨lw_p35, List.forall_mem_cons.mpr ⟨lw_p36, List.forall_mem_cons.mpr ⟨lw_p37, List.forall_mem_cons.mpr ⟨lw_p38, List.forall_mem_cons.mpr ⟨lw_p39, List.forall_mem_cons.mpr ⟨lw_p40, List.forall_mem_cons.mpr ⟨lw_p41, fun _ h => absurd h List.not_mem_nil⟩⟩⟩⟩⟩⟩⟩⟩⟩⟩
def lw_privs : List (MethodName × Nat) := lw_privs_1 ++ (lw_privs_2 ++ (lw_privs_3))
def lw_tbl : List Cond := k2_sels lw_privs ++ tables_1
theorem lw_privs_ok : ∀ q ∈ lw_privs, lw_okq q := by
  show ∀ q ∈ lw_privs_1 ++ (lw_privs_2 ++ (lw_privs_3)), lw_okq q
  exact List.forall_mem_append.mpr ⟨lw_r1, List.forall_mem_append.mpr ⟨lw_r2, lw_r3⟩⟩

abbrev y_PT_init : MethodName := ⟨"PageTree", "<init>", "()V"⟩
abbrev y_PT_about : MethodName := ⟨"PageTree", "about", "(II)I"⟩
abbrev y_PT_addLast : MethodName := ⟨"PageTree", "addLast", "(IZI)I"⟩
abbrev y_PT_at : MethodName := ⟨"PageTree", "at", "(I)I"⟩
abbrev y_PT_balance : MethodName := ⟨"PageTree", "balance", "()I"⟩
abbrev y_PT_copy : MethodName := ⟨"PageTree", "copy", "(I)I"⟩
abbrev y_PT_count : MethodName := ⟨"PageTree", "count", "(I)I"⟩
abbrev y_PT_inherit : MethodName := ⟨"PageTree", "inherit", "(III)I"⟩
abbrev y_PT_isKey : MethodName := ⟨"PageTree", "isKey", "(I)Z"⟩
abbrev y_PT_kid : MethodName := ⟨"PageTree", "kid", "(II)I"⟩
abbrev y_PT_label : MethodName := ⟨"PageTree", "label", "(III)I"⟩
abbrev y_PT_list : MethodName := ⟨"PageTree", "list", "(II)I"⟩
abbrev y_PT_look : MethodName := ⟨"PageTree", "look", "(I)I"⟩
abbrev y_PT_mend : MethodName := ⟨"PageTree", "mend", "()I"⟩
abbrev y_PT_move : MethodName := ⟨"PageTree", "move", "(II)I"⟩
abbrev y_PT_name : MethodName := ⟨"PageTree", "name", "(II)I"⟩
abbrev y_PT_node : MethodName := ⟨"PageTree", "node", "(II)I"⟩
abbrev y_PT_of : MethodName := ⟨"PageTree", "of", "(II)I"⟩
abbrev y_PT_page : MethodName := ⟨"PageTree", "page", "(I)I"⟩
abbrev y_PT_pages : MethodName := ⟨"PageTree", "pages", "()I"⟩
abbrev y_PT_remove : MethodName := ⟨"PageTree", "remove", "(I)I"⟩
abbrev y_PT_text : MethodName := ⟨"PageTree", "text", "(II)I"⟩
abbrev y_PT_told : MethodName := ⟨"PageTree", "told", "(II)I"⟩
abbrev y_Bal_init : MethodName := ⟨"PageTree$Balancer", "<init>", "(LPageTree$Items;)V"⟩
abbrev y_Bal_build : MethodName := ⟨"PageTree$Balancer", "build", "([II)V"⟩
abbrev y_Bal_hang : MethodName := ⟨"PageTree$Balancer", "hang", "(III)V"⟩
abbrev y_Bal_nodesFor : MethodName := ⟨"PageTree$Balancer", "nodesFor", "(I)I"⟩
abbrev y_Bal_raiseRow : MethodName := ⟨"PageTree$Balancer", "raiseRow", "()V"⟩
abbrev y_Items_init : MethodName := ⟨"PageTree$Items", "<init>", "()V"⟩
abbrev y_Items_add : MethodName := ⟨"PageTree$Items", "add", "(ZII)I"⟩
abbrev y_Items_appendKid : MethodName := ⟨"PageTree$Items", "appendKid", "(II)V"⟩
abbrev y_Items_copyOwnValues : MethodName := ⟨"PageTree$Items", "copyOwnValues", "(II)V"⟩
abbrev y_Items_countOf : MethodName := ⟨"PageTree$Items", "countOf", "(I)I"⟩
abbrev y_Items_dropEverywhere : MethodName := ⟨"PageTree$Items", "dropEverywhere", "(I)V"⟩
abbrev y_Items_dropFromList : MethodName := ⟨"PageTree$Items", "dropFromList", "(II)V"⟩
abbrev y_Items_dropKid : MethodName := ⟨"PageTree$Items", "dropKid", "(II)V"⟩
abbrev y_Items_hasNoSlotLeft : MethodName := ⟨"PageTree$Items", "hasNoSlotLeft", "(I)Z"⟩
abbrev y_Items_hasSlot : MethodName := ⟨"PageTree$Items", "hasSlot", "(II)Z"⟩
abbrev y_Items_insertKid : MethodName := ⟨"PageTree$Items", "insertKid", "(III)V"⟩
abbrev y_Items_isFull : MethodName := ⟨"PageTree$Items", "isFull", "()Z"⟩
abbrev y_Items_isKnown : MethodName := ⟨"PageTree$Items", "isKnown", "(I)Z"⟩
abbrev y_Items_isNode : MethodName := ⟨"PageTree$Items", "isNode", "(I)Z"⟩
abbrev y_Items_isPage : MethodName := ⟨"PageTree$Items", "isPage", "(I)Z"⟩
abbrev y_Items_kidAt : MethodName := ⟨"PageTree$Items", "kidAt", "(II)I"⟩
abbrev y_Items_kidCountOf : MethodName := ⟨"PageTree$Items", "kidCountOf", "(I)I"⟩
abbrev y_Items_kidCountWithout : MethodName := ⟨"PageTree$Items", "kidCountWithout", "(II)I"⟩
abbrev y_Items_loosenAll : MethodName := ⟨"PageTree$Items", "loosenAll", "()V"⟩
abbrev y_Items_ownValuesOf : MethodName := ⟨"PageTree$Items", "ownValuesOf", "(II)V"⟩
abbrev y_Items_parentOf : MethodName := ⟨"PageTree$Items", "parentOf", "(I)I"⟩
abbrev y_Items_replaceKid : MethodName := ⟨"PageTree$Items", "replaceKid", "(III)V"⟩
abbrev y_Items_setCount : MethodName := ⟨"PageTree$Items", "setCount", "(II)V"⟩
abbrev y_Items_setOwnValue : MethodName := ⟨"PageTree$Items", "setOwnValue", "(III)V"⟩
abbrev y_Items_setParent : MethodName := ⟨"PageTree$Items", "setParent", "(II)V"⟩
abbrev y_Items_size : MethodName := ⟨"PageTree$Items", "size", "()I"⟩
abbrev y_Items_valueOf : MethodName := ⟨"PageTree$Items", "valueOf", "(II)I"⟩
abbrev y_Items_version : MethodName := ⟨"PageTree$Items", "version", "()I"⟩
abbrev y_Labels_init : MethodName := ⟨"PageTree$Labels", "<init>", "()V"⟩
abbrev y_Labels_begin : MethodName := ⟨"PageTree$Labels", "begin", "(III)Z"⟩
abbrev y_Labels_isRange : MethodName := ⟨"PageTree$Labels", "isRange", "(III)Z"⟩
abbrev y_Labels_rangeAround : MethodName := ⟨"PageTree$Labels", "rangeAround", "(I)I"⟩
abbrev y_Labels_rangeFrom : MethodName := ⟨"PageTree$Labels", "rangeFrom", "(I)I"⟩
abbrev y_Labels_romanSigns : MethodName := ⟨"PageTree$Labels", "romanSigns", "(I)Ljava/lang/String;"⟩
abbrev y_Labels_signOf : MethodName := ⟨"PageTree$Labels", "signOf", "(II)I"⟩
abbrev y_Labels_size : MethodName := ⟨"PageTree$Labels", "size", "()I"⟩
abbrev y_Labels_write : MethodName := ⟨"PageTree$Labels", "write", "(II)V"⟩
abbrev y_Labels_writeDigits : MethodName := ⟨"PageTree$Labels", "writeDigits", "(I)V"⟩
abbrev y_Labels_writeLetters : MethodName := ⟨"PageTree$Labels", "writeLetters", "(I)V"⟩
abbrev y_Labels_writeRoman : MethodName := ⟨"PageTree$Labels", "writeRoman", "(I)V"⟩
abbrev y_Labels_writeSign : MethodName := ⟨"PageTree$Labels", "writeSign", "(C)V"⟩
abbrev y_Labels_writeSigns : MethodName := ⟨"PageTree$Labels", "writeSigns", "(Ljava/lang/String;)V"⟩
abbrev y_Mender_init : MethodName := ⟨"PageTree$Mender", "<init>", "(LPageTree$Items;)V"⟩
abbrev y_Mender_isOnTheWay : MethodName := ⟨"PageTree$Mender", "isOnTheWay", "(I)Z"⟩
abbrev y_Mender_leave : MethodName := ⟨"PageTree$Mender", "leave", "(I)V"⟩
abbrev y_Mender_meetFirst : MethodName := ⟨"PageTree$Mender", "meetFirst", "(III)V"⟩
abbrev y_Mender_meetNodeAgain : MethodName := ⟨"PageTree$Mender", "meetNodeAgain", "(III)Z"⟩
abbrev y_Mender_meetPageAgain : MethodName := ⟨"PageTree$Mender", "meetPageAgain", "(III)Z"⟩
abbrev y_Mender_putRight : MethodName := ⟨"PageTree$Mender", "putRight", "()I"⟩
abbrev y_Mender_tell : MethodName := ⟨"PageTree$Mender", "tell", "(II)V"⟩
abbrev y_Mender_tellingAt : MethodName := ⟨"PageTree$Mender", "tellingAt", "(II)I"⟩
abbrev y_Mender_walkAll : MethodName := ⟨"PageTree$Mender", "walkAll", "()V"⟩
abbrev y_Names_init : MethodName := ⟨"PageTree$Names", "<init>", "()V"⟩
abbrev y_Names_add : MethodName := ⟨"PageTree$Names", "add", "(II)Z"⟩
abbrev y_Names_forget : MethodName := ⟨"PageTree$Names", "forget", "(I)I"⟩
abbrev y_Names_isName : MethodName := ⟨"PageTree$Names", "isName", "(I)Z"⟩
abbrev y_Names_pageOf : MethodName := ⟨"PageTree$Names", "pageOf", "(I)I"⟩
abbrev y_Names_size : MethodName := ⟨"PageTree$Names", "size", "()I"⟩
abbrev y_Order_init : MethodName := ⟨"PageTree$Order", "<init>", "(LPageTree$Items;)V"⟩
abbrev y_Order_isTaken : MethodName := ⟨"PageTree$Order", "isTaken", "(I)Z"⟩
abbrev y_Order_listerOf : MethodName := ⟨"PageTree$Order", "listerOf", "(I)I"⟩
abbrev y_Order_meetFirst : MethodName := ⟨"PageTree$Order", "meetFirst", "(III)V"⟩
abbrev y_Order_pageAt : MethodName := ⟨"PageTree$Order", "pageAt", "(I)I"⟩
abbrev y_Order_placeOf : MethodName := ⟨"PageTree$Order", "placeOf", "(I)I"⟩
abbrev y_Order_refresh : MethodName := ⟨"PageTree$Order", "refresh", "()V"⟩
abbrev y_Order_size : MethodName := ⟨"PageTree$Order", "size", "()I"⟩
abbrev y_Order_slotOf : MethodName := ⟨"PageTree$Order", "slotOf", "(I)I"⟩
abbrev y_Order_takenPages : MethodName := ⟨"PageTree$Order", "takenPages", "()[I"⟩
abbrev y_Order_walkAll : MethodName := ⟨"PageTree$Order", "walkAll", "()V"⟩
abbrev y_Walk_init : MethodName := ⟨"PageTree$Walk", "<init>", "(LPageTree$Items;)V"⟩
abbrev y_Walk_enter : MethodName := ⟨"PageTree$Walk", "enter", "(I)V"⟩
abbrev y_Walk_isOnTheWay : MethodName := ⟨"PageTree$Walk", "isOnTheWay", "(I)Z"⟩
abbrev y_Walk_leave : MethodName := ⟨"PageTree$Walk", "leave", "(I)V"⟩
abbrev y_Walk_meet : MethodName := ⟨"PageTree$Walk", "meet", "(III)I"⟩
abbrev y_Walk_meetFirst : MethodName := ⟨"PageTree$Walk", "meetFirst", "(III)V"⟩
abbrev y_Walk_meetNodeAgain : MethodName := ⟨"PageTree$Walk", "meetNodeAgain", "(III)Z"⟩
abbrev y_Walk_meetPageAgain : MethodName := ⟨"PageTree$Walk", "meetPageAgain", "(III)Z"⟩
abbrev y_Walk_walkAll : MethodName := ⟨"PageTree$Walk", "walkAll", "()V"⟩
abbrev y_Md_init : MethodName := ⟨"PageTreeModel", "<init>", "()V"⟩
abbrev y_Md_about : MethodName := ⟨"PageTreeModel", "about", "(II)I"⟩
abbrev y_Md_append : MethodName := ⟨"PageTreeModel", "append", "(II)V"⟩
abbrev y_Md_at : MethodName := ⟨"PageTreeModel", "at", "(I)I"⟩
abbrev y_Md_balance : MethodName := ⟨"PageTreeModel", "balance", "()I"⟩
abbrev y_Md_begin : MethodName := ⟨"PageTreeModel", "begin", "()V"⟩
abbrev y_Md_copy : MethodName := ⟨"PageTreeModel", "copy", "(I)I"⟩
abbrev y_Md_count : MethodName := ⟨"PageTreeModel", "count", "(I)I"⟩
abbrev y_Md_goInto : MethodName := ⟨"PageTreeModel", "goInto", "(I)V"⟩
abbrev y_Md_goUp : MethodName := ⟨"PageTreeModel", "goUp", "()V"⟩
abbrev y_Md_hang : MethodName := ⟨"PageTreeModel", "hang", "(II)V"⟩
abbrev y_Md_inherit : MethodName := ⟨"PageTreeModel", "inherit", "(III)I"⟩
abbrev y_Md_isItem : MethodName := ⟨"PageTreeModel", "isItem", "(I)Z"⟩
abbrev y_Md_isNode : MethodName := ⟨"PageTreeModel", "isNode", "(I)Z"⟩
abbrev y_Md_isOnWay : MethodName := ⟨"PageTreeModel", "isOnWay", "(I)Z"⟩
abbrev y_Md_kid : MethodName := ⟨"PageTreeModel", "kid", "(II)I"⟩
abbrev y_Md_label : MethodName := ⟨"PageTreeModel", "label", "(III)I"⟩
abbrev y_Md_list : MethodName := ⟨"PageTreeModel", "list", "(II)I"⟩
abbrev y_Md_listed : MethodName := ⟨"PageTreeModel", "listed", "(II)I"⟩
abbrev y_Md_look : MethodName := ⟨"PageTreeModel", "look", "(I)I"⟩
abbrev y_Md_made : MethodName := ⟨"PageTreeModel", "made", "(ZII)I"⟩
abbrev y_Md_mend : MethodName := ⟨"PageTreeModel", "mend", "()I"⟩
abbrev y_Md_mendKid : MethodName := ⟨"PageTreeModel", "mendKid", "(II)Z"⟩
abbrev y_Md_move : MethodName := ⟨"PageTreeModel", "move", "(II)I"⟩
abbrev y_Md_name : MethodName := ⟨"PageTreeModel", "name", "(II)I"⟩
abbrev y_Md_named : MethodName := ⟨"PageTreeModel", "named", "(I)I"⟩
abbrev y_Md_needed : MethodName := ⟨"PageTreeModel", "needed", "(I)I"⟩
abbrev y_Md_node : MethodName := ⟨"PageTreeModel", "node", "(II)I"⟩
abbrev y_Md_of : MethodName := ⟨"PageTreeModel", "of", "(II)I"⟩
abbrev y_Md_ownAll : MethodName := ⟨"PageTreeModel", "ownAll", "(I)V"⟩
abbrev y_Md_page : MethodName := ⟨"PageTreeModel", "page", "(I)I"⟩
abbrev y_Md_pages : MethodName := ⟨"PageTreeModel", "pages", "()I"⟩
abbrev y_Md_placeOf : MethodName := ⟨"PageTreeModel", "placeOf", "(I)I"⟩
abbrev y_Md_putAt : MethodName := ⟨"PageTreeModel", "putAt", "(III)V"⟩
abbrev y_Md_remove : MethodName := ⟨"PageTreeModel", "remove", "(I)I"⟩
abbrev y_Md_say : MethodName := ⟨"PageTreeModel", "say", "(I)V"⟩
abbrev y_Md_sayDigits : MethodName := ⟨"PageTreeModel", "sayDigits", "(I)V"⟩
abbrev y_Md_sayLabel : MethodName := ⟨"PageTreeModel", "sayLabel", "(I)V"⟩
abbrev y_Md_sayPlace : MethodName := ⟨"PageTreeModel", "sayPlace", "(IIII)V"⟩
abbrev y_Md_sayRoman : MethodName := ⟨"PageTreeModel", "sayRoman", "(I)V"⟩
abbrev y_Md_takeOff : MethodName := ⟨"PageTreeModel", "takeOff", "(II)V"⟩
abbrev y_Md_takeOffAll : MethodName := ⟨"PageTreeModel", "takeOffAll", "(I)V"⟩
abbrev y_Md_takePage : MethodName := ⟨"PageTreeModel", "takePage", "(I)V"⟩
abbrev y_Md_tell : MethodName := ⟨"PageTreeModel", "tell", "(II)V"⟩
abbrev y_Md_text : MethodName := ⟨"PageTreeModel", "text", "(II)I"⟩
abbrev y_Md_told : MethodName := ⟨"PageTreeModel", "told", "(II)I"⟩
abbrev y_Md_valueOf : MethodName := ⟨"PageTreeModel", "valueOf", "(II)I"⟩
abbrev y_Md_walk : MethodName := ⟨"PageTreeModel", "walk", "()V"⟩
abbrev y_Md_within : MethodName := ⟨"PageTreeModel", "within", "(III)Z"⟩
abbrev y_Math_min : MethodName := ⟨"java/lang/Math", "min", "(II)I"⟩
abbrev y_Str_charAt : MethodName := ⟨"java/lang/String", "charAt", "(I)C"⟩
abbrev y_Str_checkIndex : MethodName := ⟨"java/lang/String", "checkIndex", "(II)V"⟩
abbrev y_Str_coder : MethodName := ⟨"java/lang/String", "coder", "()B"⟩
abbrev y_Str_isLatin1 : MethodName := ⟨"java/lang/String", "isLatin1", "()Z"⟩
abbrev y_Str_length : MethodName := ⟨"java/lang/String", "length", "()I"⟩
abbrev y_StrL_charAt : MethodName := ⟨"java/lang/StringLatin1", "charAt", "([BI)C"⟩
abbrev y_StrU_charAt : MethodName := ⟨"java/lang/StringUTF16", "charAt", "([BI)C"⟩
abbrev y_StrU_checkIndex : MethodName := ⟨"java/lang/StringUTF16", "checkIndex", "(I[B)V"⟩
abbrev y_StrU_getChar : MethodName := ⟨"java/lang/StringUTF16", "getChar", "([BI)C"⟩
abbrev y_StrU_length : MethodName := ⟨"java/lang/StringUTF16", "length", "([B)I"⟩
abbrev y_Arr_fill : MethodName := ⟨"java/util/Arrays", "fill", "([II)V"⟩
abbrev y_Prec_checkIndex : MethodName := ⟨"jdk/internal/util/Preconditions", "checkIndex", "(IILjava/util/function/BiFunction;)I"⟩
abbrev R_PT : String := "PageTree"
abbrev R_Items : String := "PageTree$Items"
abbrev R_Order : String := "PageTree$Order"
abbrev R_Mender : String := "PageTree$Mender"
abbrev R_Walk : String := "PageTree$Walk"
abbrev R_Bal : String := "PageTree$Balancer"
abbrev R_Labels : String := "PageTree$Labels"
abbrev R_Names : String := "PageTree$Names"
abbrev R_Md : String := "PageTreeModel"
abbrev R_Law : String := "PageTreeLaw"
abbrev R_Arr : String := "java/util/Arrays"
abbrev R_Math : String := "java/lang/Math"
abbrev R_Str : String := "java/lang/String"
abbrev R_StrL : String := "java/lang/StringLatin1"
abbrev R_StrU : String := "java/lang/StringUTF16"
abbrev R_Prec : String := "jdk/internal/util/Preconditions"
abbrev R_Obj : String := "java/lang/Object"
/-- private methods of Walk, at a receiver of a class below it -/
theorem sel_priv {C : String} {x z y : MethodName} {s : State} {args : Array Value} (hy : y.cls ≠ "java/lang/invoke/MethodHandle" ∧ y.cls ≠ "java/lang/invoke/VarHandle") (hz : z.cls = y.cls) (hsel : (Cond.selects C x z).before args s = true) (hpriv : (Cond.privateMethod y).before args s = true) (hinst : (Cond.instanceMethod y).before args s = true) : (Cond.selects C y y).before args s = true := by
  obtain ⟨c, r, mz, hc, hr, hnz, -, kz, hkz, hni⟩ := Cond.selects_spec hsel
  obtain ⟨mk, methM, hnamed, hmethM, -, -⟩ := Cond.instanceMethod_spec hinst
  have hfound : s.methodFound? y.cls y.name y.desc = some mk := State.methodFound?_of_named hnamed hy
  have h1 := findClass_of_methodNamed hnamed
  have h2 := findClass_of_methodNamed hnz
  rw [hz, h1] at h2
  have hcls : mk.cls = mz.cls := Option.some.inj h2
  have hselm : selectMethod {} s.vm c mk = .method mk := selectMethod_private hmethM (Cond.privateMethod_at hpriv mk methM hnamed hmethM)
  simp only [Cond.before, Cond.holds, Cond.value, hc, hfound, hnamed, hselm, hcls, hkz]
  simp; exact hni
def xsel : List Cond := [.selects "PageTree$Order" y_Walk_enter y_Walk_enter, .selects "PageTree$Mender" y_Walk_enter y_Walk_enter, .selects "PageTree$Order" y_Walk_meet y_Walk_meet, .selects "PageTree$Mender" y_Walk_meet y_Walk_meet]
def AW : List Cond := xsel ++ (k2_sels lw_privs ++ tables_1.filter goodWord)
theorem AW_good : GoodIn AW AW := by
  intro w hw
  refine ⟨hw, ?_⟩
  unfold AW at hw
  rcases List.mem_append.mp hw with h | h
  · unfold xsel at h
    simp only [List.mem_cons, List.not_mem_nil, or_false] at h
    rcases h with rfl | rfl | rfl | rfl <;> exact Or.inl rfl
  · rcases List.mem_append.mp h with h | h
    · unfold k2_sels at h
      obtain ⟨q, -, rfl⟩ := List.mem_map.mp h
      exact Or.inl rfl
    · exact good_of_word (List.mem_filter.mp h).2
theorem aw_t (i : Nat) {w : Cond} (h : tables_1[i]? = some w) (hg : goodWord w = true) : w ∈ AW := List.mem_append_right _ (List.mem_append_right _ (List.mem_filter.mpr ⟨List.mem_of_getElem? h, hg⟩))
theorem aw_p (i : Nat) {y : MethodName} {n : Nat} (h : lw_privs[i]? = some (y, n)) : Cond.selects y.cls y y ∈ AW := List.mem_append_right _ (List.mem_append_left _ (List.mem_map.mpr ⟨(y, n), List.mem_of_getElem? h, rfl⟩))
theorem aw_x (i : Nat) {w : Cond} (h : xsel[i]? = some w) : w ∈ AW := List.mem_append_left _ (List.mem_of_getElem? h)
theorem AW_hts {args : Array Value} {s : State} (hts : ∀ w ∈ lw_tbl, w.before args s = true) : ∀ w ∈ AW, w.before args s = true := by
  intro w hw
  have ht : ∀ (i : Nat) (w : Cond), tables_1[i]? = some w → w.before args s = true := fun i w h => hts w (List.mem_append_right _ (List.mem_of_getElem? h))
  unfold AW at hw
  rcases List.mem_append.mp hw with h | h
  · unfold xsel at h
    simp only [List.mem_cons, List.not_mem_nil, or_false] at h
    rcases h with rfl | rfl | rfl | rfl
    · exact sel_priv (x := y_Order_walkAll) (z := y_Walk_walkAll) (by decide) rfl (ht 311 _ rfl) (ht 316 _ rfl) (ht 317 _ rfl)
    · exact sel_priv (x := y_Mender_walkAll) (z := y_Walk_walkAll) (by decide) rfl (ht 444 _ rfl) (ht 316 _ rfl) (ht 317 _ rfl)
    · exact sel_priv (x := y_Order_walkAll) (z := y_Walk_walkAll) (by decide) rfl (ht 311 _ rfl) (ht 329 _ rfl) (ht 330 _ rfl)
    · exact sel_priv (x := y_Mender_walkAll) (z := y_Walk_walkAll) (by decide) rfl (ht 444 _ rfl) (ht 329 _ rfl) (ht 330 _ rfl)
  · rcases List.mem_append.mp h with h | h
    · exact hts w (List.mem_append_left _ h)
    · exact hts w (List.mem_append_right _ (List.mem_filter.mp h).1)
