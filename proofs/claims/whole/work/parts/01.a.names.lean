-- ===== PART A: goes FIRST, ahead of the names: the tables' words, and 'selects' of the private methods out of them =====
/-- a private method of a class that the tables say can be made, by its rows of tables_1 -/
def lw_okq (q : MethodName × Nat) : Prop := (q.1.cls ≠ "java/lang/invoke/MethodHandle" ∧ q.1.cls ≠ "java/lang/invoke/VarHandle") ∧ Cond.instantiable q.1.cls q.2 ∈ tables_1 ∧ Cond.privateMethod q.1 ∈ tables_1 ∧ Cond.instanceMethod q.1 ∈ tables_1
theorem lw_p0 : lw_okq (⟨"StockPot", "finding", "(I)I"⟩, 7) := ⟨⟨by decide +kernel, by decide +kernel⟩, List.mem_of_getElem? (i := 14) (by decide +kernel), List.mem_of_getElem? (i := 149) (by decide +kernel), List.mem_of_getElem? (i := 150) (by decide +kernel)⟩
theorem lw_p1 : lw_okq (⟨"StockPot", "isCook", "(I)Z"⟩, 7) := ⟨⟨by decide +kernel, by decide +kernel⟩, List.mem_of_getElem? (i := 14) (by decide +kernel), List.mem_of_getElem? (i := 215) (by decide +kernel), List.mem_of_getElem? (i := 216) (by decide +kernel)⟩
theorem lw_p2 : lw_okq (⟨"StockPot$Pot", "wantsBy", "(I)I"⟩, 9) := ⟨⟨by decide +kernel, by decide +kernel⟩, List.mem_of_getElem? (i := 22) (by decide +kernel), List.mem_of_getElem? (i := 223) (by decide +kernel), List.mem_of_getElem? (i := 224) (by decide +kernel)⟩
theorem lw_p3 : lw_okq (⟨"StockPot", "replace", "([IIII)I"⟩, 7) := ⟨⟨by decide +kernel, by decide +kernel⟩, List.mem_of_getElem? (i := 14) (by decide +kernel), List.mem_of_getElem? (i := 242) (by decide +kernel), List.mem_of_getElem? (i := 243) (by decide +kernel)⟩
theorem lw_p4 : lw_okq (⟨"StockPot$Pot", "serve", "(I)V"⟩, 9) := ⟨⟨by decide +kernel, by decide +kernel⟩, List.mem_of_getElem? (i := 22) (by decide +kernel), List.mem_of_getElem? (i := 276) (by decide +kernel), List.mem_of_getElem? (i := 277) (by decide +kernel)⟩
theorem lw_p5 : lw_okq (⟨"StockPot", "startTrial", "()V"⟩, 7) := ⟨⟨by decide +kernel, by decide +kernel⟩, List.mem_of_getElem? (i := 14) (by decide +kernel), List.mem_of_getElem? (i := 310) (by decide +kernel), List.mem_of_getElem? (i := 311) (by decide +kernel)⟩
theorem lw_p6 : lw_okq (⟨"StockPot$Tape", "step", "()V"⟩, 6) := ⟨⟨by decide +kernel, by decide +kernel⟩, List.mem_of_getElem? (i := 69) (by decide +kernel), List.mem_of_getElem? (i := 385) (by decide +kernel), List.mem_of_getElem? (i := 386) (by decide +kernel)⟩
theorem lw_p7 : lw_okq (⟨"StockPot$Tape", "isAmong", "(CC)Z"⟩, 6) := ⟨⟨by decide +kernel, by decide +kernel⟩, List.mem_of_getElem? (i := 69) (by decide +kernel), List.mem_of_getElem? (i := 389) (by decide +kernel), List.mem_of_getElem? (i := 390) (by decide +kernel)⟩
theorem lw_p8 : lw_okq (⟨"StockPot$Tape", "stepWord", "()V"⟩, 6) := ⟨⟨by decide +kernel, by decide +kernel⟩, List.mem_of_getElem? (i := 69) (by decide +kernel), List.mem_of_getElem? (i := 393) (by decide +kernel), List.mem_of_getElem? (i := 394) (by decide +kernel)⟩
theorem lw_p9 : lw_okq (⟨"StockPot$Tape", "stepNumber", "()V"⟩, 6) := ⟨⟨by decide +kernel, by decide +kernel⟩, List.mem_of_getElem? (i := 69) (by decide +kernel), List.mem_of_getElem? (i := 397) (by decide +kernel), List.mem_of_getElem? (i := 398) (by decide +kernel)⟩
theorem lw_p10 : lw_okq (⟨"StockPot$Tape", "passItem", "(LStockPot$Pot;)Z"⟩, 6) := ⟨⟨by decide +kernel, by decide +kernel⟩, List.mem_of_getElem? (i := 69) (by decide +kernel), List.mem_of_getElem? (i := 402) (by decide +kernel), List.mem_of_getElem? (i := 403) (by decide +kernel)⟩
theorem lw_p11 : lw_okq (⟨"StockPot$Tape", "isWord", "(Ljava/lang/String;)Z"⟩, 6) := ⟨⟨by decide +kernel, by decide +kernel⟩, List.mem_of_getElem? (i := 69) (by decide +kernel), List.mem_of_getElem? (i := 407) (by decide +kernel), List.mem_of_getElem? (i := 408) (by decide +kernel)⟩
theorem lw_p12 : lw_okq (⟨"StockPot$Tape", "passPart", "(LStockPot$Pot;)Z"⟩, 6) := ⟨⟨by decide +kernel, by decide +kernel⟩, List.mem_of_getElem? (i := 69) (by decide +kernel), List.mem_of_getElem? (i := 459) (by decide +kernel), List.mem_of_getElem? (i := 460) (by decide +kernel)⟩
theorem lw_p13 : lw_okq (⟨"StockPot$Tape", "isNumber", "(I)Z"⟩, 6) := ⟨⟨by decide +kernel, by decide +kernel⟩, List.mem_of_getElem? (i := 69) (by decide +kernel), List.mem_of_getElem? (i := 463) (by decide +kernel), List.mem_of_getElem? (i := 464) (by decide +kernel)⟩
theorem lw_p14 : lw_okq (⟨"StockPot$Tape", "kindNamed", "()I"⟩, 6) := ⟨⟨by decide +kernel, by decide +kernel⟩, List.mem_of_getElem? (i := 69) (by decide +kernel), List.mem_of_getElem? (i := 469) (by decide +kernel), List.mem_of_getElem? (i := 470) (by decide +kernel)⟩
theorem lw_p15 : lw_okq (⟨"StockPot$Tape", "passTrait", "(Ljava/lang/String;[III)Z"⟩, 6) := ⟨⟨by decide +kernel, by decide +kernel⟩, List.mem_of_getElem? (i := 69) (by decide +kernel), List.mem_of_getElem? (i := 482) (by decide +kernel), List.mem_of_getElem? (i := 483) (by decide +kernel)⟩
def lw_privs_1 : List (MethodName × Nat) := [(⟨"StockPot", "finding", "(I)I"⟩, 7), (⟨"StockPot", "isCook", "(I)Z"⟩, 7), (⟨"StockPot$Pot", "wantsBy", "(I)I"⟩, 9), (⟨"StockPot", "replace", "([IIII)I"⟩, 7), (⟨"StockPot$Pot", "serve", "(I)V"⟩, 9), (⟨"StockPot", "startTrial", "()V"⟩, 7), (⟨"StockPot$Tape", "step", "()V"⟩, 6), (⟨"StockPot$Tape", "isAmong", "(CC)Z"⟩, 6), (⟨"StockPot$Tape", "stepWord", "()V"⟩, 6), (⟨"StockPot$Tape", "stepNumber", "()V"⟩, 6), (⟨"StockPot$Tape", "passItem", "(LStockPot$Pot;)Z"⟩, 6), (⟨"StockPot$Tape", "isWord", "(Ljava/lang/String;)Z"⟩, 6), (⟨"StockPot$Tape", "passPart", "(LStockPot$Pot;)Z"⟩, 6), (⟨"StockPot$Tape", "isNumber", "(I)Z"⟩, 6), (⟨"StockPot$Tape", "kindNamed", "()I"⟩, 6), (⟨"StockPot$Tape", "passTrait", "(Ljava/lang/String;[III)Z"⟩, 6)]
theorem lw_r1 : ∀ q ∈ lw_privs_1, lw_okq q := List.forall_mem_cons.mpr ⟨lw_p0, List.forall_mem_cons.mpr ⟨lw_p1, List.forall_mem_cons.mpr ⟨lw_p2, List.forall_mem_cons.mpr ⟨lw_p3, List.forall_mem_cons.mpr ⟨lw_p4, List.forall_mem_cons.mpr ⟨lw_p5, List.forall_mem_cons.mpr ⟨lw_p6, List.forall_mem_cons.mpr ⟨lw_p7, List.forall_mem_cons.mpr ⟨lw_p8, List.forall_mem_cons.mpr ⟨lw_p9, List.forall_mem_cons.mpr ⟨lw_p10, List.forall_mem_cons.mpr ⟨lw_p11, List.forall_mem_cons.mpr ⟨lw_p12, List.forall_mem_cons.mpr ⟨lw_p13, List.forall_mem_cons.mpr ⟨lw_p14, List.forall_mem_cons.mpr ⟨lw_p15, fun _ h => absurd h List.not_mem_nil⟩⟩⟩⟩⟩⟩⟩⟩⟩⟩⟩⟩⟩⟩⟩⟩
theorem lw_p16 : lw_okq (⟨"StockPot", "tastesAsWritten", "(LStockPot$Sheet;I)Z"⟩, 7) := ⟨⟨by decide +kernel, by decide +kernel⟩, List.mem_of_getElem? (i := 14) (by decide +kernel), List.mem_of_getElem? (i := 536) (by decide +kernel), List.mem_of_getElem? (i := 537) (by decide +kernel)⟩
theorem lw_p17 : lw_okq (⟨"StockPotModel", "finds", "(I)I"⟩, 17) := ⟨⟨by decide +kernel, by decide +kernel⟩, List.mem_of_getElem? (i := 570) (by decide +kernel), List.mem_of_getElem? (i := 640) (by decide +kernel), List.mem_of_getElem? (i := 641) (by decide +kernel)⟩
theorem lw_p18 : lw_okq (⟨"StockPotModel", "all", "()I"⟩, 17) := ⟨⟨by decide +kernel, by decide +kernel⟩, List.mem_of_getElem? (i := 570) (by decide +kernel), List.mem_of_getElem? (i := 649) (by decide +kernel), List.mem_of_getElem? (i := 650) (by decide +kernel)⟩
theorem lw_p19 : lw_okq (⟨"StockPotModel", "becomes", "(II)I"⟩, 17) := ⟨⟨by decide +kernel, by decide +kernel⟩, List.mem_of_getElem? (i := 570) (by decide +kernel), List.mem_of_getElem? (i := 655) (by decide +kernel), List.mem_of_getElem? (i := 656) (by decide +kernel)⟩
theorem lw_p20 : lw_okq (⟨"StockPotModel", "tasteOf", "(I)I"⟩, 17) := ⟨⟨by decide +kernel, by decide +kernel⟩, List.mem_of_getElem? (i := 570) (by decide +kernel), List.mem_of_getElem? (i := 663) (by decide +kernel), List.mem_of_getElem? (i := 664) (by decide +kernel)⟩
theorem lw_p21 : lw_okq (⟨"StockPotModel", "takesOut", "(I)I"⟩, 17) := ⟨⟨by decide +kernel, by decide +kernel⟩, List.mem_of_getElem? (i := 570) (by decide +kernel), List.mem_of_getElem? (i := 675) (by decide +kernel), List.mem_of_getElem? (i := 676) (by decide +kernel)⟩
theorem lw_p22 : lw_okq (⟨"StockPotModel", "laysAside", "()V"⟩, 17) := ⟨⟨by decide +kernel, by decide +kernel⟩, List.mem_of_getElem? (i := 570) (by decide +kernel), List.mem_of_getElem? (i := 683) (by decide +kernel), List.mem_of_getElem? (i := 684) (by decide +kernel)⟩
theorem lw_p23 : lw_okq (⟨"StockPotModel", "takesBack", "(I)I"⟩, 17) := ⟨⟨by decide +kernel, by decide +kernel⟩, List.mem_of_getElem? (i := 570) (by decide +kernel), List.mem_of_getElem? (i := 687) (by decide +kernel), List.mem_of_getElem? (i := 688) (by decide +kernel)⟩
theorem lw_p24 : lw_okq (⟨"StockPotModel", "adds", "(I)I"⟩, 17) := ⟨⟨by decide +kernel, by decide +kernel⟩, List.mem_of_getElem? (i := 570) (by decide +kernel), List.mem_of_getElem? (i := 699) (by decide +kernel), List.mem_of_getElem? (i := 700) (by decide +kernel)⟩
theorem lw_p25 : lw_okq (⟨"StockPotModel", "isCook", "(I)Z"⟩, 17) := ⟨⟨by decide +kernel, by decide +kernel⟩, List.mem_of_getElem? (i := 570) (by decide +kernel), List.mem_of_getElem? (i := 710) (by decide +kernel), List.mem_of_getElem? (i := 711) (by decide +kernel)⟩
theorem lw_p26 : lw_okq (⟨"StockPotModel", "takesOf", "(I)I"⟩, 17) := ⟨⟨by decide +kernel, by decide +kernel⟩, List.mem_of_getElem? (i := 570) (by decide +kernel), List.mem_of_getElem? (i := 715) (by decide +kernel), List.mem_of_getElem? (i := 716) (by decide +kernel)⟩
theorem lw_p27 : lw_okq (⟨"StockPotModel", "wants", "(I)I"⟩, 17) := ⟨⟨by decide +kernel, by decide +kernel⟩, List.mem_of_getElem? (i := 570) (by decide +kernel), List.mem_of_getElem? (i := 719) (by decide +kernel), List.mem_of_getElem? (i := 720) (by decide +kernel)⟩
theorem lw_p28 : lw_okq (⟨"StockPotModel", "its", "(II)I"⟩, 17) := ⟨⟨by decide +kernel, by decide +kernel⟩, List.mem_of_getElem? (i := 570) (by decide +kernel), List.mem_of_getElem? (i := 723) (by decide +kernel), List.mem_of_getElem? (i := 724) (by decide +kernel)⟩
theorem lw_p29 : lw_okq (⟨"StockPotModel", "putsOf", "(II)I"⟩, 17) := ⟨⟨by decide +kernel, by decide +kernel⟩, List.mem_of_getElem? (i := 570) (by decide +kernel), List.mem_of_getElem? (i := 727) (by decide +kernel), List.mem_of_getElem? (i := 728) (by decide +kernel)⟩
theorem lw_p30 : lw_okq (⟨"StockPotModel", "whatOf", "(I)I"⟩, 17) := ⟨⟨by decide +kernel, by decide +kernel⟩, List.mem_of_getElem? (i := 570) (by decide +kernel), List.mem_of_getElem? (i := 734) (by decide +kernel), List.mem_of_getElem? (i := 735) (by decide +kernel)⟩
theorem lw_p31 : lw_okq (⟨"StockPotModel", "areTwo", "(II)Z"⟩, 17) := ⟨⟨by decide +kernel, by decide +kernel⟩, List.mem_of_getElem? (i := 570) (by decide +kernel), List.mem_of_getElem? (i := 760) (by decide +kernel), List.mem_of_getElem? (i := 761) (by decide +kernel)⟩
def lw_privs_2 : List (MethodName × Nat) := [(⟨"StockPot", "tastesAsWritten", "(LStockPot$Sheet;I)Z"⟩, 7), (⟨"StockPotModel", "finds", "(I)I"⟩, 17), (⟨"StockPotModel", "all", "()I"⟩, 17), (⟨"StockPotModel", "becomes", "(II)I"⟩, 17), (⟨"StockPotModel", "tasteOf", "(I)I"⟩, 17), (⟨"StockPotModel", "takesOut", "(I)I"⟩, 17), (⟨"StockPotModel", "laysAside", "()V"⟩, 17), (⟨"StockPotModel", "takesBack", "(I)I"⟩, 17), (⟨"StockPotModel", "adds", "(I)I"⟩, 17), (⟨"StockPotModel", "isCook", "(I)Z"⟩, 17), (⟨"StockPotModel", "takesOf", "(I)I"⟩, 17), (⟨"StockPotModel", "wants", "(I)I"⟩, 17), (⟨"StockPotModel", "its", "(II)I"⟩, 17), (⟨"StockPotModel", "putsOf", "(II)I"⟩, 17), (⟨"StockPotModel", "whatOf", "(I)I"⟩, 17), (⟨"StockPotModel", "areTwo", "(II)Z"⟩, 17)]
theorem lw_r2 : ∀ q ∈ lw_privs_2, lw_okq q := List.forall_mem_cons.mpr ⟨lw_p16, List.forall_mem_cons.mpr ⟨lw_p17, List.forall_mem_cons.mpr ⟨lw_p18, List.forall_mem_cons.mpr ⟨lw_p19, List.forall_mem_cons.mpr ⟨lw_p20, List.forall_mem_cons.mpr ⟨lw_p21, List.forall_mem_cons.mpr ⟨lw_p22, List.forall_mem_cons.mpr ⟨lw_p23, List.forall_mem_cons.mpr ⟨lw_p24, List.forall_mem_cons.mpr ⟨lw_p25, List.forall_mem_cons.mpr ⟨lw_p26, List.forall_mem_cons.mpr ⟨lw_p27, List.forall_mem_cons.mpr ⟨lw_p28, List.forall_mem_cons.mpr ⟨lw_p29, List.forall_mem_cons.mpr ⟨lw_p30, List.forall_mem_cons.mpr ⟨lw_p31, fun _ h => absurd h List.not_mem_nil⟩⟩⟩⟩⟩⟩⟩⟩⟩⟩⟩⟩⟩⟩⟩⟩
theorem lw_p32 : lw_okq (⟨"StockPotModel", "swaps", "(II)V"⟩, 17) := ⟨⟨by decide +kernel, by decide +kernel⟩, List.mem_of_getElem? (i := 570) (by decide +kernel), List.mem_of_getElem? (i := 764) (by decide +kernel), List.mem_of_getElem? (i := 765) (by decide +kernel)⟩
theorem lw_p33 : lw_okq (⟨"StockPotModel", "yearsGo", "(I)V"⟩, 17) := ⟨⟨by decide +kernel, by decide +kernel⟩, List.mem_of_getElem? (i := 570) (by decide +kernel), List.mem_of_getElem? (i := 774) (by decide +kernel), List.mem_of_getElem? (i := 775) (by decide +kernel)⟩
theorem lw_p34 : lw_okq (⟨"StockPotModel", "year", "()V"⟩, 17) := ⟨⟨by decide +kernel, by decide +kernel⟩, List.mem_of_getElem? (i := 570) (by decide +kernel), List.mem_of_getElem? (i := 778) (by decide +kernel), List.mem_of_getElem? (i := 779) (by decide +kernel)⟩
theorem lw_p35 : lw_okq (⟨"StockPotModel", "present", "()I"⟩, 17) := ⟨⟨by decide +kernel, by decide +kernel⟩, List.mem_of_getElem? (i := 570) (by decide +kernel), List.mem_of_getElem? (i := 786) (by decide +kernel), List.mem_of_getElem? (i := 787) (by decide +kernel)⟩
theorem lw_p36 : lw_okq (⟨"StockPotModel", "isVague", "()Z"⟩, 17) := ⟨⟨by decide +kernel, by decide +kernel⟩, List.mem_of_getElem? (i := 570) (by decide +kernel), List.mem_of_getElem? (i := 790) (by decide +kernel), List.mem_of_getElem? (i := 791) (by decide +kernel)⟩
theorem lw_p37 : lw_okq (⟨"StockPotModel", "mostPart", "()I"⟩, 17) := ⟨⟨by decide +kernel, by decide +kernel⟩, List.mem_of_getElem? (i := 570) (by decide +kernel), List.mem_of_getElem? (i := 794) (by decide +kernel), List.mem_of_getElem? (i := 795) (by decide +kernel)⟩
theorem lw_p38 : lw_okq (⟨"StockPotModel", "firstSo", "(III)I"⟩, 17) := ⟨⟨by decide +kernel, by decide +kernel⟩, List.mem_of_getElem? (i := 570) (by decide +kernel), List.mem_of_getElem? (i := 806) (by decide +kernel), List.mem_of_getElem? (i := 807) (by decide +kernel)⟩
theorem lw_p39 : lw_okq (⟨"StockPotModel", "isSo", "(III)Z"⟩, 17) := ⟨⟨by decide +kernel, by decide +kernel⟩, List.mem_of_getElem? (i := 570) (by decide +kernel), List.mem_of_getElem? (i := 810) (by decide +kernel), List.mem_of_getElem? (i := 811) (by decide +kernel)⟩
theorem lw_p40 : lw_okq (⟨"StockPotModel", "behind", "(II)I"⟩, 17) := ⟨⟨by decide +kernel, by decide +kernel⟩, List.mem_of_getElem? (i := 570) (by decide +kernel), List.mem_of_getElem? (i := 832) (by decide +kernel), List.mem_of_getElem? (i := 833) (by decide +kernel)⟩
theorem lw_p41 : lw_okq (⟨"StockPotModel", "leastTaste", "(I)I"⟩, 17) := ⟨⟨by decide +kernel, by decide +kernel⟩, List.mem_of_getElem? (i := 570) (by decide +kernel), List.mem_of_getElem? (i := 849) (by decide +kernel), List.mem_of_getElem? (i := 850) (by decide +kernel)⟩
theorem lw_p42 : lw_okq (⟨"StockPotModel", "saves", "()V"⟩, 17) := ⟨⟨by decide +kernel, by decide +kernel⟩, List.mem_of_getElem? (i := 570) (by decide +kernel), List.mem_of_getElem? (i := 874) (by decide +kernel), List.mem_of_getElem? (i := 875) (by decide +kernel)⟩
theorem lw_p43 : lw_okq (⟨"StockPotModel", "token", "()V"⟩, 17) := ⟨⟨by decide +kernel, by decide +kernel⟩, List.mem_of_getElem? (i := 570) (by decide +kernel), List.mem_of_getElem? (i := 878) (by decide +kernel), List.mem_of_getElem? (i := 879) (by decide +kernel)⟩
theorem lw_p44 : lw_okq (⟨"StockPotModel", "byteAt", "(I)I"⟩, 17) := ⟨⟨by decide +kernel, by decide +kernel⟩, List.mem_of_getElem? (i := 570) (by decide +kernel), List.mem_of_getElem? (i := 882) (by decide +kernel), List.mem_of_getElem? (i := 883) (by decide +kernel)⟩
theorem lw_p45 : lw_okq (⟨"StockPotModel", "item", "()V"⟩, 17) := ⟨⟨by decide +kernel, by decide +kernel⟩, List.mem_of_getElem? (i := 570) (by decide +kernel), List.mem_of_getElem? (i := 896) (by decide +kernel), List.mem_of_getElem? (i := 897) (by decide +kernel)⟩
theorem lw_p46 : lw_okq (⟨"StockPotModel", "kindHere", "()I"⟩, 17) := ⟨⟨by decide +kernel, by decide +kernel⟩, List.mem_of_getElem? (i := 570) (by decide +kernel), List.mem_of_getElem? (i := 900) (by decide +kernel), List.mem_of_getElem? (i := 901) (by decide +kernel)⟩
theorem lw_p47 : lw_okq (⟨"StockPotModel", "word", "()J"⟩, 17) := ⟨⟨by decide +kernel, by decide +kernel⟩, List.mem_of_getElem? (i := 570) (by decide +kernel), List.mem_of_getElem? (i := 904) (by decide +kernel), List.mem_of_getElem? (i := 905) (by decide +kernel)⟩
def lw_privs_3 : List (MethodName × Nat) := [(⟨"StockPotModel", "swaps", "(II)V"⟩, 17), (⟨"StockPotModel", "yearsGo", "(I)V"⟩, 17), (⟨"StockPotModel", "year", "()V"⟩, 17), (⟨"StockPotModel", "present", "()I"⟩, 17), (⟨"StockPotModel", "isVague", "()Z"⟩, 17), (⟨"StockPotModel", "mostPart", "()I"⟩, 17), (⟨"StockPotModel", "firstSo", "(III)I"⟩, 17), (⟨"StockPotModel", "isSo", "(III)Z"⟩, 17), (⟨"StockPotModel", "behind", "(II)I"⟩, 17), (⟨"StockPotModel", "leastTaste", "(I)I"⟩, 17), (⟨"StockPotModel", "saves", "()V"⟩, 17), (⟨"StockPotModel", "token", "()V"⟩, 17), (⟨"StockPotModel", "byteAt", "(I)I"⟩, 17), (⟨"StockPotModel", "item", "()V"⟩, 17), (⟨"StockPotModel", "kindHere", "()I"⟩, 17), (⟨"StockPotModel", "word", "()J"⟩, 17)]
theorem lw_r3 : ∀ q ∈ lw_privs_3, lw_okq q := List.forall_mem_cons.mpr ⟨lw_p32, List.forall_mem_cons.mpr ⟨lw_p33, List.forall_mem_cons.mpr ⟨lw_p34, List.forall_mem_cons.mpr ⟨lw_p35, List.forall_mem_cons.mpr ⟨lw_p36, List.forall_mem_cons.mpr ⟨lw_p37, List.forall_mem_cons.mpr ⟨lw_p38, List.forall_mem_cons.mpr ⟨lw_p39, List.forall_mem_cons.mpr ⟨lw_p40, List.forall_mem_cons.mpr ⟨lw_p41, List.forall_mem_cons.mpr ⟨lw_p42, List.forall_mem_cons.mpr ⟨lw_p43, List.forall_mem_cons.mpr ⟨lw_p44, List.forall_mem_cons.mpr ⟨lw_p45, List.forall_mem_cons.mpr ⟨lw_p46, List.forall_mem_cons.mpr ⟨lw_p47, fun _ h => absurd h List.not_mem_nil⟩⟩⟩⟩⟩⟩⟩⟩⟩⟩⟩⟩⟩⟩⟩⟩
theorem lw_p48 : lw_okq (⟨"StockPotModel", "cookItem", "(I)V"⟩, 17) := ⟨⟨by decide +kernel, by decide +kernel⟩, List.mem_of_getElem? (i := 570) (by decide +kernel), List.mem_of_getElem? (i := 916) (by decide +kernel), List.mem_of_getElem? (i := 917) (by decide +kernel)⟩
theorem lw_p49 : lw_okq (⟨"StockPotModel", "must", "(Z)V"⟩, 17) := ⟨⟨by decide +kernel, by decide +kernel⟩, List.mem_of_getElem? (i := 570) (by decide +kernel), List.mem_of_getElem? (i := 920) (by decide +kernel), List.mem_of_getElem? (i := 921) (by decide +kernel)⟩
theorem lw_p50 : lw_okq (⟨"StockPotModel", "partItem", "(JII)V"⟩, 17) := ⟨⟨by decide +kernel, by decide +kernel⟩, List.mem_of_getElem? (i := 570) (by decide +kernel), List.mem_of_getElem? (i := 925) (by decide +kernel), List.mem_of_getElem? (i := 926) (by decide +kernel)⟩
theorem lw_p51 : lw_okq (⟨"StockPotModel", "number", "(II)V"⟩, 17) := ⟨⟨by decide +kernel, by decide +kernel⟩, List.mem_of_getElem? (i := 570) (by decide +kernel), List.mem_of_getElem? (i := 929) (by decide +kernel), List.mem_of_getElem? (i := 930) (by decide +kernel)⟩
theorem lw_p52 : lw_okq (⟨"StockPotModel", "grainsItem", "()V"⟩, 17) := ⟨⟨by decide +kernel, by decide +kernel⟩, List.mem_of_getElem? (i := 570) (by decide +kernel), List.mem_of_getElem? (i := 936) (by decide +kernel), List.mem_of_getElem? (i := 937) (by decide +kernel)⟩
theorem lw_p53 : lw_okq (⟨"StockPotModel", "putsBack", "()V"⟩, 17) := ⟨⟨by decide +kernel, by decide +kernel⟩, List.mem_of_getElem? (i := 570) (by decide +kernel), List.mem_of_getElem? (i := 940) (by decide +kernel), List.mem_of_getElem? (i := 941) (by decide +kernel)⟩
theorem lw_p54 : lw_okq (⟨"StockPotModel", "wrongSheet", "(I)I"⟩, 17) := ⟨⟨by decide +kernel, by decide +kernel⟩, List.mem_of_getElem? (i := 570) (by decide +kernel), List.mem_of_getElem? (i := 956) (by decide +kernel), List.mem_of_getElem? (i := 957) (by decide +kernel)⟩
theorem lw_p55 : lw_okq (⟨"StockPotModel", "isBook", "(II)Z"⟩, 17) := ⟨⟨by decide +kernel, by decide +kernel⟩, List.mem_of_getElem? (i := 570) (by decide +kernel), List.mem_of_getElem? (i := 980) (by decide +kernel), List.mem_of_getElem? (i := 981) (by decide +kernel)⟩
theorem lw_p56 : lw_okq (⟨"StockPotModel", "weights", "()I"⟩, 17) := ⟨⟨by decide +kernel, by decide +kernel⟩, List.mem_of_getElem? (i := 570) (by decide +kernel), List.mem_of_getElem? (i := 1000) (by decide +kernel), List.mem_of_getElem? (i := 1001) (by decide +kernel)⟩
theorem lw_p57 : lw_okq (⟨"StockPotModel", "missing", "()I"⟩, 17) := ⟨⟨by decide +kernel, by decide +kernel⟩, List.mem_of_getElem? (i := 570) (by decide +kernel), List.mem_of_getElem? (i := 1004) (by decide +kernel), List.mem_of_getElem? (i := 1005) (by decide +kernel)⟩
def lw_privs_4 : List (MethodName × Nat) := [(⟨"StockPotModel", "cookItem", "(I)V"⟩, 17), (⟨"StockPotModel", "must", "(Z)V"⟩, 17), (⟨"StockPotModel", "partItem", "(JII)V"⟩, 17), (⟨"StockPotModel", "number", "(II)V"⟩, 17), (⟨"StockPotModel", "grainsItem", "()V"⟩, 17), (⟨"StockPotModel", "putsBack", "()V"⟩, 17), (⟨"StockPotModel", "wrongSheet", "(I)I"⟩, 17), (⟨"StockPotModel", "isBook", "(II)Z"⟩, 17), (⟨"StockPotModel", "weights", "()I"⟩, 17), (⟨"StockPotModel", "missing", "()I"⟩, 17)]
theorem lw_r4 : ∀ q ∈ lw_privs_4, lw_okq q := List.forall_mem_cons.mpr ⟨lw_p48, List.forall_mem_cons.mpr ⟨lw_p49, List.forall_mem_cons.mpr ⟨lw_p50, List.forall_mem_cons.mpr ⟨lw_p51, List.forall_mem_cons.mpr ⟨lw_p52, List.forall_mem_cons.mpr ⟨lw_p53, List.forall_mem_cons.mpr ⟨lw_p54, List.forall_mem_cons.mpr ⟨lw_p55, List.forall_mem_cons.mpr ⟨lw_p56, List.forall_mem_cons.mpr ⟨lw_p57, fun _ h => absurd h List.not_mem_nil⟩⟩⟩⟩⟩⟩⟩⟩⟩⟩
def lw_privs : List (MethodName × Nat) := lw_privs_1 ++ (lw_privs_2 ++ (lw_privs_3 ++ (lw_privs_4)))
def lw_tbl : List Cond := k2_sels lw_privs ++ tables_1
theorem lw_privs_ok : ∀ q ∈ lw_privs, lw_okq q := by
  show ∀ q ∈ lw_privs_1 ++ (lw_privs_2 ++ (lw_privs_3 ++ (lw_privs_4))), lw_okq q
  exact List.forall_mem_append.mpr ⟨lw_r1, List.forall_mem_append.mpr ⟨lw_r2, List.forall_mem_append.mpr ⟨lw_r3, lw_r4⟩⟩⟩
def RX0 : String := "StockPot$Pot"
def TX0 : u_T := fun k => match k with
  | 0 => ("StockPot$Pot", "amounts", "[I", true)
  | 1 => ("StockPot$Pot", "ladle", "[I", true)
  | 2 => ("StockPot$Pot", "kinds", "[I", true)
  | 3 => ("StockPot$Pot", "parts", "[I", true)
  | 4 => ("StockPot$Pot", "weights", "[I", true)
  | 5 => ("StockPot$Pot", "merits", "[I", true)
  | 6 => ("StockPot$Pot", "total", "I", false)
  | 7 => ("StockPot$Pot", "date", "I", false)
  | _ => ("StockPot$Pot", "staff", "I", false)
def tyX0 : Nat → FieldType := fun k => match k with
  | 0 => .array .int
  | 1 => .array .int
  | 2 => .array .int
  | 3 => .array .int
  | 4 => .array .int
  | 5 => .array .int
  | 6 => .int
  | 7 => .int
  | _ => .int
abbrev wsX00 : List Cond := u_ws RX0 TX0 9
theorem nmX0 : ∀ a, a < 9 → ∀ b, b < 9 → a ≠ b → (TX0 a).2.1 ≠ (TX0 b).2.1 := by decide +kernel
theorem tyX0_ok : ∀ k, k < 9 → parseFieldDescriptor (TX0 k).2.2.1 = some (tyX0 k) := by decide +kernel
abbrev cX0_init : ByteArray := prog_2_method_1_code
def yX0_init : MethodName := ⟨RX0, "<init>", "()V"⟩
abbrev cX0_become : ByteArray := prog_2_method_2_code
def yX0_become : MethodName := ⟨RX0, "become", "(LStockPot$Pot;)V"⟩
abbrev cX0_hasRoom : ByteArray := prog_2_method_3_code
def yX0_hasRoom : MethodName := ⟨RX0, "hasRoom", "(II)Z"⟩
abbrev cX0_fill : ByteArray := prog_2_method_4_code
def yX0_fill : MethodName := ⟨RX0, "fill", "(II)V"⟩
abbrev cX0_tasteOf : ByteArray := prog_2_method_5_code
def yX0_tasteOf : MethodName := ⟨RX0, "tasteOf", "(I)I"⟩
abbrev cX0_isVague : ByteArray := prog_2_method_6_code
def yX0_isVague : MethodName := ⟨RX0, "isVague", "()Z"⟩
abbrev cX0_partsThere : ByteArray := prog_2_method_7_code
def yX0_partsThere : MethodName := ⟨RX0, "partsThere", "()I"⟩
abbrev cX0_fullestPart : ByteArray := prog_2_method_8_code
def yX0_fullestPart : MethodName := ⟨RX0, "fullestPart", "()I"⟩
abbrev cX0_leastTaste : ByteArray := prog_2_method_9_code
def yX0_leastTaste : MethodName := ⟨RX0, "leastTaste", "(I)I"⟩
abbrev cX0_measure : ByteArray := prog_2_method_10_code
def yX0_measure : MethodName := ⟨RX0, "measure", "(I)I"⟩
abbrev cX0_takeOut : ByteArray := prog_2_method_11_code
def yX0_takeOut : MethodName := ⟨RX0, "takeOut", "(I)I"⟩
abbrev cX0_isStaffed : ByteArray := prog_2_method_12_code
def yX0_isStaffed : MethodName := ⟨RX0, "isStaffed", "()Z"⟩
abbrev cX0_hire : ByteArray := prog_2_method_13_code
def yX0_hire : MethodName := ⟨RX0, "hire", "(I)I"⟩
abbrev cX0_exchange : ByteArray := prog_2_method_14_code
def yX0_exchange : MethodName := ⟨RX0, "exchange", "(II)V"⟩
abbrev cX0_exchangeIn : ByteArray := prog_2_method_15_code
def yX0_exchangeIn : MethodName := ⟨RX0, "exchangeIn", "([III)V"⟩
abbrev cX0_waterAllBut : ByteArray := prog_2_method_16_code
def yX0_waterAllBut : MethodName := ⟨RX0, "waterAllBut", "(I)V"⟩
abbrev cX0_weightOfAll : ByteArray := prog_2_method_17_code
def yX0_weightOfAll : MethodName := ⟨RX0, "weightOfAll", "()I"⟩
abbrev cX0_whoseTurn : ByteArray := prog_2_method_18_code
def yX0_whoseTurn : MethodName := ⟨RX0, "whoseTurn", "()I"⟩
abbrev cX0_takesBy : ByteArray := prog_2_method_19_code
def yX0_takesBy : MethodName := ⟨RX0, "takesBy", "(I)I"⟩
abbrev cX0_wantsBy : ByteArray := prog_2_method_20_code
def yX0_wantsBy : MethodName := ⟨RX0, "wantsBy", "(I)I"⟩
abbrev cX0_putsBy : ByteArray := prog_2_method_21_code
def yX0_putsBy : MethodName := ⟨RX0, "putsBy", "(II)I"⟩
abbrev cX0_partPutBy : ByteArray := prog_2_method_22_code
def yX0_partPutBy : MethodName := ⟨RX0, "partPutBy", "(I)I"⟩
abbrev cX0_goOn : ByteArray := prog_2_method_23_code
def yX0_goOn : MethodName := ⟨RX0, "goOn", "(I)V"⟩
abbrev cX0_serve : ByteArray := prog_2_method_24_code
def yX0_serve : MethodName := ⟨RX0, "serve", "(I)V"⟩
def RX1 : String := "StockPot$Sheet"
def TX1 : u_T := fun k => match k with
  | 0 => ("StockPot$Sheet", "numbers", "[J", true)
  | 1 => ("StockPot$Sheet", "width", "I", false)
  | _ => ("StockPot$Sheet", "size", "I", false)
def tyX1 : Nat → FieldType := fun k => match k with
  | 0 => .array .long
  | 1 => .int
  | _ => .int
abbrev wsX10 : List Cond := u_ws RX1 TX1 3
theorem nmX1 : ∀ a, a < 3 → ∀ b, b < 3 → a ≠ b → (TX1 a).2.1 ≠ (TX1 b).2.1 := by decide +kernel
theorem tyX1_ok : ∀ k, k < 3 → parseFieldDescriptor (TX1 k).2.2.1 = some (tyX1 k) := by decide +kernel
abbrev cX1_init : ByteArray := prog_3_method_1_code
def yX1_init : MethodName := ⟨RX1, "<init>", "()V"⟩
abbrev cX1_layOut : ByteArray := prog_3_method_2_code
def yX1_layOut : MethodName := ⟨RX1, "layOut", "(II)V"⟩
abbrev cX1_isMissing : ByteArray := prog_3_method_3_code
def yX1_isMissing : MethodName := ⟨RX1, "isMissing", "()Z"⟩
abbrev cX1_hasRun : ByteArray := prog_3_method_4_code
def yX1_hasRun : MethodName := ⟨RX1, "hasRun", "(II)Z"⟩
abbrev cX1_put : ByteArray := prog_3_method_5_code
def yX1_put : MethodName := ⟨RX1, "put", "(IJ)V"⟩
def RX2 : String := "StockPot$Tape"
def TX2 : u_T := fun k => match k with
  | 0 => ("StockPot$Tape", "bytes", "[B", true)
  | 1 => ("StockPot$Tape", "length", "I", false)
  | 2 => ("StockPot$Tape", "place", "I", false)
  | 3 => ("StockPot$Tape", "token", "I", false)
  | 4 => ("StockPot$Tape", "start", "I", false)
  | _ => ("StockPot$Tape", "value", "I", false)
def tyX2 : Nat → FieldType := fun k => match k with
  | 0 => .array .byte
  | 1 => .int
  | 2 => .int
  | 3 => .int
  | 4 => .int
  | _ => .int
abbrev wsX20 : List Cond := u_ws RX2 TX2 6
theorem nmX2 : ∀ a, a < 6 → ∀ b, b < 6 → a ≠ b → (TX2 a).2.1 ≠ (TX2 b).2.1 := by decide +kernel
theorem tyX2_ok : ∀ k, k < 6 → parseFieldDescriptor (TX2 k).2.2.1 = some (tyX2 k) := by decide +kernel
abbrev cX2_init : ByteArray := prog_4_method_1_code
def yX2_init : MethodName := ⟨RX2, "<init>", "()V"⟩
abbrev cX2_append : ByteArray := prog_4_method_2_code
def yX2_append : MethodName := ⟨RX2, "append", "(B)V"⟩
abbrev cX2_tellTo : ByteArray := prog_4_method_3_code
def yX2_tellTo : MethodName := ⟨RX2, "tellTo", "(LStockPot$Pot;)I"⟩
abbrev cX2_passItem : ByteArray := prog_4_method_4_code
def yX2_passItem : MethodName := ⟨RX2, "passItem", "(LStockPot$Pot;)Z"⟩
abbrev cX2_passPart : ByteArray := prog_4_method_5_code
def yX2_passPart : MethodName := ⟨RX2, "passPart", "(LStockPot$Pot;)Z"⟩
abbrev cX2_passTrait : ByteArray := prog_4_method_6_code
def yX2_passTrait : MethodName := ⟨RX2, "passTrait", "(Ljava/lang/String;[III)Z"⟩
abbrev cX2_kindNamed : ByteArray := prog_4_method_7_code
def yX2_kindNamed : MethodName := ⟨RX2, "kindNamed", "()I"⟩
abbrev cX2_isNumber : ByteArray := prog_4_method_8_code
def yX2_isNumber : MethodName := ⟨RX2, "isNumber", "(I)Z"⟩
abbrev cX2_isWord : ByteArray := prog_4_method_9_code
def yX2_isWord : MethodName := ⟨RX2, "isWord", "(Ljava/lang/String;)Z"⟩
abbrev cX2_step : ByteArray := prog_4_method_10_code
def yX2_step : MethodName := ⟨RX2, "step", "()V"⟩
abbrev cX2_stepWord : ByteArray := prog_4_method_11_code
def yX2_stepWord : MethodName := ⟨RX2, "stepWord", "()V"⟩
abbrev cX2_stepNumber : ByteArray := prog_4_method_12_code
def yX2_stepNumber : MethodName := ⟨RX2, "stepNumber", "()V"⟩
abbrev cX2_isAmong : ByteArray := prog_4_method_13_code
def yX2_isAmong : MethodName := ⟨RX2, "isAmong", "(CC)Z"⟩
def RX3 : String := "StockPot"
def TX3 : u_T := fun k => match k with
  | 0 => ("StockPot", "pot", "LStockPot$Pot;", true)
  | 1 => ("StockPot", "keptPot", "LStockPot$Pot;", true)
  | 2 => ("StockPot", "trial", "LStockPot$Pot;", true)
  | 3 => ("StockPot", "tape", "LStockPot$Tape;", true)
  | 4 => ("StockPot", "sheets", "[LStockPot$Sheet;", true)
  | 5 => ("StockPot", "tally", "[I", true)
  | _ => ("StockPot", "isKept", "Z", false)
def tyX3 : Nat → FieldType := fun k => match k with
  | 0 => .object "StockPot$Pot"
  | 1 => .object "StockPot$Pot"
  | 2 => .object "StockPot$Pot"
  | 3 => .object "StockPot$Tape"
  | 4 => .array (.object "StockPot$Sheet")
  | 5 => .array .int
  | _ => .boolean
abbrev wsX30 : List Cond := u_ws RX3 TX3 7
theorem nmX3 : ∀ a, a < 7 → ∀ b, b < 7 → a ≠ b → (TX3 a).2.1 ≠ (TX3 b).2.1 := by decide +kernel
theorem tyX3_ok : ∀ k, k < 7 → parseFieldDescriptor (TX3 k).2.2.1 = some (tyX3 k) := by decide +kernel
abbrev cX3_init : ByteArray := prog_1_method_1_code
def yX3_init : MethodName := ⟨RX3, "<init>", "()V"⟩
abbrev cX3_grains : ByteArray := prog_1_method_2_code
def yX3_grains : MethodName := ⟨RX3, "grains", "(I)I"⟩
abbrev cX3_pour : ByteArray := prog_1_method_3_code
def yX3_pour : MethodName := ⟨RX3, "pour", "(II)I"⟩
abbrev cX3_taste : ByteArray := prog_1_method_4_code
def yX3_taste : MethodName := ⟨RX3, "taste", "(I)I"⟩
abbrev cX3_spoon : ByteArray := prog_1_method_5_code
def yX3_spoon : MethodName := ⟨RX3, "spoon", "(I)I"⟩
abbrev cX3_spoonOf : ByteArray := prog_1_method_6_code
def yX3_spoonOf : MethodName := ⟨RX3, "spoonOf", "(II)I"⟩
abbrev cX3_cook : ByteArray := prog_1_method_7_code
def yX3_cook : MethodName := ⟨RX3, "cook", "(I)I"⟩
abbrev cX3_of : ByteArray := prog_1_method_8_code
def yX3_of : MethodName := ⟨RX3, "of", "(II)I"⟩
abbrev cX3_set : ByteArray := prog_1_method_9_code
def yX3_set : MethodName := ⟨RX3, "set", "(III)I"⟩
abbrev cX3_turn : ByteArray := prog_1_method_10_code
def yX3_turn : MethodName := ⟨RX3, "turn", "(II)I"⟩
abbrev cX3_as : ByteArray := prog_1_method_11_code
def yX3_as : MethodName := ⟨RX3, "as", "(II)I"⟩
abbrev cX3_swap : ByteArray := prog_1_method_12_code
def yX3_swap : MethodName := ⟨RX3, "swap", "(II)I"⟩
abbrev cX3_years : ByteArray := prog_1_method_13_code
def yX3_years : MethodName := ⟨RX3, "years", "(I)I"⟩
abbrev cX3_now : ByteArray := prog_1_method_14_code
def yX3_now : MethodName := ⟨RX3, "now", "(I)I"⟩
abbrev cX3_on : ByteArray := prog_1_method_15_code
def yX3_on : MethodName := ⟨RX3, "on", "(III)I"⟩
abbrev cX3_vague : ByteArray := prog_1_method_16_code
def yX3_vague : MethodName := ⟨RX3, "vague", "()I"⟩
abbrev cX3_gone : ByteArray := prog_1_method_17_code
def yX3_gone : MethodName := ⟨RX3, "gone", "(II)I"⟩
abbrev cX3_strong : ByteArray := prog_1_method_18_code
def yX3_strong : MethodName := ⟨RX3, "strong", "(II)I"⟩
abbrev cX3_better : ByteArray := prog_1_method_19_code
def yX3_better : MethodName := ⟨RX3, "better", "(II)I"⟩
abbrev cX3_weight : ByteArray := prog_1_method_20_code
def yX3_weight : MethodName := ⟨RX3, "weight", "(IIII)I"⟩
abbrev cX3_kind : ByteArray := prog_1_method_21_code
def yX3_kind : MethodName := ⟨RX3, "kind", "(III)I"⟩
abbrev cX3_puts : ByteArray := prog_1_method_22_code
def yX3_puts : MethodName := ⟨RX3, "puts", "(II)I"⟩
abbrev cX3_best : ByteArray := prog_1_method_23_code
def yX3_best : MethodName := ⟨RX3, "best", "(I)I"⟩
abbrev cX3_dull : ByteArray := prog_1_method_24_code
def yX3_dull : MethodName := ⟨RX3, "dull", "(I)I"⟩
abbrev cX3_feed : ByteArray := prog_1_method_25_code
def yX3_feed : MethodName := ⟨RX3, "feed", "(II)I"⟩
abbrev cX3_wipe : ByteArray := prog_1_method_26_code
def yX3_wipe : MethodName := ⟨RX3, "wipe", "()I"⟩
abbrev cX3_college : ByteArray := prog_1_method_27_code
def yX3_college : MethodName := ⟨RX3, "college", "()I"⟩
abbrev cX3_sheet : ByteArray := prog_1_method_28_code
def yX3_sheet : MethodName := ⟨RX3, "sheet", "(III)I"⟩
abbrev cX3_write : ByteArray := prog_1_method_29_code
def yX3_write : MethodName := ⟨RX3, "write", "(IIJ)J"⟩
abbrev cX3_copy : ByteArray := prog_1_method_30_code
def yX3_copy : MethodName := ⟨RX3, "copy", "(IIIII)I"⟩
abbrev cX3_lays : ByteArray := prog_1_method_31_code
def yX3_lays : MethodName := ⟨RX3, "lays", "(I)I"⟩
abbrev cX3_book : ByteArray := prog_1_method_32_code
def yX3_book : MethodName := ⟨RX3, "book", "(II)I"⟩
abbrev cX3_read : ByteArray := prog_1_method_33_code
def yX3_read : MethodName := ⟨RX3, "read", "(III)I"⟩
abbrev cX3_image : ByteArray := prog_1_method_34_code
def yX3_image : MethodName := ⟨RX3, "image", "()I"⟩
abbrev cX3_undo : ByteArray := prog_1_method_35_code
def yX3_undo : MethodName := ⟨RX3, "undo", "()I"⟩
abbrev cX3_tear : ByteArray := prog_1_method_36_code
def yX3_tear : MethodName := ⟨RX3, "tear", "()I"⟩
abbrev cX3_count : ByteArray := prog_1_method_37_code
def yX3_count : MethodName := ⟨RX3, "count", "(I)I"⟩
abbrev cX3_status : ByteArray := prog_1_method_38_code
def yX3_status : MethodName := ⟨RX3, "status", "(I)I"⟩
abbrev cX3_finding : ByteArray := prog_1_method_39_code
def yX3_finding : MethodName := ⟨RX3, "finding", "(I)I"⟩
abbrev cX3_startTrial : ByteArray := prog_1_method_40_code
def yX3_startTrial : MethodName := ⟨RX3, "startTrial", "()V"⟩
abbrev cX3_replace : ByteArray := prog_1_method_41_code
def yX3_replace : MethodName := ⟨RX3, "replace", "([IIII)I"⟩
abbrev cX3_tastesAsWritten : ByteArray := prog_1_method_42_code
def yX3_tastesAsWritten : MethodName := ⟨RX3, "tastesAsWritten", "(LStockPot$Sheet;I)Z"⟩
abbrev cX3_isCook : ByteArray := prog_1_method_43_code
def yX3_isCook : MethodName := ⟨RX3, "isCook", "(I)Z"⟩
abbrev cX3_isPart : ByteArray := prog_1_method_44_code
def yX3_isPart : MethodName := ⟨RX3, "isPart", "(I)Z"⟩
abbrev cX3_isKind : ByteArray := prog_1_method_45_code
def yX3_isKind : MethodName := ⟨RX3, "isKind", "(I)Z"⟩
abbrev cX3_isSheet : ByteArray := prog_1_method_46_code
def yX3_isSheet : MethodName := ⟨RX3, "isSheet", "(I)Z"⟩
abbrev cX3_isWidth : ByteArray := prog_1_method_47_code
def yX3_isWidth : MethodName := ⟨RX3, "isWidth", "(I)Z"⟩
abbrev cX3_isWithin : ByteArray := prog_1_method_48_code
def yX3_isWithin : MethodName := ⟨RX3, "isWithin", "(III)Z"⟩
abbrev cX3_isUnder : ByteArray := prog_1_method_49_code
def yX3_isUnder : MethodName := ⟨RX3, "isUnder", "(II)Z"⟩
def RX4 : String := "StockPotModel"
def TX4 : u_T := fun k => match k with
  | 0 => ("StockPotModel", "s", "[I", true)
  | 1 => ("StockPotModel", "keptS", "[I", true)
  | 2 => ("StockPotModel", "other", "[I", true)
  | 3 => ("StockPotModel", "aside", "[I", true)
  | 4 => ("StockPotModel", "statuses", "[I", true)
  | 5 => ("StockPotModel", "isKept", "Z", false)
  | 6 => ("StockPotModel", "taken", "[I", true)
  | 7 => ("StockPotModel", "tape", "[I", true)
  | 8 => ("StockPotModel", "taped", "I", false)
  | 9 => ("StockPotModel", "from", "I", false)
  | 10 => ("StockPotModel", "to", "I", false)
  | 11 => ("StockPotModel", "value", "I", false)
  | 12 => ("StockPotModel", "isWrong", "Z", false)
  | 13 => ("StockPotModel", "bitsOf", "[I", true)
  | 14 => ("StockPotModel", "sizeOf", "[I", true)
  | 15 => ("StockPotModel", "numbers", "[J", true)
  | _ => ("StockPotModel", "moved", "[J", true)
def tyX4 : Nat → FieldType := fun k => match k with
  | 0 => .array .int
  | 1 => .array .int
  | 2 => .array .int
  | 3 => .array .int
  | 4 => .array .int
  | 5 => .boolean
  | 6 => .array .int
  | 7 => .array .int
  | 8 => .int
  | 9 => .int
  | 10 => .int
  | 11 => .int
  | 12 => .boolean
  | 13 => .array .int
  | 14 => .array .int
  | 15 => .array .long
  | _ => .array .long
abbrev wsX40 : List Cond := u_ws RX4 TX4 17
theorem nmX4 : ∀ a, a < 17 → ∀ b, b < 17 → a ≠ b → (TX4 a).2.1 ≠ (TX4 b).2.1 := by decide +kernel
theorem tyX4_ok : ∀ k, k < 17 → parseFieldDescriptor (TX4 k).2.2.1 = some (tyX4 k) := by decide +kernel
abbrev cX4_init : ByteArray := prog_6_method_1_code
def yX4_init : MethodName := ⟨RX4, "<init>", "()V"⟩
abbrev cX4_in : ByteArray := prog_6_method_2_code
def yX4_in : MethodName := ⟨RX4, "in", "(JJJ)Z"⟩
abbrev cX4_finds : ByteArray := prog_6_method_3_code
def yX4_finds : MethodName := ⟨RX4, "finds", "(I)I"⟩
abbrev cX4_saves : ByteArray := prog_6_method_4_code
def yX4_saves : MethodName := ⟨RX4, "saves", "()V"⟩
abbrev cX4_putsBack : ByteArray := prog_6_method_5_code
def yX4_putsBack : MethodName := ⟨RX4, "putsBack", "()V"⟩
abbrev cX4_laysAside : ByteArray := prog_6_method_6_code
def yX4_laysAside : MethodName := ⟨RX4, "laysAside", "()V"⟩
abbrev cX4_takesBack : ByteArray := prog_6_method_7_code
def yX4_takesBack : MethodName := ⟨RX4, "takesBack", "(I)I"⟩
abbrev cX4_becomes : ByteArray := prog_6_method_8_code
def yX4_becomes : MethodName := ⟨RX4, "becomes", "(II)I"⟩
abbrev cX4_isPart : ByteArray := prog_6_method_9_code
def yX4_isPart : MethodName := ⟨RX4, "isPart", "(I)Z"⟩
abbrev cX4_isCook : ByteArray := prog_6_method_10_code
def yX4_isCook : MethodName := ⟨RX4, "isCook", "(I)Z"⟩
abbrev cX4_areTwo : ByteArray := prog_6_method_11_code
def yX4_areTwo : MethodName := ⟨RX4, "areTwo", "(II)Z"⟩
abbrev cX4_isKind : ByteArray := prog_6_method_12_code
def yX4_isKind : MethodName := ⟨RX4, "isKind", "(I)Z"⟩
abbrev cX4_spotOf : ByteArray := prog_6_method_13_code
def yX4_spotOf : MethodName := ⟨RX4, "spotOf", "(II)I"⟩
abbrev cX4_its : ByteArray := prog_6_method_14_code
def yX4_its : MethodName := ⟨RX4, "its", "(II)I"⟩
abbrev cX4_all : ByteArray := prog_6_method_15_code
def yX4_all : MethodName := ⟨RX4, "all", "()I"⟩
abbrev cX4_grains : ByteArray := prog_6_method_16_code
def yX4_grains : MethodName := ⟨RX4, "grains", "(I)I"⟩
abbrev cX4_pour : ByteArray := prog_6_method_17_code
def yX4_pour : MethodName := ⟨RX4, "pour", "(II)I"⟩
abbrev cX4_tasteOf : ByteArray := prog_6_method_18_code
def yX4_tasteOf : MethodName := ⟨RX4, "tasteOf", "(I)I"⟩
abbrev cX4_taste : ByteArray := prog_6_method_19_code
def yX4_taste : MethodName := ⟨RX4, "taste", "(I)I"⟩
abbrev cX4_isVague : ByteArray := prog_6_method_20_code
def yX4_isVague : MethodName := ⟨RX4, "isVague", "()Z"⟩
abbrev cX4_takesOut : ByteArray := prog_6_method_21_code
def yX4_takesOut : MethodName := ⟨RX4, "takesOut", "(I)I"⟩
abbrev cX4_isSpoon : ByteArray := prog_6_method_22_code
def yX4_isSpoon : MethodName := ⟨RX4, "isSpoon", "(I)Z"⟩
abbrev cX4_spoon : ByteArray := prog_6_method_23_code
def yX4_spoon : MethodName := ⟨RX4, "spoon", "(I)I"⟩
abbrev cX4_spoonOf : ByteArray := prog_6_method_24_code
def yX4_spoonOf : MethodName := ⟨RX4, "spoonOf", "(II)I"⟩
abbrev cX4_adds : ByteArray := prog_6_method_25_code
def yX4_adds : MethodName := ⟨RX4, "adds", "(I)I"⟩
abbrev cX4_cook : ByteArray := prog_6_method_26_code
def yX4_cook : MethodName := ⟨RX4, "cook", "(I)I"⟩
abbrev cX4_wants : ByteArray := prog_6_method_27_code
def yX4_wants : MethodName := ⟨RX4, "wants", "(I)I"⟩
abbrev cX4_takesOf : ByteArray := prog_6_method_28_code
def yX4_takesOf : MethodName := ⟨RX4, "takesOf", "(I)I"⟩
abbrev cX4_atLeastNothing : ByteArray := prog_6_method_29_code
def yX4_atLeastNothing : MethodName := ⟨RX4, "atLeastNothing", "(I)I"⟩
abbrev cX4_putsOf : ByteArray := prog_6_method_30_code
def yX4_putsOf : MethodName := ⟨RX4, "putsOf", "(II)I"⟩
abbrev cX4_whatOf : ByteArray := prog_6_method_31_code
def yX4_whatOf : MethodName := ⟨RX4, "whatOf", "(I)I"⟩
abbrev cX4_of : ByteArray := prog_6_method_32_code
def yX4_of : MethodName := ⟨RX4, "of", "(II)I"⟩
abbrev cX4_set : ByteArray := prog_6_method_33_code
def yX4_set : MethodName := ⟨RX4, "set", "(III)I"⟩
abbrev cX4_turn : ByteArray := prog_6_method_34_code
def yX4_turn : MethodName := ⟨RX4, "turn", "(II)I"⟩
abbrev cX4_isUnder : ByteArray := prog_6_method_35_code
def yX4_isUnder : MethodName := ⟨RX4, "isUnder", "(II)Z"⟩
abbrev cX4_as : ByteArray := prog_6_method_36_code
def yX4_as : MethodName := ⟨RX4, "as", "(II)I"⟩
abbrev cX4_swaps : ByteArray := prog_6_method_37_code
def yX4_swaps : MethodName := ⟨RX4, "swaps", "(II)V"⟩
abbrev cX4_swap : ByteArray := prog_6_method_38_code
def yX4_swap : MethodName := ⟨RX4, "swap", "(II)I"⟩
abbrev cX4_year : ByteArray := prog_6_method_39_code
def yX4_year : MethodName := ⟨RX4, "year", "()V"⟩
abbrev cX4_yearsGo : ByteArray := prog_6_method_40_code
def yX4_yearsGo : MethodName := ⟨RX4, "yearsGo", "(I)V"⟩
abbrev cX4_years : ByteArray := prog_6_method_41_code
def yX4_years : MethodName := ⟨RX4, "years", "(I)I"⟩
abbrev cX4_present : ByteArray := prog_6_method_42_code
def yX4_present : MethodName := ⟨RX4, "present", "()I"⟩
abbrev cX4_mostPart : ByteArray := prog_6_method_43_code
def yX4_mostPart : MethodName := ⟨RX4, "mostPart", "()I"⟩
abbrev cX4_now : ByteArray := prog_6_method_44_code
def yX4_now : MethodName := ⟨RX4, "now", "(I)I"⟩
abbrev cX4_on : ByteArray := prog_6_method_45_code
def yX4_on : MethodName := ⟨RX4, "on", "(III)I"⟩
abbrev cX4_isSo : ByteArray := prog_6_method_46_code
def yX4_isSo : MethodName := ⟨RX4, "isSo", "(III)Z"⟩
abbrev cX4_firstSo : ByteArray := prog_6_method_47_code
def yX4_firstSo : MethodName := ⟨RX4, "firstSo", "(III)I"⟩
abbrev cX4_vague : ByteArray := prog_6_method_48_code
def yX4_vague : MethodName := ⟨RX4, "vague", "()I"⟩
abbrev cX4_gone : ByteArray := prog_6_method_49_code
def yX4_gone : MethodName := ⟨RX4, "gone", "(II)I"⟩
abbrev cX4_strong : ByteArray := prog_6_method_50_code
def yX4_strong : MethodName := ⟨RX4, "strong", "(II)I"⟩
abbrev cX4_isSoon : ByteArray := prog_6_method_51_code
def yX4_isSoon : MethodName := ⟨RX4, "isSoon", "(I)Z"⟩
abbrev cX4_behind : ByteArray := prog_6_method_52_code
def yX4_behind : MethodName := ⟨RX4, "behind", "(II)I"⟩
abbrev cX4_better : ByteArray := prog_6_method_53_code
def yX4_better : MethodName := ⟨RX4, "better", "(II)I"⟩
abbrev cX4_weight : ByteArray := prog_6_method_54_code
def yX4_weight : MethodName := ⟨RX4, "weight", "(IIII)I"⟩
abbrev cX4_kind : ByteArray := prog_6_method_55_code
def yX4_kind : MethodName := ⟨RX4, "kind", "(III)I"⟩
abbrev cX4_leastTaste : ByteArray := prog_6_method_56_code
def yX4_leastTaste : MethodName := ⟨RX4, "leastTaste", "(I)I"⟩
abbrev cX4_puts : ByteArray := prog_6_method_57_code
def yX4_puts : MethodName := ⟨RX4, "puts", "(II)I"⟩
abbrev cX4_best : ByteArray := prog_6_method_58_code
def yX4_best : MethodName := ⟨RX4, "best", "(I)I"⟩
abbrev cX4_dull : ByteArray := prog_6_method_59_code
def yX4_dull : MethodName := ⟨RX4, "dull", "(I)I"⟩
abbrev cX4_feed : ByteArray := prog_6_method_60_code
def yX4_feed : MethodName := ⟨RX4, "feed", "(II)I"⟩
abbrev cX4_wipe : ByteArray := prog_6_method_61_code
def yX4_wipe : MethodName := ⟨RX4, "wipe", "()I"⟩
abbrev cX4_byteAt : ByteArray := prog_6_method_62_code
def yX4_byteAt : MethodName := ⟨RX4, "byteAt", "(I)I"⟩
abbrev cX4_isLetter : ByteArray := prog_6_method_63_code
def yX4_isLetter : MethodName := ⟨RX4, "isLetter", "(I)Z"⟩
abbrev cX4_isDigit : ByteArray := prog_6_method_64_code
def yX4_isDigit : MethodName := ⟨RX4, "isDigit", "(I)Z"⟩
abbrev cX4_token : ByteArray := prog_6_method_65_code
def yX4_token : MethodName := ⟨RX4, "token", "()V"⟩
abbrev cX4_must : ByteArray := prog_6_method_66_code
def yX4_must : MethodName := ⟨RX4, "must", "(Z)V"⟩
abbrev cX4_word : ByteArray := prog_6_method_67_code
def yX4_word : MethodName := ⟨RX4, "word", "()J"⟩
abbrev cX4_number : ByteArray := prog_6_method_68_code
def yX4_number : MethodName := ⟨RX4, "number", "(II)V"⟩
abbrev cX4_kindHere : ByteArray := prog_6_method_69_code
def yX4_kindHere : MethodName := ⟨RX4, "kindHere", "()I"⟩
abbrev cX4_partItem : ByteArray := prog_6_method_70_code
def yX4_partItem : MethodName := ⟨RX4, "partItem", "(JII)V"⟩
abbrev cX4_cookItem : ByteArray := prog_6_method_71_code
def yX4_cookItem : MethodName := ⟨RX4, "cookItem", "(I)V"⟩
abbrev cX4_grainsItem : ByteArray := prog_6_method_72_code
def yX4_grainsItem : MethodName := ⟨RX4, "grainsItem", "()V"⟩
abbrev cX4_item : ByteArray := prog_6_method_73_code
def yX4_item : MethodName := ⟨RX4, "item", "()V"⟩
abbrev cX4_college : ByteArray := prog_6_method_74_code
def yX4_college : MethodName := ⟨RX4, "college", "()I"⟩
abbrev cX4_isOne : ByteArray := prog_6_method_75_code
def yX4_isOne : MethodName := ⟨RX4, "isOne", "(I)Z"⟩
abbrev cX4_sheet : ByteArray := prog_6_method_76_code
def yX4_sheet : MethodName := ⟨RX4, "sheet", "(III)I"⟩
abbrev cX4_narrowed : ByteArray := prog_6_method_77_code
def yX4_narrowed : MethodName := ⟨RX4, "narrowed", "(IJ)J"⟩
abbrev cX4_wrongSheet : ByteArray := prog_6_method_78_code
def yX4_wrongSheet : MethodName := ⟨RX4, "wrongSheet", "(I)I"⟩
abbrev cX4_write : ByteArray := prog_6_method_79_code
def yX4_write : MethodName := ⟨RX4, "write", "(IIJ)J"⟩
abbrev cX4_copy : ByteArray := prog_6_method_80_code
def yX4_copy : MethodName := ⟨RX4, "copy", "(IIIII)I"⟩
abbrev cX4_lays : ByteArray := prog_6_method_81_code
def yX4_lays : MethodName := ⟨RX4, "lays", "(I)I"⟩
abbrev cX4_book : ByteArray := prog_6_method_82_code
def yX4_book : MethodName := ⟨RX4, "book", "(II)I"⟩
abbrev cX4_isBook : ByteArray := prog_6_method_83_code
def yX4_isBook : MethodName := ⟨RX4, "isBook", "(II)Z"⟩
abbrev cX4_read : ByteArray := prog_6_method_84_code
def yX4_read : MethodName := ⟨RX4, "read", "(III)I"⟩
abbrev cX4_image : ByteArray := prog_6_method_85_code
def yX4_image : MethodName := ⟨RX4, "image", "()I"⟩
abbrev cX4_undo : ByteArray := prog_6_method_86_code
def yX4_undo : MethodName := ⟨RX4, "undo", "()I"⟩
abbrev cX4_tear : ByteArray := prog_6_method_87_code
def yX4_tear : MethodName := ⟨RX4, "tear", "()I"⟩
abbrev cX4_weights : ByteArray := prog_6_method_88_code
def yX4_weights : MethodName := ⟨RX4, "weights", "()I"⟩
abbrev cX4_missing : ByteArray := prog_6_method_89_code
def yX4_missing : MethodName := ⟨RX4, "missing", "()I"⟩
abbrev cX4_count : ByteArray := prog_6_method_90_code
def yX4_count : MethodName := ⟨RX4, "count", "(I)I"⟩
abbrev cX4_status : ByteArray := prog_6_method_91_code
def yX4_status : MethodName := ⟨RX4, "status", "(I)I"⟩
def RJ6 : String := "java/lang/Integer"
def TJ6 : u_T := fun k => match k with
  | _ => ("", "", "", false)
def tyJ6 : Nat → FieldType := fun k => match k with
  | _ => .int
abbrev cJ6_bitCount_0f7a4 : ByteArray := prog_7_method_49_code
def yJ6_bitCount_0f7a4 : MethodName := ⟨RJ6, "bitCount", "(I)I"⟩
def RJ9 : String := "java/lang/Math"
def TJ9 : u_T := fun k => match k with
  | _ => ("", "", "", false)
def tyJ9 : Nat → FieldType := fun k => match k with
  | _ => .int
abbrev cJ9_max_7cf53 : ByteArray := prog_8_method_65_code
def yJ9_max_7cf53 : MethodName := ⟨RJ9, "max", "(II)I"⟩
abbrev cJ9_min_7cf53 : ByteArray := prog_8_method_69_code
def yJ9_min_7cf53 : MethodName := ⟨RJ9, "min", "(II)I"⟩
def RJ0 : String := "java/lang/String"
def TJ0 : u_T := fun k => match k with
  | _ => ("", "", "", false)
def tyJ0 : Nat → FieldType := fun k => match k with
  | _ => .int
abbrev cJ0_length_8abf5 : ByteArray := prog_9_method_54_code
def yJ0_length_8abf5 : MethodName := ⟨RJ0, "length", "()I"⟩
abbrev cJ0_charAt_5068e : ByteArray := prog_9_method_56_code
def yJ0_charAt_5068e : MethodName := ⟨RJ0, "charAt", "(I)C"⟩
abbrev cJ0_coder_7d493 : ByteArray := prog_9_method_152_code
def yJ0_coder_7d493 : MethodName := ⟨RJ0, "coder", "()B"⟩
abbrev cJ0_isLatin1_aae02 : ByteArray := prog_9_method_154_code
def yJ0_isLatin1_aae02 : MethodName := ⟨RJ0, "isLatin1", "()Z"⟩
abbrev cJ0_checkIndex_df160 : ByteArray := prog_9_method_155_code
def yJ0_checkIndex_df160 : MethodName := ⟨RJ0, "checkIndex", "(II)V"⟩
def RJ1 : String := "java/lang/StringLatin1"
def TJ1 : u_T := fun k => match k with
  | _ => ("", "", "", false)
def tyJ1 : Nat → FieldType := fun k => match k with
  | _ => .int
abbrev cJ1_charAt_3b067 : ByteArray := prog_10_method_2_code
def yJ1_charAt_3b067 : MethodName := ⟨RJ1, "charAt", "([BI)C"⟩
def RJ2 : String := "java/lang/StringUTF16"
def TJ2 : u_T := fun k => match k with
  | _ => ("", "", "", false)
def tyJ2 : Nat → FieldType := fun k => match k with
  | _ => .int
abbrev cJ2_getChar_3b067 : ByteArray := prog_11_method_5_code
def yJ2_getChar_3b067 : MethodName := ⟨RJ2, "getChar", "([BI)C"⟩
abbrev cJ2_length_9d52b : ByteArray := prog_11_method_6_code
def yJ2_length_9d52b : MethodName := ⟨RJ2, "length", "([B)I"⟩
abbrev cJ2_charAt_3b067 : ByteArray := prog_11_method_83_code
def yJ2_charAt_3b067 : MethodName := ⟨RJ2, "charAt", "([BI)C"⟩
abbrev cJ2_checkIndex_2214a : ByteArray := prog_11_method_91_code
def yJ2_checkIndex_2214a : MethodName := ⟨RJ2, "checkIndex", "(I[B)V"⟩
def RJ10 : String := "java/lang/System"
def TJ10 : u_T := fun k => match k with
  | _ => ("", "", "", false)
def tyJ10 : Nat → FieldType := fun k => match k with
  | _ => .int
def RJ3 : String := "jdk/internal/util/Preconditions"
def TJ3 : u_T := fun k => match k with
  | _ => ("", "", "", false)
def tyJ3 : Nat → FieldType := fun k => match k with
  | _ => .int
abbrev cJ3_checkIndex_8e157 : ByteArray := prog_13_method_11_code
def yJ3_checkIndex_8e157 : MethodName := ⟨RJ3, "checkIndex", "(IILjava/util/function/BiFunction;)I"⟩
def RL : String := "StockPotLaw"
abbrev cL_law : ByteArray := code
def yL_law : MethodName := ⟨RL, "law", "([I)Z"⟩
abbrev vwCl : List vw_C := [(RX0, TX0, 9), (RX1, TX1, 3), (RX2, TX2, 6), (RX3, TX3, 7), (RX4, TX4, 17)]
/-- the tables' words that stay true while the machine runs -/
def TB : List Cond := lw_tbl.filter goodWord
theorem tb_in {w : Cond} {i : Nat} (h : lw_tbl[i]? = some w) (hg : goodWord w = true) : w ∈ TB := List.mem_filter.mpr ⟨List.mem_of_getElem? h, hg⟩
theorem tb_of {w : Cond} (h : w ∈ TB) : w ∈ lw_tbl := (List.mem_filter.mp h).1
theorem tb_good {w : Cond} (h : w ∈ TB) : (w.onTables && w.keeps) = true ∨ ∃ ty, w = .arrayClass ty := good_of_word (List.mem_filter.mp h).2
