-- ===== PART A: goes FIRST, ahead of the names: the tables' words, and 'selects' of the private methods out of them =====
/-- a private method of a class that the tables say can be made, by its rows of tables_1 -/
def lw_okq (q : MethodName × Nat) : Prop := (q.1.cls ≠ "java/lang/invoke/MethodHandle" ∧ q.1.cls ≠ "java/lang/invoke/VarHandle") ∧ Cond.instantiable q.1.cls q.2 ∈ tables_1 ∧ Cond.privateMethod q.1 ∈ tables_1 ∧ Cond.instanceMethod q.1 ∈ tables_1
theorem lw_p0 : lw_okq (⟨"FuseFrames", "refused", "(I)I"⟩, 17) := ⟨⟨by decide +kernel, by decide +kernel⟩, List.mem_of_getElem? (i := 19) (by decide +kernel), List.mem_of_getElem? (i := 356) (by decide +kernel), List.mem_of_getElem? (i := 357) (by decide +kernel)⟩
theorem lw_p1 : lw_okq (⟨"FuseFrames", "answered", "(I)I"⟩, 17) := ⟨⟨by decide +kernel, by decide +kernel⟩, List.mem_of_getElem? (i := 19) (by decide +kernel), List.mem_of_getElem? (i := 364) (by decide +kernel), List.mem_of_getElem? (i := 365) (by decide +kernel)⟩
theorem lw_p2 : lw_okq (⟨"FuseFrames", "burning", "(II)I"⟩, 17) := ⟨⟨by decide +kernel, by decide +kernel⟩, List.mem_of_getElem? (i := 19) (by decide +kernel), List.mem_of_getElem? (i := 379) (by decide +kernel), List.mem_of_getElem? (i := 380) (by decide +kernel)⟩
theorem lw_p3 : lw_okq (⟨"FuseFrames$Fire", "told", "(LFuseFrames$Script;I)I"⟩, 7) := ⟨⟨by decide +kernel, by decide +kernel⟩, List.mem_of_getElem? (i := 259) (by decide +kernel), List.mem_of_getElem? (i := 400) (by decide +kernel), List.mem_of_getElem? (i := 401) (by decide +kernel)⟩
theorem lw_p4 : lw_okq (⟨"FuseFrames$Fire", "measureKnot", "(LFuseFrames$Frame;LFuseFrames$Script;I)V"⟩, 7) := ⟨⟨by decide +kernel, by decide +kernel⟩, List.mem_of_getElem? (i := 259) (by decide +kernel), List.mem_of_getElem? (i := 420) (by decide +kernel), List.mem_of_getElem? (i := 421) (by decide +kernel)⟩
theorem lw_p5 : lw_okq (⟨"FuseFrames$Fire", "spread", "(LFuseFrames$Frame;)V"⟩, 7) := ⟨⟨by decide +kernel, by decide +kernel⟩, List.mem_of_getElem? (i := 259) (by decide +kernel), List.mem_of_getElem? (i := 439) (by decide +kernel), List.mem_of_getElem? (i := 440) (by decide +kernel)⟩
theorem lw_p6 : lw_okq (⟨"FuseFrames$Fire", "carried", "(III)Z"⟩, 7) := ⟨⟨by decide +kernel, by decide +kernel⟩, List.mem_of_getElem? (i := 259) (by decide +kernel), List.mem_of_getElem? (i := 443) (by decide +kernel), List.mem_of_getElem? (i := 444) (by decide +kernel)⟩
theorem lw_p7 : lw_okq (⟨"FuseFrames", "tieFromTape", "(I)Z"⟩, 17) := ⟨⟨by decide +kernel, by decide +kernel⟩, List.mem_of_getElem? (i := 19) (by decide +kernel), List.mem_of_getElem? (i := 486) (by decide +kernel), List.mem_of_getElem? (i := 487) (by decide +kernel)⟩
theorem lw_p8 : lw_okq (⟨"FuseFrames$Reader", "split", "(LFuseFrames$Tape;)V"⟩, 9) := ⟨⟨by decide +kernel, by decide +kernel⟩, List.mem_of_getElem? (i := 156) (by decide +kernel), List.mem_of_getElem? (i := 506) (by decide +kernel), List.mem_of_getElem? (i := 507) (by decide +kernel)⟩
theorem lw_p9 : lw_okq (⟨"FuseFrames$Reader", "addToken", "(III)V"⟩, 9) := ⟨⟨by decide +kernel, by decide +kernel⟩, List.mem_of_getElem? (i := 156) (by decide +kernel), List.mem_of_getElem? (i := 601) (by decide +kernel), List.mem_of_getElem? (i := 602) (by decide +kernel)⟩
theorem lw_p10 : lw_okq (⟨"FuseFrames$Reader", "fail", "()V"⟩, 9) := ⟨⟨by decide +kernel, by decide +kernel⟩, List.mem_of_getElem? (i := 156) (by decide +kernel), List.mem_of_getElem? (i := 615) (by decide +kernel), List.mem_of_getElem? (i := 616) (by decide +kernel)⟩
theorem lw_p11 : lw_okq (⟨"FuseFrames$Reader", "clause", "()V"⟩, 9) := ⟨⟨by decide +kernel, by decide +kernel⟩, List.mem_of_getElem? (i := 156) (by decide +kernel), List.mem_of_getElem? (i := 619) (by decide +kernel), List.mem_of_getElem? (i := 620) (by decide +kernel)⟩
theorem lw_p12 : lw_okq (⟨"FuseFrames$Reader", "goOn", "()V"⟩, 9) := ⟨⟨by decide +kernel, by decide +kernel⟩, List.mem_of_getElem? (i := 156) (by decide +kernel), List.mem_of_getElem? (i := 623) (by decide +kernel), List.mem_of_getElem? (i := 624) (by decide +kernel)⟩
theorem lw_p13 : lw_okq (⟨"FuseFrames$Reader", "wholeSum", "()I"⟩, 9) := ⟨⟨by decide +kernel, by decide +kernel⟩, List.mem_of_getElem? (i := 156) (by decide +kernel), List.mem_of_getElem? (i := 631) (by decide +kernel), List.mem_of_getElem? (i := 632) (by decide +kernel)⟩
theorem lw_p14 : lw_okq (⟨"FuseFrames$Reader", "sum", "(I)V"⟩, 9) := ⟨⟨by decide +kernel, by decide +kernel⟩, List.mem_of_getElem? (i := 156) (by decide +kernel), List.mem_of_getElem? (i := 635) (by decide +kernel), List.mem_of_getElem? (i := 636) (by decide +kernel)⟩
theorem lw_p15 : lw_okq (⟨"FuseFrames$Reader", "term", "(I)V"⟩, 9) := ⟨⟨by decide +kernel, by decide +kernel⟩, List.mem_of_getElem? (i := 156) (by decide +kernel), List.mem_of_getElem? (i := 639) (by decide +kernel), List.mem_of_getElem? (i := 640) (by decide +kernel)⟩
def lw_privs_1 : List (MethodName × Nat) := [(⟨"FuseFrames", "refused", "(I)I"⟩, 17), (⟨"FuseFrames", "answered", "(I)I"⟩, 17), (⟨"FuseFrames", "burning", "(II)I"⟩, 17), (⟨"FuseFrames$Fire", "told", "(LFuseFrames$Script;I)I"⟩, 7), (⟨"FuseFrames$Fire", "measureKnot", "(LFuseFrames$Frame;LFuseFrames$Script;I)V"⟩, 7), (⟨"FuseFrames$Fire", "spread", "(LFuseFrames$Frame;)V"⟩, 7), (⟨"FuseFrames$Fire", "carried", "(III)Z"⟩, 7), (⟨"FuseFrames", "tieFromTape", "(I)Z"⟩, 17), (⟨"FuseFrames$Reader", "split", "(LFuseFrames$Tape;)V"⟩, 9), (⟨"FuseFrames$Reader", "addToken", "(III)V"⟩, 9), (⟨"FuseFrames$Reader", "fail", "()V"⟩, 9), (⟨"FuseFrames$Reader", "clause", "()V"⟩, 9), (⟨"FuseFrames$Reader", "goOn", "()V"⟩, 9), (⟨"FuseFrames$Reader", "wholeSum", "()I"⟩, 9), (⟨"FuseFrames$Reader", "sum", "(I)V"⟩, 9), (⟨"FuseFrames$Reader", "term", "(I)V"⟩, 9)]
theorem lw_r1 : ∀ q ∈ lw_privs_1, lw_okq q := List.forall_mem_cons.mpr ⟨lw_p0, List.forall_mem_cons.mpr ⟨lw_p1, List.forall_mem_cons.mpr ⟨lw_p2, List.forall_mem_cons.mpr ⟨lw_p3, List.forall_mem_cons.mpr ⟨lw_p4, List.forall_mem_cons.mpr ⟨lw_p5, List.forall_mem_cons.mpr ⟨lw_p6, List.forall_mem_cons.mpr ⟨lw_p7, List.forall_mem_cons.mpr ⟨lw_p8, List.forall_mem_cons.mpr ⟨lw_p9, List.forall_mem_cons.mpr ⟨lw_p10, List.forall_mem_cons.mpr ⟨lw_p11, List.forall_mem_cons.mpr ⟨lw_p12, List.forall_mem_cons.mpr ⟨lw_p13, List.forall_mem_cons.mpr ⟨lw_p14, List.forall_mem_cons.mpr ⟨lw_p15, fun _ h => absurd h List.not_mem_nil⟩⟩⟩⟩⟩⟩⟩⟩⟩⟩⟩⟩⟩⟩⟩⟩
theorem lw_p16 : lw_okq (⟨"FuseFrames$Reader", "part", "(I)V"⟩, 9) := ⟨⟨by decide +kernel, by decide +kernel⟩, List.mem_of_getElem? (i := 156) (by decide +kernel), List.mem_of_getElem? (i := 643) (by decide +kernel), List.mem_of_getElem? (i := 644) (by decide +kernel)⟩
theorem lw_p17 : lw_okq (⟨"FuseFrames$Reader", "isSign", "(C)Z"⟩, 9) := ⟨⟨by decide +kernel, by decide +kernel⟩, List.mem_of_getElem? (i := 156) (by decide +kernel), List.mem_of_getElem? (i := 647) (by decide +kernel), List.mem_of_getElem? (i := 648) (by decide +kernel)⟩
theorem lw_p18 : lw_okq (⟨"FuseFrames$Reader", "opened", "(I)Z"⟩, 9) := ⟨⟨by decide +kernel, by decide +kernel⟩, List.mem_of_getElem? (i := 156) (by decide +kernel), List.mem_of_getElem? (i := 651) (by decide +kernel), List.mem_of_getElem? (i := 652) (by decide +kernel)⟩
theorem lw_p19 : lw_okq (⟨"FuseFrames$Reader", "take", "(C)V"⟩, 9) := ⟨⟨by decide +kernel, by decide +kernel⟩, List.mem_of_getElem? (i := 156) (by decide +kernel), List.mem_of_getElem? (i := 655) (by decide +kernel), List.mem_of_getElem? (i := 656) (by decide +kernel)⟩
theorem lw_p20 : lw_okq (⟨"FuseFrames$Reader", "smallNumber", "(II)I"⟩, 9) := ⟨⟨by decide +kernel, by decide +kernel⟩, List.mem_of_getElem? (i := 156) (by decide +kernel), List.mem_of_getElem? (i := 659) (by decide +kernel), List.mem_of_getElem? (i := 660) (by decide +kernel)⟩
theorem lw_p21 : lw_okq (⟨"FuseFrames$Reader", "wordPart", "()V"⟩, 9) := ⟨⟨by decide +kernel, by decide +kernel⟩, List.mem_of_getElem? (i := 156) (by decide +kernel), List.mem_of_getElem? (i := 667) (by decide +kernel), List.mem_of_getElem? (i := 668) (by decide +kernel)⟩
theorem lw_p22 : lw_okq (⟨"FuseFrames$Reader", "isWord", "(I)Z"⟩, 9) := ⟨⟨by decide +kernel, by decide +kernel⟩, List.mem_of_getElem? (i := 156) (by decide +kernel), List.mem_of_getElem? (i := 671) (by decide +kernel), List.mem_of_getElem? (i := 672) (by decide +kernel)⟩
theorem lw_p23 : lw_okq (⟨"FuseFrames$Reader", "test", "(I)V"⟩, 9) := ⟨⟨by decide +kernel, by decide +kernel⟩, List.mem_of_getElem? (i := 156) (by decide +kernel), List.mem_of_getElem? (i := 675) (by decide +kernel), List.mem_of_getElem? (i := 676) (by decide +kernel)⟩
theorem lw_p24 : lw_okq (⟨"FuseFrames$Reader", "both", "(I)V"⟩, 9) := ⟨⟨by decide +kernel, by decide +kernel⟩, List.mem_of_getElem? (i := 156) (by decide +kernel), List.mem_of_getElem? (i := 679) (by decide +kernel), List.mem_of_getElem? (i := 680) (by decide +kernel)⟩
theorem lw_p25 : lw_okq (⟨"FuseFrames$Reader", "plain", "(I)V"⟩, 9) := ⟨⟨by decide +kernel, by decide +kernel⟩, List.mem_of_getElem? (i := 156) (by decide +kernel), List.mem_of_getElem? (i := 683) (by decide +kernel), List.mem_of_getElem? (i := 684) (by decide +kernel)⟩
theorem lw_p26 : lw_okq (⟨"FuseFrames", "goneIn", "(LFuseFrames$Frame;)I"⟩, 17) := ⟨⟨by decide +kernel, by decide +kernel⟩, List.mem_of_getElem? (i := 19) (by decide +kernel), List.mem_of_getElem? (i := 713) (by decide +kernel), List.mem_of_getElem? (i := 714) (by decide +kernel)⟩
theorem lw_p27 : lw_okq (⟨"FuseFrames", "ran", "(LFuseFrames$Script;I)Z"⟩, 17) := ⟨⟨by decide +kernel, by decide +kernel⟩, List.mem_of_getElem? (i := 19) (by decide +kernel), List.mem_of_getElem? (i := 722) (by decide +kernel), List.mem_of_getElem? (i := 723) (by decide +kernel)⟩
theorem lw_p28 : lw_okq (⟨"FuseFrames", "tellFacts", "()V"⟩, 17) := ⟨⟨by decide +kernel, by decide +kernel⟩, List.mem_of_getElem? (i := 19) (by decide +kernel), List.mem_of_getElem? (i := 726) (by decide +kernel), List.mem_of_getElem? (i := 727) (by decide +kernel)⟩
theorem lw_p29 : lw_okq (⟨"FuseFrames", "isSo", "(LFuseFrames$Script;I)Z"⟩, 17) := ⟨⟨by decide +kernel, by decide +kernel⟩, List.mem_of_getElem? (i := 19) (by decide +kernel), List.mem_of_getElem? (i := 736) (by decide +kernel), List.mem_of_getElem? (i := 737) (by decide +kernel)⟩
theorem lw_p30 : lw_okq (⟨"FuseFrames", "asked", "(LFuseFrames$Script;I)I"⟩, 17) := ⟨⟨by decide +kernel, by decide +kernel⟩, List.mem_of_getElem? (i := 19) (by decide +kernel), List.mem_of_getElem? (i := 742) (by decide +kernel), List.mem_of_getElem? (i := 743) (by decide +kernel)⟩
theorem lw_p31 : lw_okq (⟨"FuseFrames", "deed", "(III)I"⟩, 17) := ⟨⟨by decide +kernel, by decide +kernel⟩, List.mem_of_getElem? (i := 19) (by decide +kernel), List.mem_of_getElem? (i := 746) (by decide +kernel), List.mem_of_getElem? (i := 747) (by decide +kernel)⟩
def lw_privs_2 : List (MethodName × Nat) := [(⟨"FuseFrames$Reader", "part", "(I)V"⟩, 9), (⟨"FuseFrames$Reader", "isSign", "(C)Z"⟩, 9), (⟨"FuseFrames$Reader", "opened", "(I)Z"⟩, 9), (⟨"FuseFrames$Reader", "take", "(C)V"⟩, 9), (⟨"FuseFrames$Reader", "smallNumber", "(II)I"⟩, 9), (⟨"FuseFrames$Reader", "wordPart", "()V"⟩, 9), (⟨"FuseFrames$Reader", "isWord", "(I)Z"⟩, 9), (⟨"FuseFrames$Reader", "test", "(I)V"⟩, 9), (⟨"FuseFrames$Reader", "both", "(I)V"⟩, 9), (⟨"FuseFrames$Reader", "plain", "(I)V"⟩, 9), (⟨"FuseFrames", "goneIn", "(LFuseFrames$Frame;)I"⟩, 17), (⟨"FuseFrames", "ran", "(LFuseFrames$Script;I)Z"⟩, 17), (⟨"FuseFrames", "tellFacts", "()V"⟩, 17), (⟨"FuseFrames", "isSo", "(LFuseFrames$Script;I)Z"⟩, 17), (⟨"FuseFrames", "asked", "(LFuseFrames$Script;I)I"⟩, 17), (⟨"FuseFrames", "deed", "(III)I"⟩, 17)]
theorem lw_r2 : ∀ q ∈ lw_privs_2, lw_okq q := List.forall_mem_cons.mpr ⟨lw_p16, List.forall_mem_cons.mpr ⟨lw_p17, List.forall_mem_cons.mpr ⟨lw_p18, List.forall_mem_cons.mpr ⟨lw_p19, List.forall_mem_cons.mpr ⟨lw_p20, List.forall_mem_cons.mpr ⟨lw_p21, List.forall_mem_cons.mpr ⟨lw_p22, List.forall_mem_cons.mpr ⟨lw_p23, List.forall_mem_cons.mpr ⟨lw_p24, List.forall_mem_cons.mpr ⟨lw_p25, List.forall_mem_cons.mpr ⟨lw_p26, List.forall_mem_cons.mpr ⟨lw_p27, List.forall_mem_cons.mpr ⟨lw_p28, List.forall_mem_cons.mpr ⟨lw_p29, List.forall_mem_cons.mpr ⟨lw_p30, List.forall_mem_cons.mpr ⟨lw_p31, fun _ h => absurd h List.not_mem_nil⟩⟩⟩⟩⟩⟩⟩⟩⟩⟩⟩⟩⟩⟩⟩⟩
theorem lw_p32 : lw_okq (⟨"FuseFrames", "lightMatch", "(I)I"⟩, 17) := ⟨⟨by decide +kernel, by decide +kernel⟩, List.mem_of_getElem? (i := 19) (by decide +kernel), List.mem_of_getElem? (i := 750) (by decide +kernel), List.mem_of_getElem? (i := 751) (by decide +kernel)⟩
theorem lw_p33 : lw_okq (⟨"FuseFrames", "soakFuse", "(I)I"⟩, 17) := ⟨⟨by decide +kernel, by decide +kernel⟩, List.mem_of_getElem? (i := 19) (by decide +kernel), List.mem_of_getElem? (i := 758) (by decide +kernel), List.mem_of_getElem? (i := 759) (by decide +kernel)⟩
theorem lw_p34 : lw_okq (⟨"FuseFrames", "swapFuses", "(II)I"⟩, 17) := ⟨⟨by decide +kernel, by decide +kernel⟩, List.mem_of_getElem? (i := 19) (by decide +kernel), List.mem_of_getElem? (i := 762) (by decide +kernel), List.mem_of_getElem? (i := 763) (by decide +kernel)⟩
theorem lw_p35 : lw_okq (⟨"FuseFrames", "passSecond", "()I"⟩, 17) := ⟨⟨by decide +kernel, by decide +kernel⟩, List.mem_of_getElem? (i := 19) (by decide +kernel), List.mem_of_getElem? (i := 770) (by decide +kernel), List.mem_of_getElem? (i := 771) (by decide +kernel)⟩
theorem lw_p36 : lw_okq (⟨"FuseFrames", "answeredOrRefused", "(I)I"⟩, 17) := ⟨⟨by decide +kernel, by decide +kernel⟩, List.mem_of_getElem? (i := 19) (by decide +kernel), List.mem_of_getElem? (i := 790) (by decide +kernel), List.mem_of_getElem? (i := 791) (by decide +kernel)⟩
theorem lw_p37 : lw_okq (⟨"FuseFrames", "burnOnPaper", "(I)V"⟩, 17) := ⟨⟨by decide +kernel, by decide +kernel⟩, List.mem_of_getElem? (i := 19) (by decide +kernel), List.mem_of_getElem? (i := 817) (by decide +kernel), List.mem_of_getElem? (i := 818) (by decide +kernel)⟩
theorem lw_p38 : lw_okq (⟨"FuseFrames", "latestBehindEarliest", "()I"⟩, 17) := ⟨⟨by decide +kernel, by decide +kernel⟩, List.mem_of_getElem? (i := 19) (by decide +kernel), List.mem_of_getElem? (i := 849) (by decide +kernel), List.mem_of_getElem? (i := 850) (by decide +kernel)⟩
theorem lw_p39 : lw_okq (⟨"FuseFrames", "nextOnWay", "(III)I"⟩, 17) := ⟨⟨by decide +kernel, by decide +kernel⟩, List.mem_of_getElem? (i := 19) (by decide +kernel), List.mem_of_getElem? (i := 872) (by decide +kernel), List.mem_of_getElem? (i := 873) (by decide +kernel)⟩
theorem lw_p40 : lw_okq (⟨"FuseFrames", "swapOnPaper", "(II)V"⟩, 17) := ⟨⟨by decide +kernel, by decide +kernel⟩, List.mem_of_getElem? (i := 19) (by decide +kernel), List.mem_of_getElem? (i := 893) (by decide +kernel), List.mem_of_getElem? (i := 894) (by decide +kernel)⟩
theorem lw_p41 : lw_okq (⟨"FuseFrames", "wasAt", "()I"⟩, 17) := ⟨⟨by decide +kernel, by decide +kernel⟩, List.mem_of_getElem? (i := 19) (by decide +kernel), List.mem_of_getElem? (i := 921) (by decide +kernel), List.mem_of_getElem? (i := 922) (by decide +kernel)⟩
theorem lw_p42 : lw_okq (⟨"FuseFramesModel", "refuses", "(I)I"⟩, 50) := ⟨⟨by decide +kernel, by decide +kernel⟩, List.mem_of_getElem? (i := 996) (by decide +kernel), List.mem_of_getElem? (i := 1161) (by decide +kernel), List.mem_of_getElem? (i := 1162) (by decide +kernel)⟩
theorem lw_p43 : lw_okq (⟨"FuseFramesModel", "good", "(I)I"⟩, 50) := ⟨⟨by decide +kernel, by decide +kernel⟩, List.mem_of_getElem? (i := 996) (by decide +kernel), List.mem_of_getElem? (i := 1165) (by decide +kernel), List.mem_of_getElem? (i := 1166) (by decide +kernel)⟩
theorem lw_p44 : lw_okq (⟨"FuseFramesModel", "settled", "(I)I"⟩, 50) := ⟨⟨by decide +kernel, by decide +kernel⟩, List.mem_of_getElem? (i := 996) (by decide +kernel), List.mem_of_getElem? (i := 1173) (by decide +kernel), List.mem_of_getElem? (i := 1174) (by decide +kernel)⟩
theorem lw_p45 : lw_okq (⟨"FuseFramesModel", "fuseMany", "()I"⟩, 50) := ⟨⟨by decide +kernel, by decide +kernel⟩, List.mem_of_getElem? (i := 996) (by decide +kernel), List.mem_of_getElem? (i := 1187) (by decide +kernel), List.mem_of_getElem? (i := 1188) (by decide +kernel)⟩
theorem lw_p46 : lw_okq (⟨"FuseFramesModel", "adds", "(IIII)V"⟩, 50) := ⟨⟨by decide +kernel, by decide +kernel⟩, List.mem_of_getElem? (i := 996) (by decide +kernel), List.mem_of_getElem? (i := 1191) (by decide +kernel), List.mem_of_getElem? (i := 1192) (by decide +kernel)⟩
theorem lw_p47 : lw_okq (⟨"FuseFramesModel", "isFuse", "(I)Z"⟩, 50) := ⟨⟨by decide +kernel, by decide +kernel⟩, List.mem_of_getElem? (i := 996) (by decide +kernel), List.mem_of_getElem? (i := 1199) (by decide +kernel), List.mem_of_getElem? (i := 1200) (by decide +kernel)⟩
def lw_privs_3 : List (MethodName × Nat) := [(⟨"FuseFrames", "lightMatch", "(I)I"⟩, 17), (⟨"FuseFrames", "soakFuse", "(I)I"⟩, 17), (⟨"FuseFrames", "swapFuses", "(II)I"⟩, 17), (⟨"FuseFrames", "passSecond", "()I"⟩, 17), (⟨"FuseFrames", "answeredOrRefused", "(I)I"⟩, 17), (⟨"FuseFrames", "burnOnPaper", "(I)V"⟩, 17), (⟨"FuseFrames", "latestBehindEarliest", "()I"⟩, 17), (⟨"FuseFrames", "nextOnWay", "(III)I"⟩, 17), (⟨"FuseFrames", "swapOnPaper", "(II)V"⟩, 17), (⟨"FuseFrames", "wasAt", "()I"⟩, 17), (⟨"FuseFramesModel", "refuses", "(I)I"⟩, 50), (⟨"FuseFramesModel", "good", "(I)I"⟩, 50), (⟨"FuseFramesModel", "settled", "(I)I"⟩, 50), (⟨"FuseFramesModel", "fuseMany", "()I"⟩, 50), (⟨"FuseFramesModel", "adds", "(IIII)V"⟩, 50), (⟨"FuseFramesModel", "isFuse", "(I)Z"⟩, 50)]
theorem lw_r3 : ∀ q ∈ lw_privs_3, lw_okq q := List.forall_mem_cons.mpr ⟨lw_p32, List.forall_mem_cons.mpr ⟨lw_p33, List.forall_mem_cons.mpr ⟨lw_p34, List.forall_mem_cons.mpr ⟨lw_p35, List.forall_mem_cons.mpr ⟨lw_p36, List.forall_mem_cons.mpr ⟨lw_p37, List.forall_mem_cons.mpr ⟨lw_p38, List.forall_mem_cons.mpr ⟨lw_p39, List.forall_mem_cons.mpr ⟨lw_p40, List.forall_mem_cons.mpr ⟨lw_p41, List.forall_mem_cons.mpr ⟨lw_p42, List.forall_mem_cons.mpr ⟨lw_p43, List.forall_mem_cons.mpr ⟨lw_p44, List.forall_mem_cons.mpr ⟨lw_p45, List.forall_mem_cons.mpr ⟨lw_p46, List.forall_mem_cons.mpr ⟨lw_p47, fun _ h => absurd h List.not_mem_nil⟩⟩⟩⟩⟩⟩⟩⟩⟩⟩⟩⟩⟩⟩⟩⟩
theorem lw_p48 : lw_okq (⟨"FuseFramesModel", "burnsFor", "(I)I"⟩, 50) := ⟨⟨by decide +kernel, by decide +kernel⟩, List.mem_of_getElem? (i := 996) (by decide +kernel), List.mem_of_getElem? (i := 1203) (by decide +kernel), List.mem_of_getElem? (i := 1204) (by decide +kernel)⟩
theorem lw_p49 : lw_okq (⟨"FuseFramesModel", "setsFuse", "(I)V"⟩, 50) := ⟨⟨by decide +kernel, by decide +kernel⟩, List.mem_of_getElem? (i := 996) (by decide +kernel), List.mem_of_getElem? (i := 1207) (by decide +kernel), List.mem_of_getElem? (i := 1208) (by decide +kernel)⟩
theorem lw_p50 : lw_okq (⟨"FuseFramesModel", "tells", "(IIII)I"⟩, 50) := ⟨⟨by decide +kernel, by decide +kernel⟩, List.mem_of_getElem? (i := 996) (by decide +kernel), List.mem_of_getElem? (i := 1211) (by decide +kernel), List.mem_of_getElem? (i := 1212) (by decide +kernel)⟩
theorem lw_p51 : lw_okq (⟨"FuseFramesModel", "codeAt", "(I)I"⟩, 50) := ⟨⟨by decide +kernel, by decide +kernel⟩, List.mem_of_getElem? (i := 996) (by decide +kernel), List.mem_of_getElem? (i := 1215) (by decide +kernel), List.mem_of_getElem? (i := 1216) (by decide +kernel)⟩
theorem lw_p52 : lw_okq (⟨"FuseFramesModel", "sumOf", "(Z)J"⟩, 50) := ⟨⟨by decide +kernel, by decide +kernel⟩, List.mem_of_getElem? (i := 996) (by decide +kernel), List.mem_of_getElem? (i := 1219) (by decide +kernel), List.mem_of_getElem? (i := 1220) (by decide +kernel)⟩
theorem lw_p53 : lw_okq (⟨"FuseFramesModel", "termOf", "(Z)J"⟩, 50) := ⟨⟨by decide +kernel, by decide +kernel⟩, List.mem_of_getElem? (i := 996) (by decide +kernel), List.mem_of_getElem? (i := 1223) (by decide +kernel), List.mem_of_getElem? (i := 1224) (by decide +kernel)⟩
theorem lw_p54 : lw_okq (⟨"FuseFramesModel", "partOf", "(Z)J"⟩, 50) := ⟨⟨by decide +kernel, by decide +kernel⟩, List.mem_of_getElem? (i := 996) (by decide +kernel), List.mem_of_getElem? (i := 1227) (by decide +kernel), List.mem_of_getElem? (i := 1228) (by decide +kernel)⟩
theorem lw_p55 : lw_okq (⟨"FuseFramesModel", "passes0", "(I)Z"⟩, 50) := ⟨⟨by decide +kernel, by decide +kernel⟩, List.mem_of_getElem? (i := 996) (by decide +kernel), List.mem_of_getElem? (i := 1234) (by decide +kernel), List.mem_of_getElem? (i := 1235) (by decide +kernel)⟩
theorem lw_p56 : lw_okq (⟨"FuseFramesModel", "orderValue", "(II)I"⟩, 50) := ⟨⟨by decide +kernel, by decide +kernel⟩, List.mem_of_getElem? (i := 996) (by decide +kernel), List.mem_of_getElem? (i := 1238) (by decide +kernel), List.mem_of_getElem? (i := 1239) (by decide +kernel)⟩
theorem lw_p57 : lw_okq (⟨"FuseFramesModel", "dampMany", "()I"⟩, 50) := ⟨⟨by decide +kernel, by decide +kernel⟩, List.mem_of_getElem? (i := 996) (by decide +kernel), List.mem_of_getElem? (i := 1242) (by decide +kernel), List.mem_of_getElem? (i := 1243) (by decide +kernel)⟩
theorem lw_p58 : lw_okq (⟨"FuseFramesModel", "bounded", "(JZ)J"⟩, 50) := ⟨⟨by decide +kernel, by decide +kernel⟩, List.mem_of_getElem? (i := 996) (by decide +kernel), List.mem_of_getElem? (i := 1246) (by decide +kernel), List.mem_of_getElem? (i := 1247) (by decide +kernel)⟩
theorem lw_p59 : lw_okq (⟨"FuseFramesModel", "testOf", "(Z)Z"⟩, 50) := ⟨⟨by decide +kernel, by decide +kernel⟩, List.mem_of_getElem? (i := 996) (by decide +kernel), List.mem_of_getElem? (i := 1252) (by decide +kernel), List.mem_of_getElem? (i := 1253) (by decide +kernel)⟩
theorem lw_p60 : lw_okq (⟨"FuseFramesModel", "bothOf", "(Z)Z"⟩, 50) := ⟨⟨by decide +kernel, by decide +kernel⟩, List.mem_of_getElem? (i := 996) (by decide +kernel), List.mem_of_getElem? (i := 1256) (by decide +kernel), List.mem_of_getElem? (i := 1257) (by decide +kernel)⟩
theorem lw_p61 : lw_okq (⟨"FuseFramesModel", "plainOf", "(Z)Z"⟩, 50) := ⟨⟨by decide +kernel, by decide +kernel⟩, List.mem_of_getElem? (i := 996) (by decide +kernel), List.mem_of_getElem? (i := 1260) (by decide +kernel), List.mem_of_getElem? (i := 1261) (by decide +kernel)⟩
theorem lw_p62 : lw_okq (⟨"FuseFramesModel", "positiveOf", "(Z)Z"⟩, 50) := ⟨⟨by decide +kernel, by decide +kernel⟩, List.mem_of_getElem? (i := 996) (by decide +kernel), List.mem_of_getElem? (i := 1264) (by decide +kernel), List.mem_of_getElem? (i := 1265) (by decide +kernel)⟩
theorem lw_p63 : lw_okq (⟨"FuseFramesModel", "catchesNow", "(I)Z"⟩, 50) := ⟨⟨by decide +kernel, by decide +kernel⟩, List.mem_of_getElem? (i := 996) (by decide +kernel), List.mem_of_getElem? (i := 1268) (by decide +kernel), List.mem_of_getElem? (i := 1269) (by decide +kernel)⟩
def lw_privs_4 : List (MethodName × Nat) := [(⟨"FuseFramesModel", "burnsFor", "(I)I"⟩, 50), (⟨"FuseFramesModel", "setsFuse", "(I)V"⟩, 50), (⟨"FuseFramesModel", "tells", "(IIII)I"⟩, 50), (⟨"FuseFramesModel", "codeAt", "(I)I"⟩, 50), (⟨"FuseFramesModel", "sumOf", "(Z)J"⟩, 50), (⟨"FuseFramesModel", "termOf", "(Z)J"⟩, 50), (⟨"FuseFramesModel", "partOf", "(Z)J"⟩, 50), (⟨"FuseFramesModel", "passes0", "(I)Z"⟩, 50), (⟨"FuseFramesModel", "orderValue", "(II)I"⟩, 50), (⟨"FuseFramesModel", "dampMany", "()I"⟩, 50), (⟨"FuseFramesModel", "bounded", "(JZ)J"⟩, 50), (⟨"FuseFramesModel", "testOf", "(Z)Z"⟩, 50), (⟨"FuseFramesModel", "bothOf", "(Z)Z"⟩, 50), (⟨"FuseFramesModel", "plainOf", "(Z)Z"⟩, 50), (⟨"FuseFramesModel", "positiveOf", "(Z)Z"⟩, 50), (⟨"FuseFramesModel", "catchesNow", "(I)Z"⟩, 50)]
theorem lw_r4 : ∀ q ∈ lw_privs_4, lw_okq q := List.forall_mem_cons.mpr ⟨lw_p48, List.forall_mem_cons.mpr ⟨lw_p49, List.forall_mem_cons.mpr ⟨lw_p50, List.forall_mem_cons.mpr ⟨lw_p51, List.forall_mem_cons.mpr ⟨lw_p52, List.forall_mem_cons.mpr ⟨lw_p53, List.forall_mem_cons.mpr ⟨lw_p54, List.forall_mem_cons.mpr ⟨lw_p55, List.forall_mem_cons.mpr ⟨lw_p56, List.forall_mem_cons.mpr ⟨lw_p57, List.forall_mem_cons.mpr ⟨lw_p58, List.forall_mem_cons.mpr ⟨lw_p59, List.forall_mem_cons.mpr ⟨lw_p60, List.forall_mem_cons.mpr ⟨lw_p61, List.forall_mem_cons.mpr ⟨lw_p62, List.forall_mem_cons.mpr ⟨lw_p63, fun _ h => absurd h List.not_mem_nil⟩⟩⟩⟩⟩⟩⟩⟩⟩⟩⟩⟩⟩⟩⟩⟩
theorem lw_p64 : lw_okq (⟨"FuseFramesModel", "outByMatches", "(I)I"⟩, 50) := ⟨⟨by decide +kernel, by decide +kernel⟩, List.mem_of_getElem? (i := 996) (by decide +kernel), List.mem_of_getElem? (i := 1272) (by decide +kernel), List.mem_of_getElem? (i := 1273) (by decide +kernel)⟩
theorem lw_p65 : lw_okq (⟨"FuseFramesModel", "firesByMatches", "()V"⟩, 50) := ⟨⟨by decide +kernel, by decide +kernel⟩, List.mem_of_getElem? (i := 996) (by decide +kernel), List.mem_of_getElem? (i := 1276) (by decide +kernel), List.mem_of_getElem? (i := 1277) (by decide +kernel)⟩
theorem lw_p66 : lw_okq (⟨"FuseFramesModel", "laysTimes", "()V"⟩, 50) := ⟨⟨by decide +kernel, by decide +kernel⟩, List.mem_of_getElem? (i := 996) (by decide +kernel), List.mem_of_getElem? (i := 1280) (by decide +kernel), List.mem_of_getElem? (i := 1281) (by decide +kernel)⟩
theorem lw_p67 : lw_okq (⟨"FuseFramesModel", "holdsFor", "(I)I"⟩, 50) := ⟨⟨by decide +kernel, by decide +kernel⟩, List.mem_of_getElem? (i := 996) (by decide +kernel), List.mem_of_getElem? (i := 1284) (by decide +kernel), List.mem_of_getElem? (i := 1285) (by decide +kernel)⟩
theorem lw_p68 : lw_okq (⟨"FuseFramesModel", "setsKnot", "(I)V"⟩, 50) := ⟨⟨by decide +kernel, by decide +kernel⟩, List.mem_of_getElem? (i := 996) (by decide +kernel), List.mem_of_getElem? (i := 1288) (by decide +kernel), List.mem_of_getElem? (i := 1289) (by decide +kernel)⟩
theorem lw_p69 : lw_okq (⟨"FuseFramesModel", "endsOf", "(I)I"⟩, 50) := ⟨⟨by decide +kernel, by decide +kernel⟩, List.mem_of_getElem? (i := 996) (by decide +kernel), List.mem_of_getElem? (i := 1292) (by decide +kernel), List.mem_of_getElem? (i := 1293) (by decide +kernel)⟩
theorem lw_p70 : lw_okq (⟨"FuseFramesModel", "fires", "(I)V"⟩, 50) := ⟨⟨by decide +kernel, by decide +kernel⟩, List.mem_of_getElem? (i := 996) (by decide +kernel), List.mem_of_getElem? (i := 1297) (by decide +kernel), List.mem_of_getElem? (i := 1298) (by decide +kernel)⟩
theorem lw_p71 : lw_okq (⟨"FuseFramesModel", "goesOn", "(III)Z"⟩, 50) := ⟨⟨by decide +kernel, by decide +kernel⟩, List.mem_of_getElem? (i := 996) (by decide +kernel), List.mem_of_getElem? (i := 1304) (by decide +kernel), List.mem_of_getElem? (i := 1305) (by decide +kernel)⟩
theorem lw_p72 : lw_okq (⟨"FuseFramesModel", "outOf", "(I)I"⟩, 50) := ⟨⟨by decide +kernel, by decide +kernel⟩, List.mem_of_getElem? (i := 996) (by decide +kernel), List.mem_of_getElem? (i := 1311) (by decide +kernel), List.mem_of_getElem? (i := 1312) (by decide +kernel)⟩
theorem lw_p73 : lw_okq (⟨"FuseFramesModel", "comesByMatches", "(I)I"⟩, 50) := ⟨⟨by decide +kernel, by decide +kernel⟩, List.mem_of_getElem? (i := 996) (by decide +kernel), List.mem_of_getElem? (i := 1322) (by decide +kernel), List.mem_of_getElem? (i := 1323) (by decide +kernel)⟩
theorem lw_p74 : lw_okq (⟨"FuseFramesModel", "readsAs", "(Z)Z"⟩, 50) := ⟨⟨by decide +kernel, by decide +kernel⟩, List.mem_of_getElem? (i := 996) (by decide +kernel), List.mem_of_getElem? (i := 1360) (by decide +kernel), List.mem_of_getElem? (i := 1361) (by decide +kernel)⟩
theorem lw_p75 : lw_okq (⟨"FuseFramesModel", "reads", "()Z"⟩, 50) := ⟨⟨by decide +kernel, by decide +kernel⟩, List.mem_of_getElem? (i := 996) (by decide +kernel), List.mem_of_getElem? (i := 1364) (by decide +kernel), List.mem_of_getElem? (i := 1365) (by decide +kernel)⟩
theorem lw_p76 : lw_okq (⟨"FuseFramesModel", "splits", "(I)V"⟩, 50) := ⟨⟨by decide +kernel, by decide +kernel⟩, List.mem_of_getElem? (i := 996) (by decide +kernel), List.mem_of_getElem? (i := 1368) (by decide +kernel), List.mem_of_getElem? (i := 1369) (by decide +kernel)⟩
theorem lw_p77 : lw_okq (⟨"FuseFramesModel", "wordOf", "(II)I"⟩, 50) := ⟨⟨by decide +kernel, by decide +kernel⟩, List.mem_of_getElem? (i := 996) (by decide +kernel), List.mem_of_getElem? (i := 1378) (by decide +kernel), List.mem_of_getElem? (i := 1379) (by decide +kernel)⟩
theorem lw_p78 : lw_okq (⟨"FuseFramesModel", "readOne", "()V"⟩, 50) := ⟨⟨by decide +kernel, by decide +kernel⟩, List.mem_of_getElem? (i := 996) (by decide +kernel), List.mem_of_getElem? (i := 1382) (by decide +kernel), List.mem_of_getElem? (i := 1383) (by decide +kernel)⟩
theorem lw_p79 : lw_okq (⟨"FuseFramesModel", "readOrder", "()V"⟩, 50) := ⟨⟨by decide +kernel, by decide +kernel⟩, List.mem_of_getElem? (i := 996) (by decide +kernel), List.mem_of_getElem? (i := 1386) (by decide +kernel), List.mem_of_getElem? (i := 1387) (by decide +kernel)⟩
def lw_privs_5 : List (MethodName × Nat) := [(⟨"FuseFramesModel", "outByMatches", "(I)I"⟩, 50), (⟨"FuseFramesModel", "firesByMatches", "()V"⟩, 50), (⟨"FuseFramesModel", "laysTimes", "()V"⟩, 50), (⟨"FuseFramesModel", "holdsFor", "(I)I"⟩, 50), (⟨"FuseFramesModel", "setsKnot", "(I)V"⟩, 50), (⟨"FuseFramesModel", "endsOf", "(I)I"⟩, 50), (⟨"FuseFramesModel", "fires", "(I)V"⟩, 50), (⟨"FuseFramesModel", "goesOn", "(III)Z"⟩, 50), (⟨"FuseFramesModel", "outOf", "(I)I"⟩, 50), (⟨"FuseFramesModel", "comesByMatches", "(I)I"⟩, 50), (⟨"FuseFramesModel", "readsAs", "(Z)Z"⟩, 50), (⟨"FuseFramesModel", "reads", "()Z"⟩, 50), (⟨"FuseFramesModel", "splits", "(I)V"⟩, 50), (⟨"FuseFramesModel", "wordOf", "(II)I"⟩, 50), (⟨"FuseFramesModel", "readOne", "()V"⟩, 50), (⟨"FuseFramesModel", "readOrder", "()V"⟩, 50)]
theorem lw_r5 : ∀ q ∈ lw_privs_5, lw_okq q := List.forall_mem_cons.mpr ⟨lw_p64, List.forall_mem_cons.mpr ⟨lw_p65, List.forall_mem_cons.mpr ⟨lw_p66, List.forall_mem_cons.mpr ⟨lw_p67, List.forall_mem_cons.mpr ⟨lw_p68, List.forall_mem_cons.mpr ⟨lw_p69, List.forall_mem_cons.mpr ⟨lw_p70, List.forall_mem_cons.mpr ⟨lw_p71, List.forall_mem_cons.mpr ⟨lw_p72, List.forall_mem_cons.mpr ⟨lw_p73, List.forall_mem_cons.mpr ⟨lw_p74, List.forall_mem_cons.mpr ⟨lw_p75, List.forall_mem_cons.mpr ⟨lw_p76, List.forall_mem_cons.mpr ⟨lw_p77, List.forall_mem_cons.mpr ⟨lw_p78, List.forall_mem_cons.mpr ⟨lw_p79, fun _ h => absurd h List.not_mem_nil⟩⟩⟩⟩⟩⟩⟩⟩⟩⟩⟩⟩⟩⟩⟩⟩
theorem lw_p80 : lw_okq (⟨"FuseFramesModel", "takes0", "(I)Z"⟩, 50) := ⟨⟨by decide +kernel, by decide +kernel⟩, List.mem_of_getElem? (i := 996) (by decide +kernel), List.mem_of_getElem? (i := 1390) (by decide +kernel), List.mem_of_getElem? (i := 1391) (by decide +kernel)⟩
theorem lw_p81 : lw_okq (⟨"FuseFramesModel", "fine", "()Z"⟩, 50) := ⟨⟨by decide +kernel, by decide +kernel⟩, List.mem_of_getElem? (i := 996) (by decide +kernel), List.mem_of_getElem? (i := 1394) (by decide +kernel), List.mem_of_getElem? (i := 1395) (by decide +kernel)⟩
theorem lw_p82 : lw_okq (⟨"FuseFramesModel", "readSum", "(I)V"⟩, 50) := ⟨⟨by decide +kernel, by decide +kernel⟩, List.mem_of_getElem? (i := 996) (by decide +kernel), List.mem_of_getElem? (i := 1398) (by decide +kernel), List.mem_of_getElem? (i := 1399) (by decide +kernel)⟩
theorem lw_p83 : lw_okq (⟨"FuseFramesModel", "readTerm", "(I)V"⟩, 50) := ⟨⟨by decide +kernel, by decide +kernel⟩, List.mem_of_getElem? (i := 996) (by decide +kernel), List.mem_of_getElem? (i := 1402) (by decide +kernel), List.mem_of_getElem? (i := 1403) (by decide +kernel)⟩
theorem lw_p84 : lw_okq (⟨"FuseFramesModel", "readPart", "(I)V"⟩, 50) := ⟨⟨by decide +kernel, by decide +kernel⟩, List.mem_of_getElem? (i := 996) (by decide +kernel), List.mem_of_getElem? (i := 1406) (by decide +kernel), List.mem_of_getElem? (i := 1407) (by decide +kernel)⟩
theorem lw_p85 : lw_okq (⟨"FuseFramesModel", "faults", "()V"⟩, 50) := ⟨⟨by decide +kernel, by decide +kernel⟩, List.mem_of_getElem? (i := 996) (by decide +kernel), List.mem_of_getElem? (i := 1410) (by decide +kernel), List.mem_of_getElem? (i := 1411) (by decide +kernel)⟩
theorem lw_p86 : lw_okq (⟨"FuseFramesModel", "must", "(I)V"⟩, 50) := ⟨⟨by decide +kernel, by decide +kernel⟩, List.mem_of_getElem? (i := 996) (by decide +kernel), List.mem_of_getElem? (i := 1414) (by decide +kernel), List.mem_of_getElem? (i := 1415) (by decide +kernel)⟩
theorem lw_p87 : lw_okq (⟨"FuseFramesModel", "leaf", "()V"⟩, 50) := ⟨⟨by decide +kernel, by decide +kernel⟩, List.mem_of_getElem? (i := 996) (by decide +kernel), List.mem_of_getElem? (i := 1418) (by decide +kernel), List.mem_of_getElem? (i := 1419) (by decide +kernel)⟩
theorem lw_p88 : lw_okq (⟨"FuseFramesModel", "mustNumber", "(II)V"⟩, 50) := ⟨⟨by decide +kernel, by decide +kernel⟩, List.mem_of_getElem? (i := 996) (by decide +kernel), List.mem_of_getElem? (i := 1422) (by decide +kernel), List.mem_of_getElem? (i := 1423) (by decide +kernel)⟩
theorem lw_p89 : lw_okq (⟨"FuseFramesModel", "readTest", "(I)V"⟩, 50) := ⟨⟨by decide +kernel, by decide +kernel⟩, List.mem_of_getElem? (i := 996) (by decide +kernel), List.mem_of_getElem? (i := 1426) (by decide +kernel), List.mem_of_getElem? (i := 1427) (by decide +kernel)⟩
theorem lw_p90 : lw_okq (⟨"FuseFramesModel", "readBoth", "(I)V"⟩, 50) := ⟨⟨by decide +kernel, by decide +kernel⟩, List.mem_of_getElem? (i := 996) (by decide +kernel), List.mem_of_getElem? (i := 1430) (by decide +kernel), List.mem_of_getElem? (i := 1431) (by decide +kernel)⟩
theorem lw_p91 : lw_okq (⟨"FuseFramesModel", "readPlain", "(I)V"⟩, 50) := ⟨⟨by decide +kernel, by decide +kernel⟩, List.mem_of_getElem? (i := 996) (by decide +kernel), List.mem_of_getElem? (i := 1434) (by decide +kernel), List.mem_of_getElem? (i := 1435) (by decide +kernel)⟩
theorem lw_p92 : lw_okq (⟨"FuseFramesModel", "readClause", "()V"⟩, 50) := ⟨⟨by decide +kernel, by decide +kernel⟩, List.mem_of_getElem? (i := 996) (by decide +kernel), List.mem_of_getElem? (i := 1438) (by decide +kernel), List.mem_of_getElem? (i := 1439) (by decide +kernel)⟩
theorem lw_p93 : lw_okq (⟨"FuseFramesModel", "lays", "(I)V"⟩, 50) := ⟨⟨by decide +kernel, by decide +kernel⟩, List.mem_of_getElem? (i := 996) (by decide +kernel), List.mem_of_getElem? (i := 1442) (by decide +kernel), List.mem_of_getElem? (i := 1443) (by decide +kernel)⟩
theorem lw_p94 : lw_okq (⟨"FuseFramesModel", "isLaw", "(I)Z"⟩, 50) := ⟨⟨by decide +kernel, by decide +kernel⟩, List.mem_of_getElem? (i := 996) (by decide +kernel), List.mem_of_getElem? (i := 1454) (by decide +kernel), List.mem_of_getElem? (i := 1455) (by decide +kernel)⟩
theorem lw_p95 : lw_okq (⟨"FuseFramesModel", "lightsKept", "(I)I"⟩, 50) := ⟨⟨by decide +kernel, by decide +kernel⟩, List.mem_of_getElem? (i := 996) (by decide +kernel), List.mem_of_getElem? (i := 1466) (by decide +kernel), List.mem_of_getElem? (i := 1467) (by decide +kernel)⟩
def lw_privs_6 : List (MethodName × Nat) := [(⟨"FuseFramesModel", "takes0", "(I)Z"⟩, 50), (⟨"FuseFramesModel", "fine", "()Z"⟩, 50), (⟨"FuseFramesModel", "readSum", "(I)V"⟩, 50), (⟨"FuseFramesModel", "readTerm", "(I)V"⟩, 50), (⟨"FuseFramesModel", "readPart", "(I)V"⟩, 50), (⟨"FuseFramesModel", "faults", "()V"⟩, 50), (⟨"FuseFramesModel", "must", "(I)V"⟩, 50), (⟨"FuseFramesModel", "leaf", "()V"⟩, 50), (⟨"FuseFramesModel", "mustNumber", "(II)V"⟩, 50), (⟨"FuseFramesModel", "readTest", "(I)V"⟩, 50), (⟨"FuseFramesModel", "readBoth", "(I)V"⟩, 50), (⟨"FuseFramesModel", "readPlain", "(I)V"⟩, 50), (⟨"FuseFramesModel", "readClause", "()V"⟩, 50), (⟨"FuseFramesModel", "lays", "(I)V"⟩, 50), (⟨"FuseFramesModel", "isLaw", "(I)Z"⟩, 50), (⟨"FuseFramesModel", "lightsKept", "(I)I"⟩, 50)]
theorem lw_r6 : ∀ q ∈ lw_privs_6, lw_okq q := List.forall_mem_cons.mpr ⟨lw_p80, List.forall_mem_cons.mpr ⟨lw_p81, List.forall_mem_cons.mpr ⟨lw_p82, List.forall_mem_cons.mpr ⟨lw_p83, List.forall_mem_cons.mpr ⟨lw_p84, List.forall_mem_cons.mpr ⟨lw_p85, List.forall_mem_cons.mpr ⟨lw_p86, List.forall_mem_cons.mpr ⟨lw_p87, List.forall_mem_cons.mpr ⟨lw_p88, List.forall_mem_cons.mpr ⟨lw_p89, List.forall_mem_cons.mpr ⟨lw_p90, List.forall_mem_cons.mpr ⟨lw_p91, List.forall_mem_cons.mpr ⟨lw_p92, List.forall_mem_cons.mpr ⟨lw_p93, List.forall_mem_cons.mpr ⟨lw_p94, List.forall_mem_cons.mpr ⟨lw_p95, fun _ h => absurd h List.not_mem_nil⟩⟩⟩⟩⟩⟩⟩⟩⟩⟩⟩⟩⟩⟩⟩⟩
theorem lw_p96 : lw_okq (⟨"FuseFramesModel", "keeps", "(I)V"⟩, 50) := ⟨⟨by decide +kernel, by decide +kernel⟩, List.mem_of_getElem? (i := 996) (by decide +kernel), List.mem_of_getElem? (i := 1470) (by decide +kernel), List.mem_of_getElem? (i := 1471) (by decide +kernel)⟩
theorem lw_p97 : lw_okq (⟨"FuseFramesModel", "goodOr", "(I)I"⟩, 50) := ⟨⟨by decide +kernel, by decide +kernel⟩, List.mem_of_getElem? (i := 996) (by decide +kernel), List.mem_of_getElem? (i := 1474) (by decide +kernel), List.mem_of_getElem? (i := 1475) (by decide +kernel)⟩
theorem lw_p98 : lw_okq (⟨"FuseFramesModel", "soaksKept", "(I)I"⟩, 50) := ⟨⟨by decide +kernel, by decide +kernel⟩, List.mem_of_getElem? (i := 996) (by decide +kernel), List.mem_of_getElem? (i := 1482) (by decide +kernel), List.mem_of_getElem? (i := 1483) (by decide +kernel)⟩
theorem lw_p99 : lw_okq (⟨"FuseFramesModel", "swapsKept", "(II)I"⟩, 50) := ⟨⟨by decide +kernel, by decide +kernel⟩, List.mem_of_getElem? (i := 996) (by decide +kernel), List.mem_of_getElem? (i := 1490) (by decide +kernel), List.mem_of_getElem? (i := 1491) (by decide +kernel)⟩
theorem lw_p100 : lw_okq (⟨"FuseFramesModel", "exchanges", "(II)V"⟩, 50) := ⟨⟨by decide +kernel, by decide +kernel⟩, List.mem_of_getElem? (i := 996) (by decide +kernel), List.mem_of_getElem? (i := 1494) (by decide +kernel), List.mem_of_getElem? (i := 1495) (by decide +kernel)⟩
theorem lw_p101 : lw_okq (⟨"FuseFramesModel", "passesKept", "()I"⟩, 50) := ⟨⟨by decide +kernel, by decide +kernel⟩, List.mem_of_getElem? (i := 996) (by decide +kernel), List.mem_of_getElem? (i := 1502) (by decide +kernel), List.mem_of_getElem? (i := 1503) (by decide +kernel)⟩
theorem lw_p102 : lw_okq (⟨"FuseFramesModel", "goneMany", "()I"⟩, 50) := ⟨⟨by decide +kernel, by decide +kernel⟩, List.mem_of_getElem? (i := 996) (by decide +kernel), List.mem_of_getElem? (i := 1506) (by decide +kernel), List.mem_of_getElem? (i := 1507) (by decide +kernel)⟩
theorem lw_p103 : lw_okq (⟨"FuseFramesModel", "firesFrom", "(II)V"⟩, 50) := ⟨⟨by decide +kernel, by decide +kernel⟩, List.mem_of_getElem? (i := 996) (by decide +kernel), List.mem_of_getElem? (i := 1517) (by decide +kernel), List.mem_of_getElem? (i := 1518) (by decide +kernel)⟩
theorem lw_p104 : lw_okq (⟨"FuseFramesModel", "lastOf", "(I)I"⟩, 50) := ⟨⟨by decide +kernel, by decide +kernel⟩, List.mem_of_getElem? (i := 996) (by decide +kernel), List.mem_of_getElem? (i := 1529) (by decide +kernel), List.mem_of_getElem? (i := 1530) (by decide +kernel)⟩
theorem lw_p105 : lw_okq (⟨"FuseFramesModel", "allFuses", "()I"⟩, 50) := ⟨⟨by decide +kernel, by decide +kernel⟩, List.mem_of_getElem? (i := 996) (by decide +kernel), List.mem_of_getElem? (i := 1543) (by decide +kernel), List.mem_of_getElem? (i := 1544) (by decide +kernel)⟩
theorem lw_p106 : lw_okq (⟨"FuseFramesModel", "uneven", "()I"⟩, 50) := ⟨⟨by decide +kernel, by decide +kernel⟩, List.mem_of_getElem? (i := 996) (by decide +kernel), List.mem_of_getElem? (i := 1551) (by decide +kernel), List.mem_of_getElem? (i := 1552) (by decide +kernel)⟩
theorem lw_p107 : lw_okq (⟨"FuseFramesModel", "laysLeft", "(I)V"⟩, 50) := ⟨⟨by decide +kernel, by decide +kernel⟩, List.mem_of_getElem? (i := 996) (by decide +kernel), List.mem_of_getElem? (i := 1563) (by decide +kernel), List.mem_of_getElem? (i := 1564) (by decide +kernel)⟩
theorem lw_p108 : lw_okq (⟨"FuseFramesModel", "leftBy", "(II)I"⟩, 50) := ⟨⟨by decide +kernel, by decide +kernel⟩, List.mem_of_getElem? (i := 996) (by decide +kernel), List.mem_of_getElem? (i := 1567) (by decide +kernel), List.mem_of_getElem? (i := 1568) (by decide +kernel)⟩
theorem lw_p109 : lw_okq (⟨"FuseFramesModel", "otherEnd", "(II)I"⟩, 50) := ⟨⟨by decide +kernel, by decide +kernel⟩, List.mem_of_getElem? (i := 996) (by decide +kernel), List.mem_of_getElem? (i := 1571) (by decide +kernel), List.mem_of_getElem? (i := 1572) (by decide +kernel)⟩
theorem lw_p110 : lw_okq (⟨"FuseFramesModel", "lastFrom", "(I)I"⟩, 50) := ⟨⟨by decide +kernel, by decide +kernel⟩, List.mem_of_getElem? (i := 996) (by decide +kernel), List.mem_of_getElem? (i := 1583) (by decide +kernel), List.mem_of_getElem? (i := 1584) (by decide +kernel)⟩
theorem lw_p111 : lw_okq (⟨"FuseFramesModel", "twosApart", "(I)I"⟩, 50) := ⟨⟨by decide +kernel, by decide +kernel⟩, List.mem_of_getElem? (i := 996) (by decide +kernel), List.mem_of_getElem? (i := 1595) (by decide +kernel), List.mem_of_getElem? (i := 1596) (by decide +kernel)⟩
def lw_privs_7 : List (MethodName × Nat) := [(⟨"FuseFramesModel", "keeps", "(I)V"⟩, 50), (⟨"FuseFramesModel", "goodOr", "(I)I"⟩, 50), (⟨"FuseFramesModel", "soaksKept", "(I)I"⟩, 50), (⟨"FuseFramesModel", "swapsKept", "(II)I"⟩, 50), (⟨"FuseFramesModel", "exchanges", "(II)V"⟩, 50), (⟨"FuseFramesModel", "passesKept", "()I"⟩, 50), (⟨"FuseFramesModel", "goneMany", "()I"⟩, 50), (⟨"FuseFramesModel", "firesFrom", "(II)V"⟩, 50), (⟨"FuseFramesModel", "lastOf", "(I)I"⟩, 50), (⟨"FuseFramesModel", "allFuses", "()I"⟩, 50), (⟨"FuseFramesModel", "uneven", "()I"⟩, 50), (⟨"FuseFramesModel", "laysLeft", "(I)V"⟩, 50), (⟨"FuseFramesModel", "leftBy", "(II)I"⟩, 50), (⟨"FuseFramesModel", "otherEnd", "(II)I"⟩, 50), (⟨"FuseFramesModel", "lastFrom", "(I)I"⟩, 50), (⟨"FuseFramesModel", "twosApart", "(I)I"⟩, 50)]
theorem lw_r7 : ∀ q ∈ lw_privs_7, lw_okq q := List.forall_mem_cons.mpr ⟨lw_p96, List.forall_mem_cons.mpr ⟨lw_p97, List.forall_mem_cons.mpr ⟨lw_p98, List.forall_mem_cons.mpr ⟨lw_p99, List.forall_mem_cons.mpr ⟨lw_p100, List.forall_mem_cons.mpr ⟨lw_p101, List.forall_mem_cons.mpr ⟨lw_p102, List.forall_mem_cons.mpr ⟨lw_p103, List.forall_mem_cons.mpr ⟨lw_p104, List.forall_mem_cons.mpr ⟨lw_p105, List.forall_mem_cons.mpr ⟨lw_p106, List.forall_mem_cons.mpr ⟨lw_p107, List.forall_mem_cons.mpr ⟨lw_p108, List.forall_mem_cons.mpr ⟨lw_p109, List.forall_mem_cons.mpr ⟨lw_p110, List.forall_mem_cons.mpr ⟨lw_p111, fun _ h => absurd h List.not_mem_nil⟩⟩⟩⟩⟩⟩⟩⟩⟩⟩⟩⟩⟩⟩⟩⟩
theorem lw_p112 : lw_okq (⟨"FuseFramesModel", "itWas", "(I)Z"⟩, 50) := ⟨⟨by decide +kernel, by decide +kernel⟩, List.mem_of_getElem? (i := 996) (by decide +kernel), List.mem_of_getElem? (i := 1614) (by decide +kernel), List.mem_of_getElem? (i := 1615) (by decide +kernel)⟩
theorem lw_p113 : lw_okq (⟨"FuseFramesModel", "mostAlike", "(II)I"⟩, 50) := ⟨⟨by decide +kernel, by decide +kernel⟩, List.mem_of_getElem? (i := 996) (by decide +kernel), List.mem_of_getElem? (i := 1623) (by decide +kernel), List.mem_of_getElem? (i := 1624) (by decide +kernel)⟩
theorem lw_p114 : lw_okq (⟨"FuseFramesModel", "laysAside", "(I)V"⟩, 50) := ⟨⟨by decide +kernel, by decide +kernel⟩, List.mem_of_getElem? (i := 996) (by decide +kernel), List.mem_of_getElem? (i := 1646) (by decide +kernel), List.mem_of_getElem? (i := 1647) (by decide +kernel)⟩
theorem lw_p115 : lw_okq (⟨"FuseFramesModel", "runs", "(I)Z"⟩, 50) := ⟨⟨by decide +kernel, by decide +kernel⟩, List.mem_of_getElem? (i := 996) (by decide +kernel), List.mem_of_getElem? (i := 1650) (by decide +kernel), List.mem_of_getElem? (i := 1651) (by decide +kernel)⟩
theorem lw_p116 : lw_okq (⟨"FuseFramesModel", "goesAlong", "(IZ)V"⟩, 50) := ⟨⟨by decide +kernel, by decide +kernel⟩, List.mem_of_getElem? (i := 996) (by decide +kernel), List.mem_of_getElem? (i := 1654) (by decide +kernel), List.mem_of_getElem? (i := 1655) (by decide +kernel)⟩
theorem lw_p117 : lw_okq (⟨"FuseFramesModel", "obeys", "()I"⟩, 50) := ⟨⟨by decide +kernel, by decide +kernel⟩, List.mem_of_getElem? (i := 996) (by decide +kernel), List.mem_of_getElem? (i := 1658) (by decide +kernel), List.mem_of_getElem? (i := 1659) (by decide +kernel)⟩
theorem lw_p118 : lw_okq (⟨"FuseFramesModel", "takesBack", "(I)V"⟩, 50) := ⟨⟨by decide +kernel, by decide +kernel⟩, List.mem_of_getElem? (i := 996) (by decide +kernel), List.mem_of_getElem? (i := 1666) (by decide +kernel), List.mem_of_getElem? (i := 1667) (by decide +kernel)⟩
theorem lw_p119 : lw_okq (⟨"FuseFramesModel", "draws", "(I)I"⟩, 50) := ⟨⟨by decide +kernel, by decide +kernel⟩, List.mem_of_getElem? (i := 996) (by decide +kernel), List.mem_of_getElem? (i := 1674) (by decide +kernel), List.mem_of_getElem? (i := 1675) (by decide +kernel)⟩
theorem lw_p120 : lw_okq (⟨"FuseFramesModel", "matchMany", "()I"⟩, 50) := ⟨⟨by decide +kernel, by decide +kernel⟩, List.mem_of_getElem? (i := 996) (by decide +kernel), List.mem_of_getElem? (i := 1689) (by decide +kernel), List.mem_of_getElem? (i := 1690) (by decide +kernel)⟩
def lw_privs_8 : List (MethodName × Nat) := [(⟨"FuseFramesModel", "itWas", "(I)Z"⟩, 50), (⟨"FuseFramesModel", "mostAlike", "(II)I"⟩, 50), (⟨"FuseFramesModel", "laysAside", "(I)V"⟩, 50), (⟨"FuseFramesModel", "runs", "(I)Z"⟩, 50), (⟨"FuseFramesModel", "goesAlong", "(IZ)V"⟩, 50), (⟨"FuseFramesModel", "obeys", "()I"⟩, 50), (⟨"FuseFramesModel", "takesBack", "(I)V"⟩, 50), (⟨"FuseFramesModel", "draws", "(I)I"⟩, 50), (⟨"FuseFramesModel", "matchMany", "()I"⟩, 50)]
theorem lw_r8 : ∀ q ∈ lw_privs_8, lw_okq q := List.forall_mem_cons.mpr ⟨lw_p112, List.forall_mem_cons.mpr ⟨lw_p113, List.forall_mem_cons.mpr ⟨lw_p114, List.forall_mem_cons.mpr ⟨lw_p115, List.forall_mem_cons.mpr ⟨lw_p116, List.forall_mem_cons.mpr ⟨lw_p117, List.forall_mem_cons.mpr ⟨lw_p118, List.forall_mem_cons.mpr ⟨lw_p119, List.forall_mem_cons.mpr ⟨lw_p120, fun _ h => absurd h List.not_mem_nil⟩⟩⟩⟩⟩⟩⟩⟩⟩
def lw_privs : List (MethodName × Nat) := lw_privs_1 ++ (lw_privs_2 ++ (lw_privs_3 ++ (lw_privs_4 ++ (lw_privs_5 ++ (lw_privs_6 ++ (lw_privs_7 ++ (lw_privs_8)))))))
def lw_tbl : List Cond := k2_sels lw_privs ++ tables_1
theorem lw_privs_ok : ∀ q ∈ lw_privs, lw_okq q := by
  show ∀ q ∈ lw_privs_1 ++ (lw_privs_2 ++ (lw_privs_3 ++ (lw_privs_4 ++ (lw_privs_5 ++ (lw_privs_6 ++ (lw_privs_7 ++ (lw_privs_8))))))), lw_okq q
  exact List.forall_mem_append.mpr ⟨lw_r1, List.forall_mem_append.mpr ⟨lw_r2, List.forall_mem_append.mpr ⟨lw_r3, List.forall_mem_append.mpr ⟨lw_r4, List.forall_mem_append.mpr ⟨lw_r5, List.forall_mem_append.mpr ⟨lw_r6, List.forall_mem_append.mpr ⟨lw_r7, lw_r8⟩⟩⟩⟩⟩⟩⟩
def RX0 : String := "FuseFrames$Fire"
def TX0 : u_T := fun k => match k with
  | 0 => ("FuseFrames$Fire", "burns", "[I", true)
  | 1 => ("FuseFrames$Fire", "holds", "[I", true)
  | 2 => ("FuseFrames$Fire", "catching", "I", false)
  | 3 => ("FuseFrames$Fire", "comes", "[I", true)
  | 4 => ("FuseFrames$Fire", "facts", "[I", true)
  | 5 => ("FuseFrames$Fire", "alike", "[I", true)
  | _ => ("FuseFrames$Fire", "sums", "LFuseFrames$Sums;", true)
def tyX0 : Nat → FieldType := fun k => match k with
  | 0 => .array .int
  | 1 => .array .int
  | 2 => .int
  | 3 => .array .int
  | 4 => .array .int
  | 5 => .array .int
  | _ => .object "FuseFrames$Sums"
abbrev wsX00 : List Cond := u_ws RX0 TX0 7
theorem nmX0 : ∀ a, a < 7 → ∀ b, b < 7 → a ≠ b → (TX0 a).2.1 ≠ (TX0 b).2.1 := by decide +kernel
theorem tyX0_ok : ∀ k, k < 7 → parseFieldDescriptor (TX0 k).2.2.1 = some (tyX0 k) := by decide +kernel
abbrev cX0_init : ByteArray := prog_2_method_1_code
def yX0_init : MethodName := ⟨RX0, "<init>", "()V"⟩
abbrev cX0_measure : ByteArray := prog_2_method_2_code
def yX0_measure : MethodName := ⟨RX0, "measure", "(LFuseFrames$Frame;LFuseFrames$Script;)V"⟩
abbrev cX0_measureFuse : ByteArray := prog_2_method_3_code
def yX0_measureFuse : MethodName := ⟨RX0, "measureFuse", "(LFuseFrames$Frame;LFuseFrames$Script;I)V"⟩
abbrev cX0_measureKnot : ByteArray := prog_2_method_4_code
def yX0_measureKnot : MethodName := ⟨RX0, "measureKnot", "(LFuseFrames$Frame;LFuseFrames$Script;I)V"⟩
abbrev cX0_told : ByteArray := prog_2_method_5_code
def yX0_told : MethodName := ⟨RX0, "told", "(LFuseFrames$Script;I)I"⟩
abbrev cX0_spreadFromMatches : ByteArray := prog_2_method_6_code
def yX0_spreadFromMatches : MethodName := ⟨RX0, "spreadFromMatches", "(LFuseFrames$Frame;)V"⟩
abbrev cX0_spreadFrom : ByteArray := prog_2_method_7_code
def yX0_spreadFrom : MethodName := ⟨RX0, "spreadFrom", "(LFuseFrames$Frame;I)V"⟩
abbrev cX0_fromTo : ByteArray := prog_2_method_8_code
def yX0_fromTo : MethodName := ⟨RX0, "fromTo", "(LFuseFrames$Frame;II)I"⟩
abbrev cX0_spread : ByteArray := prog_2_method_9_code
def yX0_spread : MethodName := ⟨RX0, "spread", "(LFuseFrames$Frame;)V"⟩
abbrev cX0_carried : ByteArray := prog_2_method_10_code
def yX0_carried : MethodName := ⟨RX0, "carried", "(III)Z"⟩
abbrev cX0_outOf : ByteArray := prog_2_method_11_code
def yX0_outOf : MethodName := ⟨RX0, "outOf", "(LFuseFrames$Frame;I)I"⟩
abbrev cX0_lastOut : ByteArray := prog_2_method_12_code
def yX0_lastOut : MethodName := ⟨RX0, "lastOut", "(LFuseFrames$Frame;I)I"⟩
abbrev cX0_gone : ByteArray := prog_2_method_13_code
def yX0_gone : MethodName := ⟨RX0, "gone", "(LFuseFrames$Frame;)I"⟩
abbrev cX0_comesEverywhere : ByteArray := prog_2_method_14_code
def yX0_comesEverywhere : MethodName := ⟨RX0, "comesEverywhere", "()I"⟩
abbrev cX0_between : ByteArray := prog_2_method_15_code
def yX0_between : MethodName := ⟨RX0, "between", "(LFuseFrames$Frame;I)I"⟩
abbrev cX0_spans : ByteArray := prog_2_method_16_code
def yX0_spans : MethodName := ⟨RX0, "spans", "(LFuseFrames$Frame;I)I"⟩
abbrev cX0_isAsSeen : ByteArray := prog_2_method_17_code
def yX0_isAsSeen : MethodName := ⟨RX0, "isAsSeen", "(LFuseFrames$Frame;)Z"⟩
abbrev cX0_mostAlike : ByteArray := prog_2_method_18_code
def yX0_mostAlike : MethodName := ⟨RX0, "mostAlike", "(LFuseFrames$Frame;II)I"⟩
def RX1 : String := "FuseFrames$Frame"
def TX1 : u_T := fun k => match k with
  | 0 => ("FuseFrames$Frame", "fuses", "I", false)
  | 1 => ("FuseFrames$Frame", "from", "[I", true)
  | 2 => ("FuseFrames$Frame", "to", "[I", true)
  | 3 => ("FuseFrames$Frame", "length", "[I", true)
  | 4 => ("FuseFrames$Frame", "kind", "[I", true)
  | 5 => ("FuseFrames$Frame", "damp", "I", false)
  | 6 => ("FuseFrames$Frame", "match", "[I", true)
  | 7 => ("FuseFrames$Frame", "letters", "I", false)
  | 8 => ("FuseFrames$Frame", "letter", "[I", true)
  | 9 => ("FuseFrames$Frame", "seen", "I", false)
  | 10 => ("FuseFrames$Frame", "seenKnot", "[I", true)
  | 11 => ("FuseFrames$Frame", "seenSeconds", "[I", true)
  | 12 => ("FuseFrames$Frame", "term", "[I", true)
  | 13 => ("FuseFrames$Frame", "laws", "I", false)
  | 14 => ("FuseFrames$Frame", "law", "[LFuseFrames$Script;", true)
  | _ => ("FuseFrames$Frame", "force", "I", false)
def tyX1 : Nat → FieldType := fun k => match k with
  | 0 => .int
  | 1 => .array .int
  | 2 => .array .int
  | 3 => .array .int
  | 4 => .array .int
  | 5 => .int
  | 6 => .array .int
  | 7 => .int
  | 8 => .array .int
  | 9 => .int
  | 10 => .array .int
  | 11 => .array .int
  | 12 => .array .int
  | 13 => .int
  | 14 => .array (.object "FuseFrames$Script")
  | _ => .int
abbrev wsX10 : List Cond := u_ws RX1 TX1 16
theorem nmX1 : ∀ a, a < 16 → ∀ b, b < 16 → a ≠ b → (TX1 a).2.1 ≠ (TX1 b).2.1 := by decide +kernel
theorem tyX1_ok : ∀ k, k < 16 → parseFieldDescriptor (TX1 k).2.2.1 = some (tyX1 k) := by decide +kernel
abbrev cX1_init : ByteArray := prog_3_method_1_code
def yX1_init : MethodName := ⟨RX1, "<init>", "()V"⟩
abbrev cX1_become : ByteArray := prog_3_method_2_code
def yX1_become : MethodName := ⟨RX1, "become", "(LFuseFrames$Frame;)V"⟩
abbrev cX1_fuseCanBe : ByteArray := prog_3_method_3_code
def yX1_fuseCanBe : MethodName := ⟨RX1, "fuseCanBe", "(IIII)Z"⟩
abbrev cX1_hasFuse : ByteArray := prog_3_method_4_code
def yX1_hasFuse : MethodName := ⟨RX1, "hasFuse", "(I)Z"⟩
abbrev cX1_tie : ByteArray := prog_3_method_5_code
def yX1_tie : MethodName := ⟨RX1, "tie", "(IIII)I"⟩
abbrev cX1_isTied : ByteArray := prog_3_method_6_code
def yX1_isTied : MethodName := ⟨RX1, "isTied", "(II)Z"⟩
abbrev cX1_otherEnd : ByteArray := prog_3_method_7_code
def yX1_otherEnd : MethodName := ⟨RX1, "otherEnd", "(II)I"⟩
abbrev cX1_tiedTo : ByteArray := prog_3_method_8_code
def yX1_tiedTo : MethodName := ⟨RX1, "tiedTo", "(I)I"⟩
abbrev cX1_matches : ByteArray := prog_3_method_9_code
def yX1_matches : MethodName := ⟨RX1, "matches", "()I"⟩
abbrev cX1_swapLengths : ByteArray := prog_3_method_10_code
def yX1_swapLengths : MethodName := ⟨RX1, "swapLengths", "(II)V"⟩
abbrev cX1_lawOf : ByteArray := prog_3_method_11_code
def yX1_lawOf : MethodName := ⟨RX1, "lawOf", "(I)LFuseFrames$Script;"⟩
abbrev cX1_lawInForce : ByteArray := prog_3_method_12_code
def yX1_lawInForce : MethodName := ⟨RX1, "lawInForce", "()LFuseFrames$Script;"⟩
abbrev cX1_happen : ByteArray := prog_3_method_13_code
def yX1_happen : MethodName := ⟨RX1, "happen", "(III)V"⟩
def RX2 : String := "FuseFrames$Log"
def TX2 : u_T := fun k => match k with
  | 0 => ("FuseFrames$Log", "kept", "I", false)
  | 1 => ("FuseFrames$Log", "deed", "[I", true)
  | 2 => ("FuseFrames$Log", "one", "[I", true)
  | _ => ("FuseFrames$Log", "other", "[I", true)
def tyX2 : Nat → FieldType := fun k => match k with
  | 0 => .int
  | 1 => .array .int
  | 2 => .array .int
  | _ => .array .int
abbrev wsX20 : List Cond := u_ws RX2 TX2 4
theorem nmX2 : ∀ a, a < 4 → ∀ b, b < 4 → a ≠ b → (TX2 a).2.1 ≠ (TX2 b).2.1 := by decide +kernel
theorem tyX2_ok : ∀ k, k < 4 → parseFieldDescriptor (TX2 k).2.2.1 = some (tyX2 k) := by decide +kernel
abbrev cX2_init : ByteArray := prog_4_method_1_code
def yX2_init : MethodName := ⟨RX2, "<init>", "()V"⟩
abbrev cX2_keep : ByteArray := prog_4_method_2_code
def yX2_keep : MethodName := ⟨RX2, "keep", "(III)V"⟩
abbrev cX2_become : ByteArray := prog_4_method_3_code
def yX2_become : MethodName := ⟨RX2, "become", "(LFuseFrames$Log;)V"⟩
def RX3 : String := "FuseFrames$Reader"
def TX3 : u_T := fun k => match k with
  | 0 => ("FuseFrames$Reader", "script", "LFuseFrames$Script;", true)
  | 1 => ("FuseFrames$Reader", "fault", "I", false)
  | 2 => ("FuseFrames$Reader", "kind", "[I", true)
  | 3 => ("FuseFrames$Reader", "value", "[I", true)
  | 4 => ("FuseFrames$Reader", "place", "[I", true)
  | 5 => ("FuseFrames$Reader", "tokens", "I", false)
  | 6 => ("FuseFrames$Reader", "next", "I", false)
  | 7 => ("FuseFrames$Reader", "parts", "I", false)
  | _ => ("FuseFrames$Reader", "law", "Z", false)
def tyX3 : Nat → FieldType := fun k => match k with
  | 0 => .object "FuseFrames$Script"
  | 1 => .int
  | 2 => .array .int
  | 3 => .array .int
  | 4 => .array .int
  | 5 => .int
  | 6 => .int
  | 7 => .int
  | _ => .boolean
abbrev wsX30 : List Cond := u_ws RX3 TX3 9
theorem nmX3 : ∀ a, a < 9 → ∀ b, b < 9 → a ≠ b → (TX3 a).2.1 ≠ (TX3 b).2.1 := by decide +kernel
theorem tyX3_ok : ∀ k, k < 9 → parseFieldDescriptor (TX3 k).2.2.1 = some (tyX3 k) := by decide +kernel
abbrev cX3_init : ByteArray := prog_5_method_1_code
def yX3_init : MethodName := ⟨RX3, "<init>", "()V"⟩
abbrev cX3_read : ByteArray := prog_5_method_2_code
def yX3_read : MethodName := ⟨RX3, "read", "(LFuseFrames$Tape;Z)V"⟩
abbrev cX3_split : ByteArray := prog_5_method_3_code
def yX3_split : MethodName := ⟨RX3, "split", "(LFuseFrames$Tape;)V"⟩
abbrev cX3_addToken : ByteArray := prog_5_method_4_code
def yX3_addToken : MethodName := ⟨RX3, "addToken", "(III)V"⟩
abbrev cX3_isLetter : ByteArray := prog_5_method_5_code
def yX3_isLetter : MethodName := ⟨RX3, "isLetter", "(I)Z"⟩
abbrev cX3_isDigit : ByteArray := prog_5_method_6_code
def yX3_isDigit : MethodName := ⟨RX3, "isDigit", "(I)Z"⟩
abbrev cX3_endOfLetters : ByteArray := prog_5_method_7_code
def yX3_endOfLetters : MethodName := ⟨RX3, "endOfLetters", "(LFuseFrames$Tape;I)I"⟩
abbrev cX3_endOfDigits : ByteArray := prog_5_method_8_code
def yX3_endOfDigits : MethodName := ⟨RX3, "endOfDigits", "(LFuseFrames$Tape;I)I"⟩
abbrev cX3_numberAt : ByteArray := prog_5_method_9_code
def yX3_numberAt : MethodName := ⟨RX3, "numberAt", "(LFuseFrames$Tape;II)I"⟩
abbrev cX3_wordAt : ByteArray := prog_5_method_10_code
def yX3_wordAt : MethodName := ⟨RX3, "wordAt", "(LFuseFrames$Tape;II)I"⟩
abbrev cX3_isSpelled : ByteArray := prog_5_method_11_code
def yX3_isSpelled : MethodName := ⟨RX3, "isSpelled", "(LFuseFrames$Tape;IILjava/lang/String;)Z"⟩
abbrev cX3_spelled : ByteArray := prog_5_method_12_code
def yX3_spelled : MethodName := ⟨RX3, "spelled", "(I)Ljava/lang/String;"⟩
abbrev cX3_fail : ByteArray := prog_5_method_13_code
def yX3_fail : MethodName := ⟨RX3, "fail", "()V"⟩
abbrev cX3_goOn : ByteArray := prog_5_method_14_code
def yX3_goOn : MethodName := ⟨RX3, "goOn", "()V"⟩
abbrev cX3_isWord : ByteArray := prog_5_method_15_code
def yX3_isWord : MethodName := ⟨RX3, "isWord", "(I)Z"⟩
abbrev cX3_isSign : ByteArray := prog_5_method_16_code
def yX3_isSign : MethodName := ⟨RX3, "isSign", "(C)Z"⟩
abbrev cX3_take : ByteArray := prog_5_method_17_code
def yX3_take : MethodName := ⟨RX3, "take", "(C)V"⟩
abbrev cX3_clause : ByteArray := prog_5_method_18_code
def yX3_clause : MethodName := ⟨RX3, "clause", "()V"⟩
abbrev cX3_wholeSum : ByteArray := prog_5_method_19_code
def yX3_wholeSum : MethodName := ⟨RX3, "wholeSum", "()I"⟩
abbrev cX3_smallNumber : ByteArray := prog_5_method_20_code
def yX3_smallNumber : MethodName := ⟨RX3, "smallNumber", "(II)I"⟩
abbrev cX3_test : ByteArray := prog_5_method_21_code
def yX3_test : MethodName := ⟨RX3, "test", "(I)V"⟩
abbrev cX3_both : ByteArray := prog_5_method_22_code
def yX3_both : MethodName := ⟨RX3, "both", "(I)V"⟩
abbrev cX3_plain : ByteArray := prog_5_method_23_code
def yX3_plain : MethodName := ⟨RX3, "plain", "(I)V"⟩
abbrev cX3_opened : ByteArray := prog_5_method_24_code
def yX3_opened : MethodName := ⟨RX3, "opened", "(I)Z"⟩
abbrev cX3_sum : ByteArray := prog_5_method_25_code
def yX3_sum : MethodName := ⟨RX3, "sum", "(I)V"⟩
abbrev cX3_term : ByteArray := prog_5_method_26_code
def yX3_term : MethodName := ⟨RX3, "term", "(I)V"⟩
abbrev cX3_part : ByteArray := prog_5_method_27_code
def yX3_part : MethodName := ⟨RX3, "part", "(I)V"⟩
abbrev cX3_wordPart : ByteArray := prog_5_method_28_code
def yX3_wordPart : MethodName := ⟨RX3, "wordPart", "()V"⟩
def RX4 : String := "FuseFrames$Script"
def TX4 : u_T := fun k => match k with
  | 0 => ("FuseFrames$Script", "clauses", "I", false)
  | 1 => ("FuseFrames$Script", "size", "I", false)
  | 2 => ("FuseFrames$Script", "asksGone", "Z", false)
  | 3 => ("FuseFrames$Script", "verb", "[I", true)
  | 4 => ("FuseFrames$Script", "times", "[I", true)
  | 5 => ("FuseFrames$Script", "one", "[I", true)
  | 6 => ("FuseFrames$Script", "other", "[I", true)
  | 7 => ("FuseFrames$Script", "test", "[I", true)
  | _ => ("FuseFrames$Script", "code", "[I", true)
def tyX4 : Nat → FieldType := fun k => match k with
  | 0 => .int
  | 1 => .int
  | 2 => .boolean
  | 3 => .array .int
  | 4 => .array .int
  | 5 => .array .int
  | 6 => .array .int
  | 7 => .array .int
  | _ => .array .int
abbrev wsX40 : List Cond := u_ws RX4 TX4 9
theorem nmX4 : ∀ a, a < 9 → ∀ b, b < 9 → a ≠ b → (TX4 a).2.1 ≠ (TX4 b).2.1 := by decide +kernel
theorem tyX4_ok : ∀ k, k < 9 → parseFieldDescriptor (TX4 k).2.2.1 = some (tyX4 k) := by decide +kernel
abbrev cX4_init : ByteArray := prog_6_method_1_code
def yX4_init : MethodName := ⟨RX4, "<init>", "(II)V"⟩
abbrev cX4_clear : ByteArray := prog_6_method_2_code
def yX4_clear : MethodName := ⟨RX4, "clear", "()V"⟩
abbrev cX4_open : ByteArray := prog_6_method_3_code
def yX4_open : MethodName := ⟨RX4, "open", "(I)V"⟩
abbrev cX4_put : ByteArray := prog_6_method_4_code
def yX4_put : MethodName := ⟨RX4, "put", "(II)V"⟩
abbrev cX4_aimHere : ByteArray := prog_6_method_5_code
def yX4_aimHere : MethodName := ⟨RX4, "aimHere", "(I)V"⟩
abbrev cX4_copied : ByteArray := prog_6_method_6_code
def yX4_copied : MethodName := ⟨RX4, "copied", "()LFuseFrames$Script;"⟩
def RX5 : String := "FuseFrames$Sums"
def TX5 : u_T := fun k => match k with
  | _ => ("FuseFrames$Sums", "stack", "[I", true)
def tyX5 : Nat → FieldType := fun k => match k with
  | _ => .array .int
abbrev wsX50 : List Cond := u_ws RX5 TX5 1
theorem nmX5 : ∀ a, a < 1 → ∀ b, b < 1 → a ≠ b → (TX5 a).2.1 ≠ (TX5 b).2.1 := by decide +kernel
theorem tyX5_ok : ∀ k, k < 1 → parseFieldDescriptor (TX5 k).2.2.1 = some (tyX5 k) := by decide +kernel
abbrev cX5_init : ByteArray := prog_7_method_1_code
def yX5_init : MethodName := ⟨RX5, "<init>", "()V"⟩
abbrev cX5_ask : ByteArray := prog_7_method_2_code
def yX5_ask : MethodName := ⟨RX5, "ask", "(LFuseFrames$Script;I[I)I"⟩
abbrev cX5_joined : ByteArray := prog_7_method_3_code
def yX5_joined : MethodName := ⟨RX5, "joined", "(IJJ)I"⟩
def RX6 : String := "FuseFrames$Tape"
def TX6 : u_T := fun k => match k with
  | 0 => ("FuseFrames$Tape", "length", "I", false)
  | _ => ("FuseFrames$Tape", "bytes", "[I", true)
def tyX6 : Nat → FieldType := fun k => match k with
  | 0 => .int
  | _ => .array .int
abbrev wsX60 : List Cond := u_ws RX6 TX6 2
theorem nmX6 : ∀ a, a < 2 → ∀ b, b < 2 → a ≠ b → (TX6 a).2.1 ≠ (TX6 b).2.1 := by decide +kernel
theorem tyX6_ok : ∀ k, k < 2 → parseFieldDescriptor (TX6 k).2.2.1 = some (tyX6 k) := by decide +kernel
abbrev cX6_init : ByteArray := prog_8_method_1_code
def yX6_init : MethodName := ⟨RX6, "<init>", "()V"⟩
abbrev cX6_add : ByteArray := prog_8_method_2_code
def yX6_add : MethodName := ⟨RX6, "add", "(I)V"⟩
def RX7 : String := "FuseFrames"
def TX7 : u_T := fun k => match k with
  | 0 => ("FuseFrames", "frame", "LFuseFrames$Frame;", true)
  | 1 => ("FuseFrames", "spare", "LFuseFrames$Frame;", true)
  | 2 => ("FuseFrames", "evening", "LFuseFrames$Frame;", true)
  | 3 => ("FuseFrames", "images", "[LFuseFrames$Frame;", true)
  | 4 => ("FuseFrames", "log", "LFuseFrames$Log;", true)
  | 5 => ("FuseFrames", "spareLog", "LFuseFrames$Log;", true)
  | 6 => ("FuseFrames", "tape", "LFuseFrames$Tape;", true)
  | 7 => ("FuseFrames", "reader", "LFuseFrames$Reader;", true)
  | 8 => ("FuseFrames", "sums", "LFuseFrames$Sums;", true)
  | 9 => ("FuseFrames", "fire", "LFuseFrames$Fire;", true)
  | 10 => ("FuseFrames", "facts", "[I", true)
  | 11 => ("FuseFrames", "refusals", "[I", true)
  | 12 => ("FuseFrames", "chances", "[J", true)
  | 13 => ("FuseFrames", "ash", "I", false)
  | 14 => ("FuseFrames", "fault", "I", false)
  | 15 => ("FuseFrames", "stopped", "I", false)
  | _ => ("FuseFrames", "status", "I", false)
def tyX7 : Nat → FieldType := fun k => match k with
  | 0 => .object "FuseFrames$Frame"
  | 1 => .object "FuseFrames$Frame"
  | 2 => .object "FuseFrames$Frame"
  | 3 => .array (.object "FuseFrames$Frame")
  | 4 => .object "FuseFrames$Log"
  | 5 => .object "FuseFrames$Log"
  | 6 => .object "FuseFrames$Tape"
  | 7 => .object "FuseFrames$Reader"
  | 8 => .object "FuseFrames$Sums"
  | 9 => .object "FuseFrames$Fire"
  | 10 => .array .int
  | 11 => .array .int
  | 12 => .array .long
  | 13 => .int
  | 14 => .int
  | 15 => .int
  | _ => .int
abbrev wsX70 : List Cond := u_ws RX7 TX7 17
theorem nmX7 : ∀ a, a < 17 → ∀ b, b < 17 → a ≠ b → (TX7 a).2.1 ≠ (TX7 b).2.1 := by decide +kernel
theorem tyX7_ok : ∀ k, k < 17 → parseFieldDescriptor (TX7 k).2.2.1 = some (tyX7 k) := by decide +kernel
abbrev cX7_init : ByteArray := prog_1_method_1_code
def yX7_init : MethodName := ⟨RX7, "<init>", "()V"⟩
abbrev cX7_fuse : ByteArray := prog_1_method_2_code
def yX7_fuse : MethodName := ⟨RX7, "fuse", "(IIII)I"⟩
abbrev cX7_of : ByteArray := prog_1_method_3_code
def yX7_of : MethodName := ⟨RX7, "of", "(II)I"⟩
abbrev cX7_burning : ByteArray := prog_1_method_4_code
def yX7_burning : MethodName := ⟨RX7, "burning", "(II)I"⟩
abbrev cX7_at : ByteArray := prog_1_method_5_code
def yX7_at : MethodName := ⟨RX7, "at", "(II)I"⟩
abbrev cX7_letter : ByteArray := prog_1_method_6_code
def yX7_letter : MethodName := ⟨RX7, "letter", "(I)I"⟩
abbrev cX7_terms : ByteArray := prog_1_method_7_code
def yX7_terms : MethodName := ⟨RX7, "terms", "(II)I"⟩
abbrev cX7_mostOfTerm : ByteArray := prog_1_method_8_code
def yX7_mostOfTerm : MethodName := ⟨RX7, "mostOfTerm", "(I)I"⟩
abbrev cX7_feed : ByteArray := prog_1_method_9_code
def yX7_feed : MethodName := ⟨RX7, "feed", "(IIIII)I"⟩
abbrev cX7_end : ByteArray := prog_1_method_10_code
def yX7_end : MethodName := ⟨RX7, "end", "(I)I"⟩
abbrev cX7_row : ByteArray := prog_1_method_11_code
def yX7_row : MethodName := ⟨RX7, "row", "()I"⟩
abbrev cX7_tieFromTape : ByteArray := prog_1_method_12_code
def yX7_tieFromTape : MethodName := ⟨RX7, "tieFromTape", "(I)Z"⟩
abbrev cX7_ash : ByteArray := prog_1_method_13_code
def yX7_ash : MethodName := ⟨RX7, "ash", "()I"⟩
abbrev cX7_law : ByteArray := prog_1_method_14_code
def yX7_law : MethodName := ⟨RX7, "law", "()I"⟩
abbrev cX7_orders : ByteArray := prog_1_method_15_code
def yX7_orders : MethodName := ⟨RX7, "orders", "()I"⟩
abbrev cX7_ran : ByteArray := prog_1_method_16_code
def yX7_ran : MethodName := ⟨RX7, "ran", "(LFuseFrames$Script;I)Z"⟩
abbrev cX7_tellFacts : ByteArray := prog_1_method_17_code
def yX7_tellFacts : MethodName := ⟨RX7, "tellFacts", "()V"⟩
abbrev cX7_isSo : ByteArray := prog_1_method_18_code
def yX7_isSo : MethodName := ⟨RX7, "isSo", "(LFuseFrames$Script;I)Z"⟩
abbrev cX7_asked : ByteArray := prog_1_method_19_code
def yX7_asked : MethodName := ⟨RX7, "asked", "(LFuseFrames$Script;I)I"⟩
abbrev cX7_deed : ByteArray := prog_1_method_20_code
def yX7_deed : MethodName := ⟨RX7, "deed", "(III)I"⟩
abbrev cX7_fault : ByteArray := prog_1_method_21_code
def yX7_fault : MethodName := ⟨RX7, "fault", "()I"⟩
abbrev cX7_stopped : ByteArray := prog_1_method_22_code
def yX7_stopped : MethodName := ⟨RX7, "stopped", "()I"⟩
abbrev cX7_force : ByteArray := prog_1_method_23_code
def yX7_force : MethodName := ⟨RX7, "force", "(I)I"⟩
abbrev cX7_light : ByteArray := prog_1_method_24_code
def yX7_light : MethodName := ⟨RX7, "light", "(I)I"⟩
abbrev cX7_lightMatch : ByteArray := prog_1_method_25_code
def yX7_lightMatch : MethodName := ⟨RX7, "lightMatch", "(I)I"⟩
abbrev cX7_soak : ByteArray := prog_1_method_26_code
def yX7_soak : MethodName := ⟨RX7, "soak", "(I)I"⟩
abbrev cX7_soakFuse : ByteArray := prog_1_method_27_code
def yX7_soakFuse : MethodName := ⟨RX7, "soakFuse", "(I)I"⟩
abbrev cX7_swap : ByteArray := prog_1_method_28_code
def yX7_swap : MethodName := ⟨RX7, "swap", "(II)I"⟩
abbrev cX7_swapFuses : ByteArray := prog_1_method_29_code
def yX7_swapFuses : MethodName := ⟨RX7, "swapFuses", "(II)I"⟩
abbrev cX7_pass : ByteArray := prog_1_method_30_code
def yX7_pass : MethodName := ⟨RX7, "pass", "()I"⟩
abbrev cX7_passSecond : ByteArray := prog_1_method_31_code
def yX7_passSecond : MethodName := ⟨RX7, "passSecond", "()I"⟩
abbrev cX7_undo : ByteArray := prog_1_method_32_code
def yX7_undo : MethodName := ⟨RX7, "undo", "()I"⟩
abbrev cX7_goneIn : ByteArray := prog_1_method_33_code
def yX7_goneIn : MethodName := ⟨RX7, "goneIn", "(LFuseFrames$Frame;)I"⟩
abbrev cX7_when : ByteArray := prog_1_method_34_code
def yX7_when : MethodName := ⟨RX7, "when", "(II)I"⟩
abbrev cX7_burnOnPaper : ByteArray := prog_1_method_35_code
def yX7_burnOnPaper : MethodName := ⟨RX7, "burnOnPaper", "(I)V"⟩
abbrev cX7_out : ByteArray := prog_1_method_36_code
def yX7_out : MethodName := ⟨RX7, "out", "(II)I"⟩
abbrev cX7_stands : ByteArray := prog_1_method_37_code
def yX7_stands : MethodName := ⟨RX7, "stands", "(II)I"⟩
abbrev cX7_best : ByteArray := prog_1_method_38_code
def yX7_best : MethodName := ⟨RX7, "best", "(II)I"⟩
abbrev cX7_even : ByteArray := prog_1_method_39_code
def yX7_even : MethodName := ⟨RX7, "even", "(I)I"⟩
abbrev cX7_latestBehindEarliest : ByteArray := prog_1_method_40_code
def yX7_latestBehindEarliest : MethodName := ⟨RX7, "latestBehindEarliest", "()I"⟩
abbrev cX7_centre : ByteArray := prog_1_method_41_code
def yX7_centre : MethodName := ⟨RX7, "centre", "(I)I"⟩
abbrev cX7_way : ByteArray := prog_1_method_42_code
def yX7_way : MethodName := ⟨RX7, "way", "(III)I"⟩
abbrev cX7_nextOnWay : ByteArray := prog_1_method_43_code
def yX7_nextOnWay : MethodName := ⟨RX7, "nextOnWay", "(III)I"⟩
abbrev cX7_cut : ByteArray := prog_1_method_44_code
def yX7_cut : MethodName := ⟨RX7, "cut", "(III)I"⟩
abbrev cX7_exchanged : ByteArray := prog_1_method_45_code
def yX7_exchanged : MethodName := ⟨RX7, "exchanged", "(II)I"⟩
abbrev cX7_swapOnPaper : ByteArray := prog_1_method_46_code
def yX7_swapOnPaper : MethodName := ⟨RX7, "swapOnPaper", "(II)V"⟩
abbrev cX7_measured : ByteArray := prog_1_method_47_code
def yX7_measured : MethodName := ⟨RX7, "measured", "(II)I"⟩
abbrev cX7_seen : ByteArray := prog_1_method_48_code
def yX7_seen : MethodName := ⟨RX7, "seen", "(II)I"⟩
abbrev cX7_forget : ByteArray := prog_1_method_49_code
def yX7_forget : MethodName := ⟨RX7, "forget", "()I"⟩
abbrev cX7_was : ByteArray := prog_1_method_50_code
def yX7_was : MethodName := ⟨RX7, "was", "()I"⟩
abbrev cX7_wasAt : ByteArray := prog_1_method_51_code
def yX7_wasAt : MethodName := ⟨RX7, "wasAt", "()I"⟩
abbrev cX7_look : ByteArray := prog_1_method_52_code
def yX7_look : MethodName := ⟨RX7, "look", "(I)I"⟩
abbrev cX7_wet : ByteArray := prog_1_method_53_code
def yX7_wet : MethodName := ⟨RX7, "wet", "(III)I"⟩
abbrev cX7_few : ByteArray := prog_1_method_54_code
def yX7_few : MethodName := ⟨RX7, "few", "(II)J"⟩
abbrev cX7_compare : ByteArray := prog_1_method_55_code
def yX7_compare : MethodName := ⟨RX7, "compare", "(II)I"⟩
abbrev cX7_evenings : ByteArray := prog_1_method_56_code
def yX7_evenings : MethodName := ⟨RX7, "evenings", "(II)I"⟩
abbrev cX7_nextDraw : ByteArray := prog_1_method_57_code
def yX7_nextDraw : MethodName := ⟨RX7, "nextDraw", "(I)I"⟩
abbrev cX7_drawn : ByteArray := prog_1_method_58_code
def yX7_drawn : MethodName := ⟨RX7, "drawn", "(II)I"⟩
abbrev cX7_image : ByteArray := prog_1_method_59_code
def yX7_image : MethodName := ⟨RX7, "image", "(I)I"⟩
abbrev cX7_back : ByteArray := prog_1_method_60_code
def yX7_back : MethodName := ⟨RX7, "back", "(I)I"⟩
abbrev cX7_count : ByteArray := prog_1_method_61_code
def yX7_count : MethodName := ⟨RX7, "count", "(I)I"⟩
abbrev cX7_status : ByteArray := prog_1_method_62_code
def yX7_status : MethodName := ⟨RX7, "status", "()I"⟩
abbrev cX7_answered : ByteArray := prog_1_method_63_code
def yX7_answered : MethodName := ⟨RX7, "answered", "(I)I"⟩
abbrev cX7_refused : ByteArray := prog_1_method_64_code
def yX7_refused : MethodName := ⟨RX7, "refused", "(I)I"⟩
abbrev cX7_answeredOrRefused : ByteArray := prog_1_method_65_code
def yX7_answeredOrRefused : MethodName := ⟨RX7, "answeredOrRefused", "(I)I"⟩
abbrev cX7_isKnot : ByteArray := prog_1_method_66_code
def yX7_isKnot : MethodName := ⟨RX7, "isKnot", "(I)Z"⟩
abbrev cX7_areKnots : ByteArray := prog_1_method_67_code
def yX7_areKnots : MethodName := ⟨RX7, "areKnots", "(I)Z"⟩
abbrev cX7_isPair : ByteArray := prog_1_method_68_code
def yX7_isPair : MethodName := ⟨RX7, "isPair", "(I)Z"⟩
abbrev cX7_isSooner : ByteArray := prog_1_method_69_code
def yX7_isSooner : MethodName := ⟨RX7, "isSooner", "(II)Z"⟩
abbrev cX7_bit : ByteArray := prog_1_method_70_code
def yX7_bit : MethodName := ⟨RX7, "bit", "(II)I"⟩
def RX8 : String := "FuseFramesModel"
def TX8 : u_T := fun k => match k with
  | 0 => ("FuseFramesModel", "status", "I", false)
  | 1 => ("FuseFramesModel", "refused", "[I", true)
  | 2 => ("FuseFramesModel", "kept", "[I", true)
  | 3 => ("FuseFramesModel", "images", "[I", true)
  | 4 => ("FuseFramesModel", "hasImage", "[Z", true)
  | 5 => ("FuseFramesModel", "aside", "[I", true)
  | 6 => ("FuseFramesModel", "ash0", "I", false)
  | 7 => ("FuseFramesModel", "words", "[B", true)
  | 8 => ("FuseFramesModel", "firstWord", "I", false)
  | 9 => ("FuseFramesModel", "lastWord", "I", false)
  | 10 => ("FuseFramesModel", "isOrders", "Z", false)
  | 11 => ("FuseFramesModel", "tape", "[B", true)
  | 12 => ("FuseFramesModel", "five", "[I", true)
  | 13 => ("FuseFramesModel", "taped", "I", false)
  | 14 => ("FuseFramesModel", "fault", "I", false)
  | 15 => ("FuseFramesModel", "code", "[I", true)
  | 16 => ("FuseFramesModel", "value", "[I", true)
  | 17 => ("FuseFramesModel", "placed", "[I", true)
  | 18 => ("FuseFramesModel", "tokens", "I", false)
  | 19 => ("FuseFramesModel", "token", "I", false)
  | 20 => ("FuseFramesModel", "leaves", "I", false)
  | 21 => ("FuseFramesModel", "bad", "I", false)
  | 22 => ("FuseFramesModel", "go", "I", false)
  | 23 => ("FuseFramesModel", "goEnd", "I", false)
  | 24 => ("FuseFramesModel", "broken", "Z", false)
  | 25 => ("FuseFramesModel", "inOrders", "Z", false)
  | 26 => ("FuseFramesModel", "asked", "[I", true)
  | 27 => ("FuseFramesModel", "orderDone", "I", false)
  | 28 => ("FuseFramesModel", "orderLatest", "I", false)
  | 29 => ("FuseFramesModel", "goneNow", "I", false)
  | 30 => ("FuseFramesModel", "burn", "[I", true)
  | 31 => ("FuseFramesModel", "hold", "[I", true)
  | 32 => ("FuseFramesModel", "comes", "[I", true)
  | 33 => ("FuseFramesModel", "catching", "I", false)
  | 34 => ("FuseFramesModel", "left0", "[I", true)
  | 35 => ("FuseFramesModel", "leftAhead", "[I", true)
  | 36 => ("FuseFramesModel", "undoMany", "I", false)
  | 37 => ("FuseFramesModel", "left", "[I", true)
  | 38 => ("FuseFramesModel", "between", "[I", true)
  | 39 => ("FuseFramesModel", "shares", "[J", true)
  | 40 => ("FuseFramesModel", "stopped0", "I", false)
  | 41 => ("FuseFramesModel", "orderAt", "I", false)
  | 42 => ("FuseFramesModel", "howOften", "I", false)
  | 43 => ("FuseFramesModel", "head", "I", false)
  | 44 => ("FuseFramesModel", "sumsAre", "Z", false)
  | 45 => ("FuseFramesModel", "testIs", "Z", false)
  | 46 => ("FuseFramesModel", "sums", "[J", true)
  | 47 => ("FuseFramesModel", "drawnMoved", "[I", true)
  | 48 => ("FuseFramesModel", "drawnMany", "I", false)
  | _ => ("FuseFramesModel", "latest", "I", false)
def tyX8 : Nat → FieldType := fun k => match k with
  | 0 => .int
  | 1 => .array .int
  | 2 => .array .int
  | 3 => .array .int
  | 4 => .array .boolean
  | 5 => .array .int
  | 6 => .int
  | 7 => .array .byte
  | 8 => .int
  | 9 => .int
  | 10 => .boolean
  | 11 => .array .byte
  | 12 => .array .int
  | 13 => .int
  | 14 => .int
  | 15 => .array .int
  | 16 => .array .int
  | 17 => .array .int
  | 18 => .int
  | 19 => .int
  | 20 => .int
  | 21 => .int
  | 22 => .int
  | 23 => .int
  | 24 => .boolean
  | 25 => .boolean
  | 26 => .array .int
  | 27 => .int
  | 28 => .int
  | 29 => .int
  | 30 => .array .int
  | 31 => .array .int
  | 32 => .array .int
  | 33 => .int
  | 34 => .array .int
  | 35 => .array .int
  | 36 => .int
  | 37 => .array .int
  | 38 => .array .int
  | 39 => .array .long
  | 40 => .int
  | 41 => .int
  | 42 => .int
  | 43 => .int
  | 44 => .boolean
  | 45 => .boolean
  | 46 => .array .long
  | 47 => .array .int
  | 48 => .int
  | _ => .int
abbrev wsX80 : List Cond := u_ws RX8 TX8 50
theorem nmX8 : ∀ a, a < 50 → ∀ b, b < 50 → a ≠ b → (TX8 a).2.1 ≠ (TX8 b).2.1 := by decide +kernel
theorem tyX8_ok : ∀ k, k < 50 → parseFieldDescriptor (TX8 k).2.2.1 = some (tyX8 k) := by decide +kernel
abbrev cX8_lies : ByteArray := prog_10_method_1_code
def yX8_lies : MethodName := ⟨RX8, "lies", "(III)Z"⟩
abbrev cX8_lesser : ByteArray := prog_10_method_2_code
def yX8_lesser : MethodName := ⟨RX8, "lesser", "(II)I"⟩
abbrev cX8_greater : ByteArray := prog_10_method_3_code
def yX8_greater : MethodName := ⟨RX8, "greater", "(II)I"⟩
abbrev cX8_apart : ByteArray := prog_10_method_4_code
def yX8_apart : MethodName := ⟨RX8, "apart", "(II)I"⟩
abbrev cX8_refuses : ByteArray := prog_10_method_5_code
def yX8_refuses : MethodName := ⟨RX8, "refuses", "(I)I"⟩
abbrev cX8_good : ByteArray := prog_10_method_6_code
def yX8_good : MethodName := ⟨RX8, "good", "(I)I"⟩
abbrev cX8_settled : ByteArray := prog_10_method_7_code
def yX8_settled : MethodName := ⟨RX8, "settled", "(I)I"⟩
abbrev cX8_isIn : ByteArray := prog_10_method_8_code
def yX8_isIn : MethodName := ⟨RX8, "isIn", "(II)Z"⟩
abbrev cX8_ones : ByteArray := prog_10_method_9_code
def yX8_ones : MethodName := ⟨RX8, "ones", "(I)I"⟩
abbrev cX8_isKnot : ByteArray := prog_10_method_10_code
def yX8_isKnot : MethodName := ⟨RX8, "isKnot", "(I)Z"⟩
abbrev cX8_init : ByteArray := prog_10_method_11_code
def yX8_init : MethodName := ⟨RX8, "<init>", "()V"⟩
abbrev cX8_laysAside : ByteArray := prog_10_method_12_code
def yX8_laysAside : MethodName := ⟨RX8, "laysAside", "(I)V"⟩
abbrev cX8_takesBack : ByteArray := prog_10_method_13_code
def yX8_takesBack : MethodName := ⟨RX8, "takesBack", "(I)V"⟩
abbrev cX8_image : ByteArray := prog_10_method_14_code
def yX8_image : MethodName := ⟨RX8, "image", "(I)I"⟩
abbrev cX8_back : ByteArray := prog_10_method_15_code
def yX8_back : MethodName := ⟨RX8, "back", "(I)I"⟩
abbrev cX8_fuseMany : ByteArray := prog_10_method_16_code
def yX8_fuseMany : MethodName := ⟨RX8, "fuseMany", "()I"⟩
abbrev cX8_isFuse : ByteArray := prog_10_method_17_code
def yX8_isFuse : MethodName := ⟨RX8, "isFuse", "(I)Z"⟩
abbrev cX8_canFuse : ByteArray := prog_10_method_18_code
def yX8_canFuse : MethodName := ⟨RX8, "canFuse", "(IIII)Z"⟩
abbrev cX8_adds : ByteArray := prog_10_method_19_code
def yX8_adds : MethodName := ⟨RX8, "adds", "(IIII)V"⟩
abbrev cX8_fuse : ByteArray := prog_10_method_20_code
def yX8_fuse : MethodName := ⟨RX8, "fuse", "(IIII)I"⟩
abbrev cX8_of : ByteArray := prog_10_method_21_code
def yX8_of : MethodName := ⟨RX8, "of", "(II)I"⟩
abbrev cX8_at : ByteArray := prog_10_method_22_code
def yX8_at : MethodName := ⟨RX8, "at", "(II)I"⟩
abbrev cX8_letter : ByteArray := prog_10_method_23_code
def yX8_letter : MethodName := ⟨RX8, "letter", "(I)I"⟩
abbrev cX8_isTerm : ByteArray := prog_10_method_24_code
def yX8_isTerm : MethodName := ⟨RX8, "isTerm", "(II)Z"⟩
abbrev cX8_termAt : ByteArray := prog_10_method_25_code
def yX8_termAt : MethodName := ⟨RX8, "termAt", "(I)I"⟩
abbrev cX8_terms : ByteArray := prog_10_method_26_code
def yX8_terms : MethodName := ⟨RX8, "terms", "(II)I"⟩
abbrev cX8_row : ByteArray := prog_10_method_27_code
def yX8_row : MethodName := ⟨RX8, "row", "()I"⟩
abbrev cX8_ash : ByteArray := prog_10_method_28_code
def yX8_ash : MethodName := ⟨RX8, "ash", "()I"⟩
abbrev cX8_feed : ByteArray := prog_10_method_29_code
def yX8_feed : MethodName := ⟨RX8, "feed", "(IIIII)I"⟩
abbrev cX8_end : ByteArray := prog_10_method_30_code
def yX8_end : MethodName := ⟨RX8, "end", "(I)I"⟩
abbrev cX8_isSmall : ByteArray := prog_10_method_31_code
def yX8_isSmall : MethodName := ⟨RX8, "isSmall", "(I)Z"⟩
abbrev cX8_isDigit : ByteArray := prog_10_method_32_code
def yX8_isDigit : MethodName := ⟨RX8, "isDigit", "(I)Z"⟩
abbrev cX8_wordOf : ByteArray := prog_10_method_33_code
def yX8_wordOf : MethodName := ⟨RX8, "wordOf", "(II)I"⟩
abbrev cX8_splits : ByteArray := prog_10_method_34_code
def yX8_splits : MethodName := ⟨RX8, "splits", "(I)V"⟩
abbrev cX8_fine : ByteArray := prog_10_method_35_code
def yX8_fine : MethodName := ⟨RX8, "fine", "()Z"⟩
abbrev cX8_faults : ByteArray := prog_10_method_36_code
def yX8_faults : MethodName := ⟨RX8, "faults", "()V"⟩
abbrev cX8_takes0 : ByteArray := prog_10_method_37_code
def yX8_takes0 : MethodName := ⟨RX8, "takes0", "(I)Z"⟩
abbrev cX8_must : ByteArray := prog_10_method_38_code
def yX8_must : MethodName := ⟨RX8, "must", "(I)V"⟩
abbrev cX8_leaf : ByteArray := prog_10_method_39_code
def yX8_leaf : MethodName := ⟨RX8, "leaf", "()V"⟩
abbrev cX8_sign : ByteArray := prog_10_method_40_code
def yX8_sign : MethodName := ⟨RX8, "sign", "(C)I"⟩
abbrev cX8_mustNumber : ByteArray := prog_10_method_41_code
def yX8_mustNumber : MethodName := ⟨RX8, "mustNumber", "(II)V"⟩
abbrev cX8_readClause : ByteArray := prog_10_method_42_code
def yX8_readClause : MethodName := ⟨RX8, "readClause", "()V"⟩
abbrev cX8_readOrder : ByteArray := prog_10_method_43_code
def yX8_readOrder : MethodName := ⟨RX8, "readOrder", "()V"⟩
abbrev cX8_readOne : ByteArray := prog_10_method_44_code
def yX8_readOne : MethodName := ⟨RX8, "readOne", "()V"⟩
abbrev cX8_readTest : ByteArray := prog_10_method_45_code
def yX8_readTest : MethodName := ⟨RX8, "readTest", "(I)V"⟩
abbrev cX8_readBoth : ByteArray := prog_10_method_46_code
def yX8_readBoth : MethodName := ⟨RX8, "readBoth", "(I)V"⟩
abbrev cX8_readPlain : ByteArray := prog_10_method_47_code
def yX8_readPlain : MethodName := ⟨RX8, "readPlain", "(I)V"⟩
abbrev cX8_readSum : ByteArray := prog_10_method_48_code
def yX8_readSum : MethodName := ⟨RX8, "readSum", "(I)V"⟩
abbrev cX8_readTerm : ByteArray := prog_10_method_49_code
def yX8_readTerm : MethodName := ⟨RX8, "readTerm", "(I)V"⟩
abbrev cX8_readPart : ByteArray := prog_10_method_50_code
def yX8_readPart : MethodName := ⟨RX8, "readPart", "(I)V"⟩
abbrev cX8_reads : ByteArray := prog_10_method_51_code
def yX8_reads : MethodName := ⟨RX8, "reads", "()Z"⟩
abbrev cX8_readsAs : ByteArray := prog_10_method_52_code
def yX8_readsAs : MethodName := ⟨RX8, "readsAs", "(Z)Z"⟩
abbrev cX8_lays : ByteArray := prog_10_method_53_code
def yX8_lays : MethodName := ⟨RX8, "lays", "(I)V"⟩
abbrev cX8_law : ByteArray := prog_10_method_54_code
def yX8_law : MethodName := ⟨RX8, "law", "()I"⟩
abbrev cX8_fault : ByteArray := prog_10_method_55_code
def yX8_fault : MethodName := ⟨RX8, "fault", "()I"⟩
abbrev cX8_isLaw : ByteArray := prog_10_method_56_code
def yX8_isLaw : MethodName := ⟨RX8, "isLaw", "(I)Z"⟩
abbrev cX8_force : ByteArray := prog_10_method_57_code
def yX8_force : MethodName := ⟨RX8, "force", "(I)I"⟩
abbrev cX8_codeAt : ByteArray := prog_10_method_58_code
def yX8_codeAt : MethodName := ⟨RX8, "codeAt", "(I)I"⟩
abbrev cX8_passes0 : ByteArray := prog_10_method_59_code
def yX8_passes0 : MethodName := ⟨RX8, "passes0", "(I)Z"⟩
abbrev cX8_bounded : ByteArray := prog_10_method_60_code
def yX8_bounded : MethodName := ⟨RX8, "bounded", "(JZ)J"⟩
abbrev cX8_sumOf : ByteArray := prog_10_method_61_code
def yX8_sumOf : MethodName := ⟨RX8, "sumOf", "(Z)J"⟩
abbrev cX8_termOf : ByteArray := prog_10_method_62_code
def yX8_termOf : MethodName := ⟨RX8, "termOf", "(Z)J"⟩
abbrev cX8_partOf : ByteArray := prog_10_method_63_code
def yX8_partOf : MethodName := ⟨RX8, "partOf", "(Z)J"⟩
abbrev cX8_dampMany : ByteArray := prog_10_method_64_code
def yX8_dampMany : MethodName := ⟨RX8, "dampMany", "()I"⟩
abbrev cX8_orderValue : ByteArray := prog_10_method_65_code
def yX8_orderValue : MethodName := ⟨RX8, "orderValue", "(II)I"⟩
abbrev cX8_testOf : ByteArray := prog_10_method_66_code
def yX8_testOf : MethodName := ⟨RX8, "testOf", "(Z)Z"⟩
abbrev cX8_bothOf : ByteArray := prog_10_method_67_code
def yX8_bothOf : MethodName := ⟨RX8, "bothOf", "(Z)Z"⟩
abbrev cX8_plainOf : ByteArray := prog_10_method_68_code
def yX8_plainOf : MethodName := ⟨RX8, "plainOf", "(Z)Z"⟩
abbrev cX8_positiveOf : ByteArray := prog_10_method_69_code
def yX8_positiveOf : MethodName := ⟨RX8, "positiveOf", "(Z)Z"⟩
abbrev cX8_endsOf : ByteArray := prog_10_method_70_code
def yX8_endsOf : MethodName := ⟨RX8, "endsOf", "(I)I"⟩
abbrev cX8_setsFuse : ByteArray := prog_10_method_71_code
def yX8_setsFuse : MethodName := ⟨RX8, "setsFuse", "(I)V"⟩
abbrev cX8_setsKnot : ByteArray := prog_10_method_72_code
def yX8_setsKnot : MethodName := ⟨RX8, "setsKnot", "(I)V"⟩
abbrev cX8_tells : ByteArray := prog_10_method_73_code
def yX8_tells : MethodName := ⟨RX8, "tells", "(IIII)I"⟩
abbrev cX8_burnsFor : ByteArray := prog_10_method_74_code
def yX8_burnsFor : MethodName := ⟨RX8, "burnsFor", "(I)I"⟩
abbrev cX8_holdsFor : ByteArray := prog_10_method_75_code
def yX8_holdsFor : MethodName := ⟨RX8, "holdsFor", "(I)I"⟩
abbrev cX8_catchesNow : ByteArray := prog_10_method_76_code
def yX8_catchesNow : MethodName := ⟨RX8, "catchesNow", "(I)Z"⟩
abbrev cX8_laysTimes : ByteArray := prog_10_method_77_code
def yX8_laysTimes : MethodName := ⟨RX8, "laysTimes", "()V"⟩
abbrev cX8_goesOn : ByteArray := prog_10_method_78_code
def yX8_goesOn : MethodName := ⟨RX8, "goesOn", "(III)Z"⟩
abbrev cX8_fires : ByteArray := prog_10_method_79_code
def yX8_fires : MethodName := ⟨RX8, "fires", "(I)V"⟩
abbrev cX8_firesFrom : ByteArray := prog_10_method_80_code
def yX8_firesFrom : MethodName := ⟨RX8, "firesFrom", "(II)V"⟩
abbrev cX8_firesByMatches : ByteArray := prog_10_method_81_code
def yX8_firesByMatches : MethodName := ⟨RX8, "firesByMatches", "()V"⟩
abbrev cX8_outOf : ByteArray := prog_10_method_82_code
def yX8_outOf : MethodName := ⟨RX8, "outOf", "(I)I"⟩
abbrev cX8_orNone : ByteArray := prog_10_method_83_code
def yX8_orNone : MethodName := ⟨RX8, "orNone", "(I)I"⟩
abbrev cX8_outByMatches : ByteArray := prog_10_method_84_code
def yX8_outByMatches : MethodName := ⟨RX8, "outByMatches", "(I)I"⟩
abbrev cX8_comesByMatches : ByteArray := prog_10_method_85_code
def yX8_comesByMatches : MethodName := ⟨RX8, "comesByMatches", "(I)I"⟩
abbrev cX8_goneMany : ByteArray := prog_10_method_86_code
def yX8_goneMany : MethodName := ⟨RX8, "goneMany", "()I"⟩
abbrev cX8_keeps : ByteArray := prog_10_method_87_code
def yX8_keeps : MethodName := ⟨RX8, "keeps", "(I)V"⟩
abbrev cX8_undo : ByteArray := prog_10_method_88_code
def yX8_undo : MethodName := ⟨RX8, "undo", "()I"⟩
abbrev cX8_goodOr : ByteArray := prog_10_method_89_code
def yX8_goodOr : MethodName := ⟨RX8, "goodOr", "(I)I"⟩
abbrev cX8_lightsKept : ByteArray := prog_10_method_90_code
def yX8_lightsKept : MethodName := ⟨RX8, "lightsKept", "(I)I"⟩
abbrev cX8_soaksKept : ByteArray := prog_10_method_91_code
def yX8_soaksKept : MethodName := ⟨RX8, "soaksKept", "(I)I"⟩
abbrev cX8_exchanges : ByteArray := prog_10_method_92_code
def yX8_exchanges : MethodName := ⟨RX8, "exchanges", "(II)V"⟩
abbrev cX8_swapsKept : ByteArray := prog_10_method_93_code
def yX8_swapsKept : MethodName := ⟨RX8, "swapsKept", "(II)I"⟩
abbrev cX8_passesKept : ByteArray := prog_10_method_94_code
def yX8_passesKept : MethodName := ⟨RX8, "passesKept", "()I"⟩
abbrev cX8_light : ByteArray := prog_10_method_95_code
def yX8_light : MethodName := ⟨RX8, "light", "(I)I"⟩
abbrev cX8_soak : ByteArray := prog_10_method_96_code
def yX8_soak : MethodName := ⟨RX8, "soak", "(I)I"⟩
abbrev cX8_swap : ByteArray := prog_10_method_97_code
def yX8_swap : MethodName := ⟨RX8, "swap", "(II)I"⟩
abbrev cX8_pass : ByteArray := prog_10_method_98_code
def yX8_pass : MethodName := ⟨RX8, "pass", "()I"⟩
abbrev cX8_areKnots : ByteArray := prog_10_method_99_code
def yX8_areKnots : MethodName := ⟨RX8, "areKnots", "(I)Z"⟩
abbrev cX8_when : ByteArray := prog_10_method_100_code
def yX8_when : MethodName := ⟨RX8, "when", "(II)I"⟩
abbrev cX8_out : ByteArray := prog_10_method_101_code
def yX8_out : MethodName := ⟨RX8, "out", "(II)I"⟩
abbrev cX8_lastOf : ByteArray := prog_10_method_102_code
def yX8_lastOf : MethodName := ⟨RX8, "lastOf", "(I)I"⟩
abbrev cX8_allFuses : ByteArray := prog_10_method_103_code
def yX8_allFuses : MethodName := ⟨RX8, "allFuses", "()I"⟩
abbrev cX8_stands : ByteArray := prog_10_method_104_code
def yX8_stands : MethodName := ⟨RX8, "stands", "(II)I"⟩
abbrev cX8_best : ByteArray := prog_10_method_105_code
def yX8_best : MethodName := ⟨RX8, "best", "(II)I"⟩
abbrev cX8_uneven : ByteArray := prog_10_method_106_code
def yX8_uneven : MethodName := ⟨RX8, "uneven", "()I"⟩
abbrev cX8_even : ByteArray := prog_10_method_107_code
def yX8_even : MethodName := ⟨RX8, "even", "(I)I"⟩
abbrev cX8_centre : ByteArray := prog_10_method_108_code
def yX8_centre : MethodName := ⟨RX8, "centre", "(I)I"⟩
abbrev cX8_otherEnd : ByteArray := prog_10_method_109_code
def yX8_otherEnd : MethodName := ⟨RX8, "otherEnd", "(II)I"⟩
abbrev cX8_leftBy : ByteArray := prog_10_method_110_code
def yX8_leftBy : MethodName := ⟨RX8, "leftBy", "(II)I"⟩
abbrev cX8_laysLeft : ByteArray := prog_10_method_111_code
def yX8_laysLeft : MethodName := ⟨RX8, "laysLeft", "(I)V"⟩
abbrev cX8_way : ByteArray := prog_10_method_112_code
def yX8_way : MethodName := ⟨RX8, "way", "(III)I"⟩
abbrev cX8_cut : ByteArray := prog_10_method_113_code
def yX8_cut : MethodName := ⟨RX8, "cut", "(III)I"⟩
abbrev cX8_lastFrom : ByteArray := prog_10_method_114_code
def yX8_lastFrom : MethodName := ⟨RX8, "lastFrom", "(I)I"⟩
abbrev cX8_exchanged : ByteArray := prog_10_method_115_code
def yX8_exchanged : MethodName := ⟨RX8, "exchanged", "(II)I"⟩
abbrev cX8_compare : ByteArray := prog_10_method_116_code
def yX8_compare : MethodName := ⟨RX8, "compare", "(II)I"⟩
abbrev cX8_twosApart : ByteArray := prog_10_method_117_code
def yX8_twosApart : MethodName := ⟨RX8, "twosApart", "(I)I"⟩
abbrev cX8_measured : ByteArray := prog_10_method_118_code
def yX8_measured : MethodName := ⟨RX8, "measured", "(II)I"⟩
abbrev cX8_seen : ByteArray := prog_10_method_119_code
def yX8_seen : MethodName := ⟨RX8, "seen", "(II)I"⟩
abbrev cX8_forget : ByteArray := prog_10_method_120_code
def yX8_forget : MethodName := ⟨RX8, "forget", "()I"⟩
abbrev cX8_itWas : ByteArray := prog_10_method_121_code
def yX8_itWas : MethodName := ⟨RX8, "itWas", "(I)Z"⟩
abbrev cX8_was : ByteArray := prog_10_method_122_code
def yX8_was : MethodName := ⟨RX8, "was", "()I"⟩
abbrev cX8_mostAlike : ByteArray := prog_10_method_123_code
def yX8_mostAlike : MethodName := ⟨RX8, "mostAlike", "(II)I"⟩
abbrev cX8_look : ByteArray := prog_10_method_124_code
def yX8_look : MethodName := ⟨RX8, "look", "(I)I"⟩
abbrev cX8_wet : ByteArray := prog_10_method_125_code
def yX8_wet : MethodName := ⟨RX8, "wet", "(III)I"⟩
abbrev cX8_few : ByteArray := prog_10_method_126_code
def yX8_few : MethodName := ⟨RX8, "few", "(II)J"⟩
abbrev cX8_stopped : ByteArray := prog_10_method_127_code
def yX8_stopped : MethodName := ⟨RX8, "stopped", "()I"⟩
abbrev cX8_orders : ByteArray := prog_10_method_128_code
def yX8_orders : MethodName := ⟨RX8, "orders", "()I"⟩
abbrev cX8_goesAlong : ByteArray := prog_10_method_129_code
def yX8_goesAlong : MethodName := ⟨RX8, "goesAlong", "(IZ)V"⟩
abbrev cX8_small : ByteArray := prog_10_method_130_code
def yX8_small : MethodName := ⟨RX8, "small", "(J)I"⟩
abbrev cX8_obeys : ByteArray := prog_10_method_131_code
def yX8_obeys : MethodName := ⟨RX8, "obeys", "()I"⟩
abbrev cX8_runs : ByteArray := prog_10_method_132_code
def yX8_runs : MethodName := ⟨RX8, "runs", "(I)Z"⟩
abbrev cX8_draws : ByteArray := prog_10_method_133_code
def yX8_draws : MethodName := ⟨RX8, "draws", "(I)I"⟩
abbrev cX8_evenings : ByteArray := prog_10_method_134_code
def yX8_evenings : MethodName := ⟨RX8, "evenings", "(II)I"⟩
abbrev cX8_drawn : ByteArray := prog_10_method_135_code
def yX8_drawn : MethodName := ⟨RX8, "drawn", "(II)I"⟩
abbrev cX8_matchMany : ByteArray := prog_10_method_136_code
def yX8_matchMany : MethodName := ⟨RX8, "matchMany", "()I"⟩
abbrev cX8_count : ByteArray := prog_10_method_137_code
def yX8_count : MethodName := ⟨RX8, "count", "(I)I"⟩
abbrev cX8_status : ByteArray := prog_10_method_138_code
def yX8_status : MethodName := ⟨RX8, "status", "()I"⟩
def RJx145de : String := "java/io/Serializable"
def TJx145de : u_T := fun k => match k with
  | _ => ("", "", "", false)
def tyJx145de : Nat → FieldType := fun k => match k with
  | _ => .int
abbrev wsJx145de0 : List Cond := u_ws RJx145de TJx145de 0
theorem nmJx145de : ∀ a, a < 0 → ∀ b, b < 0 → a ≠ b → (TJx145de a).2.1 ≠ (TJx145de b).2.1 := by decide +kernel
theorem tyJx145de_ok : ∀ k, k < 0 → parseFieldDescriptor (TJx145de k).2.2.1 = some (tyJx145de k) := by decide +kernel
def RJx9f9b0 : String := "java/lang/CharSequence"
def TJx9f9b0 : u_T := fun k => match k with
  | _ => ("", "", "", false)
def tyJx9f9b0 : Nat → FieldType := fun k => match k with
  | _ => .int
abbrev wsJx9f9b00 : List Cond := u_ws RJx9f9b0 TJx9f9b0 0
theorem nmJx9f9b0 : ∀ a, a < 0 → ∀ b, b < 0 → a ≠ b → (TJx9f9b0 a).2.1 ≠ (TJx9f9b0 b).2.1 := by decide +kernel
theorem tyJx9f9b0_ok : ∀ k, k < 0 → parseFieldDescriptor (TJx9f9b0 k).2.2.1 = some (tyJx9f9b0 k) := by decide +kernel
def RJxb160c : String := "java/lang/Comparable"
def TJxb160c : u_T := fun k => match k with
  | _ => ("", "", "", false)
def tyJxb160c : Nat → FieldType := fun k => match k with
  | _ => .int
abbrev wsJxb160c0 : List Cond := u_ws RJxb160c TJxb160c 0
theorem nmJxb160c : ∀ a, a < 0 → ∀ b, b < 0 → a ≠ b → (TJxb160c a).2.1 ≠ (TJxb160c b).2.1 := by decide +kernel
theorem tyJxb160c_ok : ∀ k, k < 0 → parseFieldDescriptor (TJxb160c k).2.2.1 = some (tyJxb160c k) := by decide +kernel
def RJ6 : String := "java/lang/Integer"
def TJ6 : u_T := fun k => match k with
  | _ => ("", "", "", false)
def tyJ6 : Nat → FieldType := fun k => match k with
  | _ => .int
abbrev wsJ60 : List Cond := u_ws RJ6 TJ6 0
theorem nmJ6 : ∀ a, a < 0 → ∀ b, b < 0 → a ≠ b → (TJ6 a).2.1 ≠ (TJ6 b).2.1 := by decide +kernel
theorem tyJ6_ok : ∀ k, k < 0 → parseFieldDescriptor (TJ6 k).2.2.1 = some (tyJ6 k) := by decide +kernel
abbrev cJ6_bitCount_0f7a4 : ByteArray := prog_11_method_49_code
def yJ6_bitCount_0f7a4 : MethodName := ⟨RJ6, "bitCount", "(I)I"⟩
def RJ9 : String := "java/lang/Math"
def TJ9 : u_T := fun k => match k with
  | _ => ("", "", "", false)
def tyJ9 : Nat → FieldType := fun k => match k with
  | _ => .int
abbrev wsJ90 : List Cond := u_ws RJ9 TJ9 0
theorem nmJ9 : ∀ a, a < 0 → ∀ b, b < 0 → a ≠ b → (TJ9 a).2.1 ≠ (TJ9 b).2.1 := by decide +kernel
theorem tyJ9_ok : ∀ k, k < 0 → parseFieldDescriptor (TJ9 k).2.2.1 = some (tyJ9 k) := by decide +kernel
abbrev cJ9_abs_0f7a4 : ByteArray := prog_12_method_59_code
def yJ9_abs_0f7a4 : MethodName := ⟨RJ9, "abs", "(I)I"⟩
abbrev cJ9_max_7cf53 : ByteArray := prog_12_method_65_code
def yJ9_max_7cf53 : MethodName := ⟨RJ9, "max", "(II)I"⟩
abbrev cJ9_min_7cf53 : ByteArray := prog_12_method_69_code
def yJ9_min_7cf53 : MethodName := ⟨RJ9, "min", "(II)I"⟩
def RJ0 : String := "java/lang/String"
def TJ0 : u_T := fun k => match k with
  | _ => ("", "", "", false)
def tyJ0 : Nat → FieldType := fun k => match k with
  | _ => .int
abbrev wsJ00 : List Cond := u_ws RJ0 TJ0 0
theorem nmJ0 : ∀ a, a < 0 → ∀ b, b < 0 → a ≠ b → (TJ0 a).2.1 ≠ (TJ0 b).2.1 := by decide +kernel
theorem tyJ0_ok : ∀ k, k < 0 → parseFieldDescriptor (TJ0 k).2.2.1 = some (tyJ0 k) := by decide +kernel
abbrev cJ0_length_8abf5 : ByteArray := prog_13_method_54_code
def yJ0_length_8abf5 : MethodName := ⟨RJ0, "length", "()I"⟩
abbrev cJ0_charAt_5068e : ByteArray := prog_13_method_56_code
def yJ0_charAt_5068e : MethodName := ⟨RJ0, "charAt", "(I)C"⟩
abbrev cJ0_coder_7d493 : ByteArray := prog_13_method_152_code
def yJ0_coder_7d493 : MethodName := ⟨RJ0, "coder", "()B"⟩
abbrev cJ0_isLatin1_aae02 : ByteArray := prog_13_method_154_code
def yJ0_isLatin1_aae02 : MethodName := ⟨RJ0, "isLatin1", "()Z"⟩
abbrev cJ0_checkIndex_df160 : ByteArray := prog_13_method_155_code
def yJ0_checkIndex_df160 : MethodName := ⟨RJ0, "checkIndex", "(II)V"⟩
def RJ1 : String := "java/lang/StringLatin1"
def TJ1 : u_T := fun k => match k with
  | _ => ("", "", "", false)
def tyJ1 : Nat → FieldType := fun k => match k with
  | _ => .int
abbrev wsJ10 : List Cond := u_ws RJ1 TJ1 0
theorem nmJ1 : ∀ a, a < 0 → ∀ b, b < 0 → a ≠ b → (TJ1 a).2.1 ≠ (TJ1 b).2.1 := by decide +kernel
theorem tyJ1_ok : ∀ k, k < 0 → parseFieldDescriptor (TJ1 k).2.2.1 = some (tyJ1 k) := by decide +kernel
abbrev cJ1_charAt_3b067 : ByteArray := prog_14_method_2_code
def yJ1_charAt_3b067 : MethodName := ⟨RJ1, "charAt", "([BI)C"⟩
def RJ2 : String := "java/lang/StringUTF16"
def TJ2 : u_T := fun k => match k with
  | _ => ("", "", "", false)
def tyJ2 : Nat → FieldType := fun k => match k with
  | _ => .int
abbrev wsJ20 : List Cond := u_ws RJ2 TJ2 0
theorem nmJ2 : ∀ a, a < 0 → ∀ b, b < 0 → a ≠ b → (TJ2 a).2.1 ≠ (TJ2 b).2.1 := by decide +kernel
theorem tyJ2_ok : ∀ k, k < 0 → parseFieldDescriptor (TJ2 k).2.2.1 = some (tyJ2 k) := by decide +kernel
abbrev cJ2_getChar_3b067 : ByteArray := prog_15_method_5_code
def yJ2_getChar_3b067 : MethodName := ⟨RJ2, "getChar", "([BI)C"⟩
abbrev cJ2_length_9d52b : ByteArray := prog_15_method_6_code
def yJ2_length_9d52b : MethodName := ⟨RJ2, "length", "([B)I"⟩
abbrev cJ2_charAt_3b067 : ByteArray := prog_15_method_83_code
def yJ2_charAt_3b067 : MethodName := ⟨RJ2, "charAt", "([BI)C"⟩
abbrev cJ2_checkIndex_2214a : ByteArray := prog_15_method_91_code
def yJ2_checkIndex_2214a : MethodName := ⟨RJ2, "checkIndex", "(I[B)V"⟩
def RJ10 : String := "java/lang/System"
def TJ10 : u_T := fun k => match k with
  | _ => ("", "", "", false)
def tyJ10 : Nat → FieldType := fun k => match k with
  | _ => .int
abbrev wsJ100 : List Cond := u_ws RJ10 TJ10 0
theorem nmJ10 : ∀ a, a < 0 → ∀ b, b < 0 → a ≠ b → (TJ10 a).2.1 ≠ (TJ10 b).2.1 := by decide +kernel
theorem tyJ10_ok : ∀ k, k < 0 → parseFieldDescriptor (TJ10 k).2.2.1 = some (tyJ10 k) := by decide +kernel
def RJxfd54e : String := "java/lang/constant/Constable"
def TJxfd54e : u_T := fun k => match k with
  | _ => ("", "", "", false)
def tyJxfd54e : Nat → FieldType := fun k => match k with
  | _ => .int
abbrev wsJxfd54e0 : List Cond := u_ws RJxfd54e TJxfd54e 0
theorem nmJxfd54e : ∀ a, a < 0 → ∀ b, b < 0 → a ≠ b → (TJxfd54e a).2.1 ≠ (TJxfd54e b).2.1 := by decide +kernel
theorem tyJxfd54e_ok : ∀ k, k < 0 → parseFieldDescriptor (TJxfd54e k).2.2.1 = some (tyJxfd54e k) := by decide +kernel
def RJx3cf43 : String := "java/lang/constant/ConstantDesc"
def TJx3cf43 : u_T := fun k => match k with
  | _ => ("", "", "", false)
def tyJx3cf43 : Nat → FieldType := fun k => match k with
  | _ => .int
abbrev wsJx3cf430 : List Cond := u_ws RJx3cf43 TJx3cf43 0
theorem nmJx3cf43 : ∀ a, a < 0 → ∀ b, b < 0 → a ≠ b → (TJx3cf43 a).2.1 ≠ (TJx3cf43 b).2.1 := by decide +kernel
theorem tyJx3cf43_ok : ∀ k, k < 0 → parseFieldDescriptor (TJx3cf43 k).2.2.1 = some (tyJx3cf43 k) := by decide +kernel
def RJ7 : String := "java/util/Arrays"
def TJ7 : u_T := fun k => match k with
  | _ => ("", "", "", false)
def tyJ7 : Nat → FieldType := fun k => match k with
  | _ => .int
abbrev wsJ70 : List Cond := u_ws RJ7 TJ7 0
theorem nmJ7 : ∀ a, a < 0 → ∀ b, b < 0 → a ≠ b → (TJ7 a).2.1 ≠ (TJ7 b).2.1 := by decide +kernel
theorem tyJ7_ok : ∀ k, k < 0 → parseFieldDescriptor (TJ7 k).2.2.1 = some (tyJ7 k) := by decide +kernel
abbrev cJ7_fill_d0a16 : ByteArray := prog_17_method_101_code
def yJ7_fill_d0a16 : MethodName := ⟨RJ7, "fill", "([JJ)V"⟩
abbrev cJ7_fill_53178 : ByteArray := prog_17_method_103_code
def yJ7_fill_53178 : MethodName := ⟨RJ7, "fill", "([II)V"⟩
def RJ3 : String := "jdk/internal/util/Preconditions"
def TJ3 : u_T := fun k => match k with
  | _ => ("", "", "", false)
def tyJ3 : Nat → FieldType := fun k => match k with
  | _ => .int
abbrev wsJ30 : List Cond := u_ws RJ3 TJ3 0
theorem nmJ3 : ∀ a, a < 0 → ∀ b, b < 0 → a ≠ b → (TJ3 a).2.1 ≠ (TJ3 b).2.1 := by decide +kernel
theorem tyJ3_ok : ∀ k, k < 0 → parseFieldDescriptor (TJ3 k).2.2.1 = some (tyJ3 k) := by decide +kernel
abbrev cJ3_checkIndex_8e157 : ByteArray := prog_18_method_11_code
def yJ3_checkIndex_8e157 : MethodName := ⟨RJ3, "checkIndex", "(IILjava/util/function/BiFunction;)I"⟩
def RL : String := "FuseFramesLaw"
abbrev cL_law : ByteArray := code
def yL_law : MethodName := ⟨RL, "law", "([I)Z"⟩
abbrev vwCl : List vw_C := [(RX0, TX0, 7), (RX1, TX1, 16), (RX2, TX2, 4), (RX3, TX3, 9), (RX4, TX4, 9), (RX5, TX5, 1), (RX6, TX6, 2), (RX7, TX7, 17), (RX8, TX8, 50)]
theorem z_app {w : Cond} (i : Nat) (h : tables_1[i]? = some w) : w ∈ lw_tbl := List.mem_append_right _ (List.mem_of_getElem? h)
theorem z_all {ws : List Cond} (ps : List Nat) (h : ws.map some = ps.map (fun i => tables_1[i]?)) : ∀ w ∈ ws, w ∈ lw_tbl := by
  intro w hw
  have h1 : some w ∈ ps.map (fun i => tables_1[i]?) := h ▸ List.mem_map_of_mem hw
  obtain ⟨i, -, hi⟩ := List.mem_map.mp h1
  exact z_app i hi
set_option maxRecDepth 100000 in
theorem iX0 : ∀ w ∈ u_ws RX0 TX0 7, w ∈ lw_tbl := z_all [277, 279, 281, 283, 285, 287, 289] (by decide +kernel)
set_option maxRecDepth 100000 in
theorem iX1 : ∀ w ∈ u_ws RX1 TX1 16, w ∈ lw_tbl := z_all [80, 82, 84, 86, 88, 90, 92, 94, 96, 98, 100, 102, 104, 106, 108, 110] (by decide +kernel)
set_option maxRecDepth 100000 in
theorem iX2 : ∀ w ∈ u_ws RX2 TX2 4, w ∈ lw_tbl := z_all [129, 131, 133, 135] (by decide +kernel)
set_option maxRecDepth 100000 in
theorem iX3 : ∀ w ∈ u_ws RX3 TX3 9, w ∈ lw_tbl := z_all [229, 231, 233, 235, 237, 239, 241, 243, 245] (by decide +kernel)
set_option maxRecDepth 100000 in
theorem iX4 : ∀ w ∈ u_ws RX4 TX4 9, w ∈ lw_tbl := z_all [199, 201, 203, 205, 207, 209, 211, 213, 215] (by decide +kernel)
set_option maxRecDepth 100000 in
theorem iX5 : ∀ w ∈ u_ws RX5 TX5 1, w ∈ lw_tbl := z_all [255] (by decide +kernel)
set_option maxRecDepth 100000 in
theorem iX6 : ∀ w ∈ u_ws RX6 TX6 2, w ∈ lw_tbl := z_all [150, 152] (by decide +kernel)
set_option maxRecDepth 100000 in
theorem iX7 : ∀ w ∈ u_ws RX7 TX7 17, w ∈ lw_tbl := z_all [309, 311, 313, 315, 317, 319, 321, 323, 325, 327, 329, 331, 333, 335, 337, 339, 341] (by decide +kernel)
set_option maxRecDepth 100000 in
theorem iX8 : ∀ w ∈ u_ws RX8 TX8 50, w ∈ lw_tbl := z_all [1051, 1053, 1055, 1057, 1059, 1061, 1063, 1065, 1067, 1069, 1071, 1073, 1075, 1077, 1079, 1081, 1083, 1085, 1087, 1089, 1091, 1093, 1095, 1097, 1099, 1101, 1103, 1105, 1107, 1109, 1111, 1113, 1115, 1117, 1119, 1121, 1123, 1125, 1127, 1129, 1131, 1133, 1135, 1137, 1139, 1141, 1143, 1145, 1147, 1149] (by decide +kernel)
