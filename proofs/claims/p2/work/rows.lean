section
-- ===== PART A: goes FIRST, ahead of the names: the tables' words, and 'selects' of the private methods out of them =====
/-- a private method of a class that the tables say can be made, by its rows of tables_1 -/
def lw_okq (q : MethodName × Nat) : Prop := (q.1.cls ≠ "java/lang/invoke/MethodHandle" ∧ q.1.cls ≠ "java/lang/invoke/VarHandle") ∧ Cond.instantiable q.1.cls q.2 ∈ tables_1 ∧ Cond.privateMethod q.1 ∈ tables_1 ∧ Cond.instanceMethod q.1 ∈ tables_1
theorem lw_p0 : lw_okq (⟨"java/lang/Throwable", "fillInStackTrace", "(I)Ljava/lang/Throwable;"⟩, 6) := ⟨⟨by decide +kernel, by decide +kernel⟩, List.mem_of_getElem? (i := 520) (by decide +kernel), List.mem_of_getElem? (i := 518) (by decide +kernel), List.mem_of_getElem? (i := 519) (by decide +kernel)⟩
theorem lw_p1 : lw_okq (⟨"StreamForge$Parser", "begin", "(LStreamForge$Row;LStreamForge$Program;)V"⟩, 7) := ⟨⟨by decide +kernel, by decide +kernel⟩, List.mem_of_getElem? (i := 54) (by decide +kernel), List.mem_of_getElem? (i := 596) (by decide +kernel), List.mem_of_getElem? (i := 597) (by decide +kernel)⟩
theorem lw_p2 : lw_okq (⟨"StreamForge$Parser", "closeBlock", "()Z"⟩, 7) := ⟨⟨by decide +kernel, by decide +kernel⟩, List.mem_of_getElem? (i := 54) (by decide +kernel), List.mem_of_getElem? (i := 609) (by decide +kernel), List.mem_of_getElem? (i := 610) (by decide +kernel)⟩
theorem lw_p3 : lw_okq (⟨"StreamForge$Parser", "beginCommand", "()Z"⟩, 7) := ⟨⟨by decide +kernel, by decide +kernel⟩, List.mem_of_getElem? (i := 54) (by decide +kernel), List.mem_of_getElem? (i := 617) (by decide +kernel), List.mem_of_getElem? (i := 618) (by decide +kernel)⟩
theorem lw_p4 : lw_okq (⟨"StreamForge$Parser", "readAddresses", "()Z"⟩, 7) := ⟨⟨by decide +kernel, by decide +kernel⟩, List.mem_of_getElem? (i := 54) (by decide +kernel), List.mem_of_getElem? (i := 625) (by decide +kernel), List.mem_of_getElem? (i := 626) (by decide +kernel)⟩
theorem lw_p5 : lw_okq (⟨"StreamForge$Parser", "readAddress", "(LStreamForge$Address;)Z"⟩, 7) := ⟨⟨by decide +kernel, by decide +kernel⟩, List.mem_of_getElem? (i := 54) (by decide +kernel), List.mem_of_getElem? (i := 632) (by decide +kernel), List.mem_of_getElem? (i := 633) (by decide +kernel)⟩
theorem lw_p6 : lw_okq (⟨"StreamForge$PatternReader", "begin", "(LStreamForge$Pattern;LStreamForge$Items;)V"⟩, 7) := ⟨⟨by decide +kernel, by decide +kernel⟩, List.mem_of_getElem? (i := 80) (by decide +kernel), List.mem_of_getElem? (i := 640) (by decide +kernel), List.mem_of_getElem? (i := 641) (by decide +kernel)⟩
theorem lw_p7 : lw_okq (⟨"StreamForge$PatternReader", "readStar", "()Z"⟩, 7) := ⟨⟨by decide +kernel, by decide +kernel⟩, List.mem_of_getElem? (i := 80) (by decide +kernel), List.mem_of_getElem? (i := 645) (by decide +kernel), List.mem_of_getElem? (i := 646) (by decide +kernel)⟩
theorem lw_p8 : lw_okq (⟨"StreamForge$PatternReader", "readEscape", "()Z"⟩, 7) := ⟨⟨by decide +kernel, by decide +kernel⟩, List.mem_of_getElem? (i := 80) (by decide +kernel), List.mem_of_getElem? (i := 650) (by decide +kernel), List.mem_of_getElem? (i := 651) (by decide +kernel)⟩
theorem lw_p9 : lw_okq (⟨"StreamForge$PatternReader", "mayEscape", "()Z"⟩, 7) := ⟨⟨by decide +kernel, by decide +kernel⟩, List.mem_of_getElem? (i := 80) (by decide +kernel), List.mem_of_getElem? (i := 654) (by decide +kernel), List.mem_of_getElem? (i := 655) (by decide +kernel)⟩
theorem lw_p10 : lw_okq (⟨"StreamForge$PatternReader", "openGroup", "()Z"⟩, 7) := ⟨⟨by decide +kernel, by decide +kernel⟩, List.mem_of_getElem? (i := 80) (by decide +kernel), List.mem_of_getElem? (i := 658) (by decide +kernel), List.mem_of_getElem? (i := 659) (by decide +kernel)⟩
theorem lw_p11 : lw_okq (⟨"StreamForge$PatternReader", "closeGroup", "()Z"⟩, 7) := ⟨⟨by decide +kernel, by decide +kernel⟩, List.mem_of_getElem? (i := 80) (by decide +kernel), List.mem_of_getElem? (i := 666) (by decide +kernel), List.mem_of_getElem? (i := 667) (by decide +kernel)⟩
theorem lw_p12 : lw_okq (⟨"StreamForge$PatternReader", "readSame", "(I)Z"⟩, 7) := ⟨⟨by decide +kernel, by decide +kernel⟩, List.mem_of_getElem? (i := 80) (by decide +kernel), List.mem_of_getElem? (i := 670) (by decide +kernel), List.mem_of_getElem? (i := 671) (by decide +kernel)⟩
theorem lw_p13 : lw_okq (⟨"StreamForge$PatternReader", "addOne", "()Z"⟩, 7) := ⟨⟨by decide +kernel, by decide +kernel⟩, List.mem_of_getElem? (i := 80) (by decide +kernel), List.mem_of_getElem? (i := 674) (by decide +kernel), List.mem_of_getElem? (i := 675) (by decide +kernel)⟩
theorem lw_p14 : lw_okq (⟨"StreamForge$PatternReader", "readSet", "()Z"⟩, 7) := ⟨⟨by decide +kernel, by decide +kernel⟩, List.mem_of_getElem? (i := 80) (by decide +kernel), List.mem_of_getElem? (i := 682) (by decide +kernel), List.mem_of_getElem? (i := 683) (by decide +kernel)⟩
theorem lw_p15 : lw_okq (⟨"StreamForge$PatternReader", "readRange", "()Z"⟩, 7) := ⟨⟨by decide +kernel, by decide +kernel⟩, List.mem_of_getElem? (i := 80) (by decide +kernel), List.mem_of_getElem? (i := 686) (by decide +kernel), List.mem_of_getElem? (i := 687) (by decide +kernel)⟩
def lw_privs_1 : List (MethodName × Nat) := [(⟨"java/lang/Throwable", "fillInStackTrace", "(I)Ljava/lang/Throwable;"⟩, 6), (⟨"StreamForge$Parser", "begin", "(LStreamForge$Row;LStreamForge$Program;)V"⟩, 7), (⟨"StreamForge$Parser", "closeBlock", "()Z"⟩, 7), (⟨"StreamForge$Parser", "beginCommand", "()Z"⟩, 7), (⟨"StreamForge$Parser", "readAddresses", "()Z"⟩, 7), (⟨"StreamForge$Parser", "readAddress", "(LStreamForge$Address;)Z"⟩, 7), (⟨"StreamForge$PatternReader", "begin", "(LStreamForge$Pattern;LStreamForge$Items;)V"⟩, 7), (⟨"StreamForge$PatternReader", "readStar", "()Z"⟩, 7), (⟨"StreamForge$PatternReader", "readEscape", "()Z"⟩, 7), (⟨"StreamForge$PatternReader", "mayEscape", "()Z"⟩, 7), (⟨"StreamForge$PatternReader", "openGroup", "()Z"⟩, 7), (⟨"StreamForge$PatternReader", "closeGroup", "()Z"⟩, 7), (⟨"StreamForge$PatternReader", "readSame", "(I)Z"⟩, 7), (⟨"StreamForge$PatternReader", "addOne", "()Z"⟩, 7), (⟨"StreamForge$PatternReader", "readSet", "()Z"⟩, 7), (⟨"StreamForge$PatternReader", "readRange", "()Z"⟩, 7)]
theorem lw_r1 : ∀ q ∈ lw_privs_1, lw_okq q := List.forall_mem_cons.mpr ⟨lw_p0, List.forall_mem_cons.mpr ⟨lw_p1, List.forall_mem_cons.mpr ⟨lw_p2, List.forall_mem_cons.mpr ⟨lw_p3, List.forall_mem_cons.mpr ⟨lw_p4, List.forall_mem_cons.mpr ⟨lw_p5, List.forall_mem_cons.mpr ⟨lw_p6, List.forall_mem_cons.mpr ⟨lw_p7, List.forall_mem_cons.mpr ⟨lw_p8, List.forall_mem_cons.mpr ⟨lw_p9, List.forall_mem_cons.mpr ⟨lw_p10, List.forall_mem_cons.mpr ⟨lw_p11, List.forall_mem_cons.mpr ⟨lw_p12, List.forall_mem_cons.mpr ⟨lw_p13, List.forall_mem_cons.mpr ⟨lw_p14, List.forall_mem_cons.mpr ⟨lw_p15, fun _ h => absurd h List.not_mem_nil⟩⟩⟩⟩⟩⟩⟩⟩⟩⟩⟩⟩⟩⟩⟩⟩
theorem lw_p16 : lw_okq (⟨"StreamForge$PatternReader", "mayEnd", "()Z"⟩, 7) := ⟨⟨by decide +kernel, by decide +kernel⟩, List.mem_of_getElem? (i := 80) (by decide +kernel), List.mem_of_getElem? (i := 704) (by decide +kernel), List.mem_of_getElem? (i := 705) (by decide +kernel)⟩
theorem lw_p17 : lw_okq (⟨"StreamForge$PatternReader", "readEnd", "()Z"⟩, 7) := ⟨⟨by decide +kernel, by decide +kernel⟩, List.mem_of_getElem? (i := 80) (by decide +kernel), List.mem_of_getElem? (i := 708) (by decide +kernel), List.mem_of_getElem? (i := 709) (by decide +kernel)⟩
theorem lw_p18 : lw_okq (⟨"StreamForge$PatternReader", "readPlain", "()Z"⟩, 7) := ⟨⟨by decide +kernel, by decide +kernel⟩, List.mem_of_getElem? (i := 80) (by decide +kernel), List.mem_of_getElem? (i := 712) (by decide +kernel), List.mem_of_getElem? (i := 713) (by decide +kernel)⟩
theorem lw_p19 : lw_okq (⟨"StreamForge$PatternReader", "finish", "()V"⟩, 7) := ⟨⟨by decide +kernel, by decide +kernel⟩, List.mem_of_getElem? (i := 80) (by decide +kernel), List.mem_of_getElem? (i := 716) (by decide +kernel), List.mem_of_getElem? (i := 717) (by decide +kernel)⟩
theorem lw_p20 : lw_okq (⟨"StreamForge$Parser", "passBlanks", "()V"⟩, 7) := ⟨⟨by decide +kernel, by decide +kernel⟩, List.mem_of_getElem? (i := 54) (by decide +kernel), List.mem_of_getElem? (i := 720) (by decide +kernel), List.mem_of_getElem? (i := 721) (by decide +kernel)⟩
theorem lw_p21 : lw_okq (⟨"StreamForge$Parser", "readAction", "()Z"⟩, 7) := ⟨⟨by decide +kernel, by decide +kernel⟩, List.mem_of_getElem? (i := 54) (by decide +kernel), List.mem_of_getElem? (i := 724) (by decide +kernel), List.mem_of_getElem? (i := 725) (by decide +kernel)⟩
theorem lw_p22 : lw_okq (⟨"StreamForge$Parser", "openBlock", "()Z"⟩, 7) := ⟨⟨by decide +kernel, by decide +kernel⟩, List.mem_of_getElem? (i := 54) (by decide +kernel), List.mem_of_getElem? (i := 728) (by decide +kernel), List.mem_of_getElem? (i := 729) (by decide +kernel)⟩
theorem lw_p23 : lw_okq (⟨"StreamForge$Parser", "placeLabel", "()Z"⟩, 7) := ⟨⟨by decide +kernel, by decide +kernel⟩, List.mem_of_getElem? (i := 54) (by decide +kernel), List.mem_of_getElem? (i := 732) (by decide +kernel), List.mem_of_getElem? (i := 733) (by decide +kernel)⟩
theorem lw_p24 : lw_okq (⟨"StreamForge$Parser", "endCommand", "()Z"⟩, 7) := ⟨⟨by decide +kernel, by decide +kernel⟩, List.mem_of_getElem? (i := 54) (by decide +kernel), List.mem_of_getElem? (i := 739) (by decide +kernel), List.mem_of_getElem? (i := 740) (by decide +kernel)⟩
theorem lw_p25 : lw_okq (⟨"StreamForge$Parser", "readBranch", "()Z"⟩, 7) := ⟨⟨by decide +kernel, by decide +kernel⟩, List.mem_of_getElem? (i := 54) (by decide +kernel), List.mem_of_getElem? (i := 743) (by decide +kernel), List.mem_of_getElem? (i := 744) (by decide +kernel)⟩
theorem lw_p26 : lw_okq (⟨"StreamForge$Parser", "readSubstitution", "()Z"⟩, 7) := ⟨⟨by decide +kernel, by decide +kernel⟩, List.mem_of_getElem? (i := 54) (by decide +kernel), List.mem_of_getElem? (i := 747) (by decide +kernel), List.mem_of_getElem? (i := 748) (by decide +kernel)⟩
theorem lw_p27 : lw_okq (⟨"StreamForge$Parser", "readReplacement", "()Z"⟩, 7) := ⟨⟨by decide +kernel, by decide +kernel⟩, List.mem_of_getElem? (i := 54) (by decide +kernel), List.mem_of_getElem? (i := 752) (by decide +kernel), List.mem_of_getElem? (i := 753) (by decide +kernel)⟩
theorem lw_p28 : lw_okq (⟨"StreamForge$Parser", "mayFollowBackslash", "(I)Z"⟩, 7) := ⟨⟨by decide +kernel, by decide +kernel⟩, List.mem_of_getElem? (i := 54) (by decide +kernel), List.mem_of_getElem? (i := 756) (by decide +kernel), List.mem_of_getElem? (i := 757) (by decide +kernel)⟩
theorem lw_p29 : lw_okq (⟨"StreamForge$Parser", "readFlags", "()Z"⟩, 7) := ⟨⟨by decide +kernel, by decide +kernel⟩, List.mem_of_getElem? (i := 54) (by decide +kernel), List.mem_of_getElem? (i := 760) (by decide +kernel), List.mem_of_getElem? (i := 761) (by decide +kernel)⟩
theorem lw_p30 : lw_okq (⟨"StreamForge$Parser", "readExchange", "()Z"⟩, 7) := ⟨⟨by decide +kernel, by decide +kernel⟩, List.mem_of_getElem? (i := 54) (by decide +kernel), List.mem_of_getElem? (i := 764) (by decide +kernel), List.mem_of_getElem? (i := 765) (by decide +kernel)⟩
theorem lw_p31 : lw_okq (⟨"StreamForge$Parser", "wasExchanged", "(I)Z"⟩, 7) := ⟨⟨by decide +kernel, by decide +kernel⟩, List.mem_of_getElem? (i := 54) (by decide +kernel), List.mem_of_getElem? (i := 771) (by decide +kernel), List.mem_of_getElem? (i := 772) (by decide +kernel)⟩
def lw_privs_2 : List (MethodName × Nat) := [(⟨"StreamForge$PatternReader", "mayEnd", "()Z"⟩, 7), (⟨"StreamForge$PatternReader", "readEnd", "()Z"⟩, 7), (⟨"StreamForge$PatternReader", "readPlain", "()Z"⟩, 7), (⟨"StreamForge$PatternReader", "finish", "()V"⟩, 7), (⟨"StreamForge$Parser", "passBlanks", "()V"⟩, 7), (⟨"StreamForge$Parser", "readAction", "()Z"⟩, 7), (⟨"StreamForge$Parser", "openBlock", "()Z"⟩, 7), (⟨"StreamForge$Parser", "placeLabel", "()Z"⟩, 7), (⟨"StreamForge$Parser", "endCommand", "()Z"⟩, 7), (⟨"StreamForge$Parser", "readBranch", "()Z"⟩, 7), (⟨"StreamForge$Parser", "readSubstitution", "()Z"⟩, 7), (⟨"StreamForge$Parser", "readReplacement", "()Z"⟩, 7), (⟨"StreamForge$Parser", "mayFollowBackslash", "(I)Z"⟩, 7), (⟨"StreamForge$Parser", "readFlags", "()Z"⟩, 7), (⟨"StreamForge$Parser", "readExchange", "()Z"⟩, 7), (⟨"StreamForge$Parser", "wasExchanged", "(I)Z"⟩, 7)]
theorem lw_r2 : ∀ q ∈ lw_privs_2, lw_okq q := List.forall_mem_cons.mpr ⟨lw_p16, List.forall_mem_cons.mpr ⟨lw_p17, List.forall_mem_cons.mpr ⟨lw_p18, List.forall_mem_cons.mpr ⟨lw_p19, List.forall_mem_cons.mpr ⟨lw_p20, List.forall_mem_cons.mpr ⟨lw_p21, List.forall_mem_cons.mpr ⟨lw_p22, List.forall_mem_cons.mpr ⟨lw_p23, List.forall_mem_cons.mpr ⟨lw_p24, List.forall_mem_cons.mpr ⟨lw_p25, List.forall_mem_cons.mpr ⟨lw_p26, List.forall_mem_cons.mpr ⟨lw_p27, List.forall_mem_cons.mpr ⟨lw_p28, List.forall_mem_cons.mpr ⟨lw_p29, List.forall_mem_cons.mpr ⟨lw_p30, List.forall_mem_cons.mpr ⟨lw_p31, fun _ h => absurd h List.not_mem_nil⟩⟩⟩⟩⟩⟩⟩⟩⟩⟩⟩⟩⟩⟩⟩⟩
theorem lw_p32 : lw_okq (⟨"StreamForge$Parser", "readText", "()Z"⟩, 7) := ⟨⟨by decide +kernel, by decide +kernel⟩, List.mem_of_getElem? (i := 54) (by decide +kernel), List.mem_of_getElem? (i := 779) (by decide +kernel), List.mem_of_getElem? (i := 780) (by decide +kernel)⟩
theorem lw_p33 : lw_okq (⟨"StreamForge$Parser", "joinLabels", "()Z"⟩, 7) := ⟨⟨by decide +kernel, by decide +kernel⟩, List.mem_of_getElem? (i := 54) (by decide +kernel), List.mem_of_getElem? (i := 787) (by decide +kernel), List.mem_of_getElem? (i := 788) (by decide +kernel)⟩
theorem lw_p34 : lw_okq (⟨"StreamForge$Editor", "begin", "()V"⟩, 17) := ⟨⟨by decide +kernel, by decide +kernel⟩, List.mem_of_getElem? (i := 131) (by decide +kernel), List.mem_of_getElem? (i := 822) (by decide +kernel), List.mem_of_getElem? (i := 823) (by decide +kernel)⟩
theorem lw_p35 : lw_okq (⟨"StreamForge$Editor", "beginLine", "()V"⟩, 17) := ⟨⟨by decide +kernel, by decide +kernel⟩, List.mem_of_getElem? (i := 131) (by decide +kernel), List.mem_of_getElem? (i := 827) (by decide +kernel), List.mem_of_getElem? (i := 828) (by decide +kernel)⟩
theorem lw_p36 : lw_okq (⟨"StreamForge$Editor", "readLine", "()V"⟩, 17) := ⟨⟨by decide +kernel, by decide +kernel⟩, List.mem_of_getElem? (i := 131) (by decide +kernel), List.mem_of_getElem? (i := 831) (by decide +kernel), List.mem_of_getElem? (i := 832) (by decide +kernel)⟩
theorem lw_p37 : lw_okq (⟨"StreamForge$Editor", "beginCycle", "()V"⟩, 17) := ⟨⟨by decide +kernel, by decide +kernel⟩, List.mem_of_getElem? (i := 131) (by decide +kernel), List.mem_of_getElem? (i := 836) (by decide +kernel), List.mem_of_getElem? (i := 837) (by decide +kernel)⟩
theorem lw_p38 : lw_okq (⟨"StreamForge$Editor", "endCycle", "(Z)V"⟩, 17) := ⟨⟨by decide +kernel, by decide +kernel⟩, List.mem_of_getElem? (i := 131) (by decide +kernel), List.mem_of_getElem? (i := 840) (by decide +kernel), List.mem_of_getElem? (i := 841) (by decide +kernel)⟩
theorem lw_p39 : lw_okq (⟨"StreamForge$Editor", "tell", "(LStreamForge$Row;II)V"⟩, 17) := ⟨⟨by decide +kernel, by decide +kernel⟩, List.mem_of_getElem? (i := 131) (by decide +kernel), List.mem_of_getElem? (i := 844) (by decide +kernel), List.mem_of_getElem? (i := 845) (by decide +kernel)⟩
theorem lw_p40 : lw_okq (⟨"StreamForge$Editor", "tellAppended", "()V"⟩, 17) := ⟨⟨by decide +kernel, by decide +kernel⟩, List.mem_of_getElem? (i := 131) (by decide +kernel), List.mem_of_getElem? (i := 865) (by decide +kernel), List.mem_of_getElem? (i := 866) (by decide +kernel)⟩
theorem lw_p41 : lw_okq (⟨"StreamForge$Editor", "isDone", "(LStreamForge$Command;)Z"⟩, 17) := ⟨⟨by decide +kernel, by decide +kernel⟩, List.mem_of_getElem? (i := 131) (by decide +kernel), List.mem_of_getElem? (i := 884) (by decide +kernel), List.mem_of_getElem? (i := 885) (by decide +kernel)⟩
theorem lw_p42 : lw_okq (⟨"StreamForge$Editor", "fits", "(LStreamForge$Address;)Z"⟩, 17) := ⟨⟨by decide +kernel, by decide +kernel⟩, List.mem_of_getElem? (i := 131) (by decide +kernel), List.mem_of_getElem? (i := 888) (by decide +kernel), List.mem_of_getElem? (i := 889) (by decide +kernel)⟩
theorem lw_p43 : lw_okq (⟨"StreamForge$Matcher", "findLongest", "(I)Z"⟩, 9) := ⟨⟨by decide +kernel, by decide +kernel⟩, List.mem_of_getElem? (i := 139) (by decide +kernel), List.mem_of_getElem? (i := 896) (by decide +kernel), List.mem_of_getElem? (i := 897) (by decide +kernel)⟩
theorem lw_p44 : lw_okq (⟨"StreamForge$Matcher", "walk", "(III)I"⟩, 9) := ⟨⟨by decide +kernel, by decide +kernel⟩, List.mem_of_getElem? (i := 139) (by decide +kernel), List.mem_of_getElem? (i := 900) (by decide +kernel), List.mem_of_getElem? (i := 901) (by decide +kernel)⟩
theorem lw_p45 : lw_okq (⟨"StreamForge$Matcher", "standsAgain", "(II)Z"⟩, 9) := ⟨⟨by decide +kernel, by decide +kernel⟩, List.mem_of_getElem? (i := 139) (by decide +kernel), List.mem_of_getElem? (i := 904) (by decide +kernel), List.mem_of_getElem? (i := 905) (by decide +kernel)⟩
theorem lw_p46 : lw_okq (⟨"StreamForge$Matcher", "repeats", "(II)Z"⟩, 9) := ⟨⟨by decide +kernel, by decide +kernel⟩, List.mem_of_getElem? (i := 139) (by decide +kernel), List.mem_of_getElem? (i := 912) (by decide +kernel), List.mem_of_getElem? (i := 913) (by decide +kernel)⟩
theorem lw_p47 : lw_okq (⟨"StreamForge$Matcher", "keepIfLongest", "(II)V"⟩, 9) := ⟨⟨by decide +kernel, by decide +kernel⟩, List.mem_of_getElem? (i := 139) (by decide +kernel), List.mem_of_getElem? (i := 916) (by decide +kernel), List.mem_of_getElem? (i := 917) (by decide +kernel)⟩
def lw_privs_3 : List (MethodName × Nat) := [(⟨"StreamForge$Parser", "readText", "()Z"⟩, 7), (⟨"StreamForge$Parser", "joinLabels", "()Z"⟩, 7), (⟨"StreamForge$Editor", "begin", "()V"⟩, 17), (⟨"StreamForge$Editor", "beginLine", "()V"⟩, 17), (⟨"StreamForge$Editor", "readLine", "()V"⟩, 17), (⟨"StreamForge$Editor", "beginCycle", "()V"⟩, 17), (⟨"StreamForge$Editor", "endCycle", "(Z)V"⟩, 17), (⟨"StreamForge$Editor", "tell", "(LStreamForge$Row;II)V"⟩, 17), (⟨"StreamForge$Editor", "tellAppended", "()V"⟩, 17), (⟨"StreamForge$Editor", "isDone", "(LStreamForge$Command;)Z"⟩, 17), (⟨"StreamForge$Editor", "fits", "(LStreamForge$Address;)Z"⟩, 17), (⟨"StreamForge$Matcher", "findLongest", "(I)Z"⟩, 9), (⟨"StreamForge$Matcher", "walk", "(III)I"⟩, 9), (⟨"StreamForge$Matcher", "standsAgain", "(II)Z"⟩, 9), (⟨"StreamForge$Matcher", "repeats", "(II)Z"⟩, 9), (⟨"StreamForge$Matcher", "keepIfLongest", "(II)V"⟩, 9)]
theorem lw_r3 : ∀ q ∈ lw_privs_3, lw_okq q := List.forall_mem_cons.mpr ⟨lw_p32, List.forall_mem_cons.mpr ⟨lw_p33, List.forall_mem_cons.mpr ⟨lw_p34, List.forall_mem_cons.mpr ⟨lw_p35, List.forall_mem_cons.mpr ⟨lw_p36, List.forall_mem_cons.mpr ⟨lw_p37, List.forall_mem_cons.mpr ⟨lw_p38, List.forall_mem_cons.mpr ⟨lw_p39, List.forall_mem_cons.mpr ⟨lw_p40, List.forall_mem_cons.mpr ⟨lw_p41, List.forall_mem_cons.mpr ⟨lw_p42, List.forall_mem_cons.mpr ⟨lw_p43, List.forall_mem_cons.mpr ⟨lw_p44, List.forall_mem_cons.mpr ⟨lw_p45, List.forall_mem_cons.mpr ⟨lw_p46, List.forall_mem_cons.mpr ⟨lw_p47, fun _ h => absurd h List.not_mem_nil⟩⟩⟩⟩⟩⟩⟩⟩⟩⟩⟩⟩⟩⟩⟩⟩
theorem lw_p48 : lw_okq (⟨"StreamForge$Editor", "isReached", "(LStreamForge$Address;)Z"⟩, 17) := ⟨⟨by decide +kernel, by decide +kernel⟩, List.mem_of_getElem? (i := 131) (by decide +kernel), List.mem_of_getElem? (i := 920) (by decide +kernel), List.mem_of_getElem? (i := 921) (by decide +kernel)⟩
theorem lw_p49 : lw_okq (⟨"StreamForge$Editor", "perform", "(LStreamForge$Command;)V"⟩, 17) := ⟨⟨by decide +kernel, by decide +kernel⟩, List.mem_of_getElem? (i := 131) (by decide +kernel), List.mem_of_getElem? (i := 924) (by decide +kernel), List.mem_of_getElem? (i := 925) (by decide +kernel)⟩
theorem lw_p50 : lw_okq (⟨"StreamForge$Editor", "branchIfReplaced", "(LStreamForge$Command;)V"⟩, 17) := ⟨⟨by decide +kernel, by decide +kernel⟩, List.mem_of_getElem? (i := 131) (by decide +kernel), List.mem_of_getElem? (i := 928) (by decide +kernel), List.mem_of_getElem? (i := 929) (by decide +kernel)⟩
theorem lw_p51 : lw_okq (⟨"StreamForge$Editor", "substitute", "(LStreamForge$Command;)V"⟩, 17) := ⟨⟨by decide +kernel, by decide +kernel⟩, List.mem_of_getElem? (i := 131) (by decide +kernel), List.mem_of_getElem? (i := 932) (by decide +kernel), List.mem_of_getElem? (i := 933) (by decide +kernel)⟩
theorem lw_p52 : lw_okq (⟨"StreamForge$Editor", "draftPart", "(II)V"⟩, 17) := ⟨⟨by decide +kernel, by decide +kernel⟩, List.mem_of_getElem? (i := 131) (by decide +kernel), List.mem_of_getElem? (i := 943) (by decide +kernel), List.mem_of_getElem? (i := 944) (by decide +kernel)⟩
theorem lw_p53 : lw_okq (⟨"StreamForge$Editor", "draftReplacement", "(LStreamForge$Command;)V"⟩, 17) := ⟨⟨by decide +kernel, by decide +kernel⟩, List.mem_of_getElem? (i := 131) (by decide +kernel), List.mem_of_getElem? (i := 947) (by decide +kernel), List.mem_of_getElem? (i := 948) (by decide +kernel)⟩
theorem lw_p54 : lw_okq (⟨"StreamForge$Editor", "draftCharacter", "(I)V"⟩, 17) := ⟨⟨by decide +kernel, by decide +kernel⟩, List.mem_of_getElem? (i := 131) (by decide +kernel), List.mem_of_getElem? (i := 960) (by decide +kernel), List.mem_of_getElem? (i := 961) (by decide +kernel)⟩
theorem lw_p55 : lw_okq (⟨"StreamForge$Editor", "takeDraft", "(LStreamForge$Command;I)V"⟩, 17) := ⟨⟨by decide +kernel, by decide +kernel⟩, List.mem_of_getElem? (i := 131) (by decide +kernel), List.mem_of_getElem? (i := 964) (by decide +kernel), List.mem_of_getElem? (i := 965) (by decide +kernel)⟩
theorem lw_p56 : lw_okq (⟨"StreamForge$Editor", "exchange", "(LStreamForge$Command;)V"⟩, 17) := ⟨⟨by decide +kernel, by decide +kernel⟩, List.mem_of_getElem? (i := 131) (by decide +kernel), List.mem_of_getElem? (i := 968) (by decide +kernel), List.mem_of_getElem? (i := 969) (by decide +kernel)⟩
theorem lw_p57 : lw_okq (⟨"StreamForge$Editor", "append", "(LStreamForge$Command;)V"⟩, 17) := ⟨⟨by decide +kernel, by decide +kernel⟩, List.mem_of_getElem? (i := 131) (by decide +kernel), List.mem_of_getElem? (i := 972) (by decide +kernel), List.mem_of_getElem? (i := 973) (by decide +kernel)⟩
theorem lw_p58 : lw_okq (⟨"StreamForge$Editor", "change", "(LStreamForge$Command;)V"⟩, 17) := ⟨⟨by decide +kernel, by decide +kernel⟩, List.mem_of_getElem? (i := 131) (by decide +kernel), List.mem_of_getElem? (i := 976) (by decide +kernel), List.mem_of_getElem? (i := 977) (by decide +kernel)⟩
theorem lw_p59 : lw_okq (⟨"StreamForge$Editor", "deleteFirst", "()V"⟩, 17) := ⟨⟨by decide +kernel, by decide +kernel⟩, List.mem_of_getElem? (i := 131) (by decide +kernel), List.mem_of_getElem? (i := 980) (by decide +kernel), List.mem_of_getElem? (i := 981) (by decide +kernel)⟩
theorem lw_p60 : lw_okq (⟨"StreamForge$Editor", "replaceByNext", "()V"⟩, 17) := ⟨⟨by decide +kernel, by decide +kernel⟩, List.mem_of_getElem? (i := 131) (by decide +kernel), List.mem_of_getElem? (i := 989) (by decide +kernel), List.mem_of_getElem? (i := 990) (by decide +kernel)⟩
theorem lw_p61 : lw_okq (⟨"StreamForge$Editor", "quit", "()V"⟩, 17) := ⟨⟨by decide +kernel, by decide +kernel⟩, List.mem_of_getElem? (i := 131) (by decide +kernel), List.mem_of_getElem? (i := 993) (by decide +kernel), List.mem_of_getElem? (i := 994) (by decide +kernel)⟩
theorem lw_p62 : lw_okq (⟨"StreamForge$Editor", "joinNext", "()V"⟩, 17) := ⟨⟨by decide +kernel, by decide +kernel⟩, List.mem_of_getElem? (i := 131) (by decide +kernel), List.mem_of_getElem? (i := 997) (by decide +kernel), List.mem_of_getElem? (i := 998) (by decide +kernel)⟩
theorem lw_p63 : lw_okq (⟨"StreamForge$Editor", "copy", "(LStreamForge$Row;LStreamForge$Row;)V"⟩, 17) := ⟨⟨by decide +kernel, by decide +kernel⟩, List.mem_of_getElem? (i := 131) (by decide +kernel), List.mem_of_getElem? (i := 1001) (by decide +kernel), List.mem_of_getElem? (i := 1002) (by decide +kernel)⟩
def lw_privs_4 : List (MethodName × Nat) := [(⟨"StreamForge$Editor", "isReached", "(LStreamForge$Address;)Z"⟩, 17), (⟨"StreamForge$Editor", "perform", "(LStreamForge$Command;)V"⟩, 17), (⟨"StreamForge$Editor", "branchIfReplaced", "(LStreamForge$Command;)V"⟩, 17), (⟨"StreamForge$Editor", "substitute", "(LStreamForge$Command;)V"⟩, 17), (⟨"StreamForge$Editor", "draftPart", "(II)V"⟩, 17), (⟨"StreamForge$Editor", "draftReplacement", "(LStreamForge$Command;)V"⟩, 17), (⟨"StreamForge$Editor", "draftCharacter", "(I)V"⟩, 17), (⟨"StreamForge$Editor", "takeDraft", "(LStreamForge$Command;I)V"⟩, 17), (⟨"StreamForge$Editor", "exchange", "(LStreamForge$Command;)V"⟩, 17), (⟨"StreamForge$Editor", "append", "(LStreamForge$Command;)V"⟩, 17), (⟨"StreamForge$Editor", "change", "(LStreamForge$Command;)V"⟩, 17), (⟨"StreamForge$Editor", "deleteFirst", "()V"⟩, 17), (⟨"StreamForge$Editor", "replaceByNext", "()V"⟩, 17), (⟨"StreamForge$Editor", "quit", "()V"⟩, 17), (⟨"StreamForge$Editor", "joinNext", "()V"⟩, 17), (⟨"StreamForge$Editor", "copy", "(LStreamForge$Row;LStreamForge$Row;)V"⟩, 17)]
theorem lw_r4 : ∀ q ∈ lw_privs_4, lw_okq q := List.forall_mem_cons.mpr ⟨lw_p48, List.forall_mem_cons.mpr ⟨lw_p49, List.forall_mem_cons.mpr ⟨lw_p50, List.forall_mem_cons.mpr ⟨lw_p51, List.forall_mem_cons.mpr ⟨lw_p52, List.forall_mem_cons.mpr ⟨lw_p53, List.forall_mem_cons.mpr ⟨lw_p54, List.forall_mem_cons.mpr ⟨lw_p55, List.forall_mem_cons.mpr ⟨lw_p56, List.forall_mem_cons.mpr ⟨lw_p57, List.forall_mem_cons.mpr ⟨lw_p58, List.forall_mem_cons.mpr ⟨lw_p59, List.forall_mem_cons.mpr ⟨lw_p60, List.forall_mem_cons.mpr ⟨lw_p61, List.forall_mem_cons.mpr ⟨lw_p62, List.forall_mem_cons.mpr ⟨lw_p63, fun _ h => absurd h List.not_mem_nil⟩⟩⟩⟩⟩⟩⟩⟩⟩⟩⟩⟩⟩⟩⟩⟩
theorem lw_p64 : lw_okq (⟨"StreamForge$Editor", "join", "(LStreamForge$Row;LStreamForge$Row;)V"⟩, 17) := ⟨⟨by decide +kernel, by decide +kernel⟩, List.mem_of_getElem? (i := 131) (by decide +kernel), List.mem_of_getElem? (i := 1005) (by decide +kernel), List.mem_of_getElem? (i := 1006) (by decide +kernel)⟩
theorem lw_p65 : lw_okq (⟨"StreamForge$Editor", "swap", "()V"⟩, 17) := ⟨⟨by decide +kernel, by decide +kernel⟩, List.mem_of_getElem? (i := 131) (by decide +kernel), List.mem_of_getElem? (i := 1009) (by decide +kernel), List.mem_of_getElem? (i := 1010) (by decide +kernel)⟩
theorem lw_p66 : lw_okq (⟨"StreamForge$Editor", "tellNumber", "()V"⟩, 17) := ⟨⟨by decide +kernel, by decide +kernel⟩, List.mem_of_getElem? (i := 131) (by decide +kernel), List.mem_of_getElem? (i := 1013) (by decide +kernel), List.mem_of_getElem? (i := 1014) (by decide +kernel)⟩
theorem lw_p67 : lw_okq (⟨"StreamForgeModel", "fail", "(I)I"⟩, 77) := ⟨⟨by decide +kernel, by decide +kernel⟩, List.mem_of_getElem? (i := 1053) (by decide +kernel), List.mem_of_getElem? (i := 1306) (by decide +kernel), List.mem_of_getElem? (i := 1307) (by decide +kernel)⟩
theorem lw_p68 : lw_okq (⟨"StreamForgeModel", "addTo", "(IJ)V"⟩, 77) := ⟨⟨by decide +kernel, by decide +kernel⟩, List.mem_of_getElem? (i := 1053) (by decide +kernel), List.mem_of_getElem? (i := 1318) (by decide +kernel), List.mem_of_getElem? (i := 1319) (by decide +kernel)⟩
theorem lw_p69 : lw_okq (⟨"StreamForgeModel", "wrong", "(I)V"⟩, 77) := ⟨⟨by decide +kernel, by decide +kernel⟩, List.mem_of_getElem? (i := 1053) (by decide +kernel), List.mem_of_getElem? (i := 1330) (by decide +kernel), List.mem_of_getElem? (i := 1331) (by decide +kernel)⟩
theorem lw_p70 : lw_okq (⟨"StreamForgeModel", "command", "()V"⟩, 77) := ⟨⟨by decide +kernel, by decide +kernel⟩, List.mem_of_getElem? (i := 1053) (by decide +kernel), List.mem_of_getElem? (i := 1334) (by decide +kernel), List.mem_of_getElem? (i := 1335) (by decide +kernel)⟩
theorem lw_p71 : lw_okq (⟨"StreamForgeModel", "address", "()I"⟩, 77) := ⟨⟨by decide +kernel, by decide +kernel⟩, List.mem_of_getElem? (i := 1053) (by decide +kernel), List.mem_of_getElem? (i := 1338) (by decide +kernel), List.mem_of_getElem? (i := 1339) (by decide +kernel)⟩
theorem lw_p72 : lw_okq (⟨"StreamForgeModel", "here", "()I"⟩, 77) := ⟨⟨by decide +kernel, by decide +kernel⟩, List.mem_of_getElem? (i := 1053) (by decide +kernel), List.mem_of_getElem? (i := 1342) (by decide +kernel), List.mem_of_getElem? (i := 1343) (by decide +kernel)⟩
theorem lw_p73 : lw_okq (⟨"StreamForgeModel", "readPattern", "()I"⟩, 77) := ⟨⟨by decide +kernel, by decide +kernel⟩, List.mem_of_getElem? (i := 1053) (by decide +kernel), List.mem_of_getElem? (i := 1346) (by decide +kernel), List.mem_of_getElem? (i := 1347) (by decide +kernel)⟩
theorem lw_p74 : lw_okq (⟨"StreamForgeModel", "behind", "()I"⟩, 77) := ⟨⟨by decide +kernel, by decide +kernel⟩, List.mem_of_getElem? (i := 1053) (by decide +kernel), List.mem_of_getElem? (i := 1350) (by decide +kernel), List.mem_of_getElem? (i := 1351) (by decide +kernel)⟩
theorem lw_p75 : lw_okq (⟨"StreamForgeModel", "escaped", "(I)V"⟩, 77) := ⟨⟨by decide +kernel, by decide +kernel⟩, List.mem_of_getElem? (i := 1053) (by decide +kernel), List.mem_of_getElem? (i := 1354) (by decide +kernel), List.mem_of_getElem? (i := 1355) (by decide +kernel)⟩
theorem lw_p76 : lw_okq (⟨"StreamForgeModel", "addItem", "(III)V"⟩, 77) := ⟨⟨by decide +kernel, by decide +kernel⟩, List.mem_of_getElem? (i := 1053) (by decide +kernel), List.mem_of_getElem? (i := 1358) (by decide +kernel), List.mem_of_getElem? (i := 1359) (by decide +kernel)⟩
theorem lw_p77 : lw_okq (⟨"StreamForgeModel", "set", "(I)V"⟩, 77) := ⟨⟨by decide +kernel, by decide +kernel⟩, List.mem_of_getElem? (i := 1053) (by decide +kernel), List.mem_of_getElem? (i := 1362) (by decide +kernel), List.mem_of_getElem? (i := 1363) (by decide +kernel)⟩
theorem lw_p78 : lw_okq (⟨"StreamForgeModel", "isMember", "()Z"⟩, 77) := ⟨⟨by decide +kernel, by decide +kernel⟩, List.mem_of_getElem? (i := 1053) (by decide +kernel), List.mem_of_getElem? (i := 1366) (by decide +kernel), List.mem_of_getElem? (i := 1367) (by decide +kernel)⟩
theorem lw_p79 : lw_okq (⟨"StreamForgeModel", "put", "(III)V"⟩, 77) := ⟨⟨by decide +kernel, by decide +kernel⟩, List.mem_of_getElem? (i := 1053) (by decide +kernel), List.mem_of_getElem? (i := 1370) (by decide +kernel), List.mem_of_getElem? (i := 1371) (by decide +kernel)⟩
def lw_privs_5 : List (MethodName × Nat) := [(⟨"StreamForge$Editor", "join", "(LStreamForge$Row;LStreamForge$Row;)V"⟩, 17), (⟨"StreamForge$Editor", "swap", "()V"⟩, 17), (⟨"StreamForge$Editor", "tellNumber", "()V"⟩, 17), (⟨"StreamForgeModel", "fail", "(I)I"⟩, 77), (⟨"StreamForgeModel", "addTo", "(IJ)V"⟩, 77), (⟨"StreamForgeModel", "wrong", "(I)V"⟩, 77), (⟨"StreamForgeModel", "command", "()V"⟩, 77), (⟨"StreamForgeModel", "address", "()I"⟩, 77), (⟨"StreamForgeModel", "here", "()I"⟩, 77), (⟨"StreamForgeModel", "readPattern", "()I"⟩, 77), (⟨"StreamForgeModel", "behind", "()I"⟩, 77), (⟨"StreamForgeModel", "escaped", "(I)V"⟩, 77), (⟨"StreamForgeModel", "addItem", "(III)V"⟩, 77), (⟨"StreamForgeModel", "set", "(I)V"⟩, 77), (⟨"StreamForgeModel", "isMember", "()Z"⟩, 77), (⟨"StreamForgeModel", "put", "(III)V"⟩, 77)]
theorem lw_r5 : ∀ q ∈ lw_privs_5, lw_okq q := List.forall_mem_cons.mpr ⟨lw_p64, List.forall_mem_cons.mpr ⟨lw_p65, List.forall_mem_cons.mpr ⟨lw_p66, List.forall_mem_cons.mpr ⟨lw_p67, List.forall_mem_cons.mpr ⟨lw_p68, List.forall_mem_cons.mpr ⟨lw_p69, List.forall_mem_cons.mpr ⟨lw_p70, List.forall_mem_cons.mpr ⟨lw_p71, List.forall_mem_cons.mpr ⟨lw_p72, List.forall_mem_cons.mpr ⟨lw_p73, List.forall_mem_cons.mpr ⟨lw_p74, List.forall_mem_cons.mpr ⟨lw_p75, List.forall_mem_cons.mpr ⟨lw_p76, List.forall_mem_cons.mpr ⟨lw_p77, List.forall_mem_cons.mpr ⟨lw_p78, List.forall_mem_cons.mpr ⟨lw_p79, fun _ h => absurd h List.not_mem_nil⟩⟩⟩⟩⟩⟩⟩⟩⟩⟩⟩⟩⟩⟩⟩⟩
theorem lw_p80 : lw_okq (⟨"StreamForgeModel", "star", "()V"⟩, 77) := ⟨⟨by decide +kernel, by decide +kernel⟩, List.mem_of_getElem? (i := 1053) (by decide +kernel), List.mem_of_getElem? (i := 1375) (by decide +kernel), List.mem_of_getElem? (i := 1376) (by decide +kernel)⟩
theorem lw_p81 : lw_okq (⟨"StreamForgeModel", "blanks", "()V"⟩, 77) := ⟨⟨by decide +kernel, by decide +kernel⟩, List.mem_of_getElem? (i := 1053) (by decide +kernel), List.mem_of_getElem? (i := 1379) (by decide +kernel), List.mem_of_getElem? (i := 1380) (by decide +kernel)⟩
theorem lw_p82 : lw_okq (⟨"StreamForgeModel", "label", "(IZ)V"⟩, 77) := ⟨⟨by decide +kernel, by decide +kernel⟩, List.mem_of_getElem? (i := 1053) (by decide +kernel), List.mem_of_getElem? (i := 1383) (by decide +kernel), List.mem_of_getElem? (i := 1384) (by decide +kernel)⟩
theorem lw_p83 : lw_okq (⟨"StreamForgeModel", "closed", "()V"⟩, 77) := ⟨⟨by decide +kernel, by decide +kernel⟩, List.mem_of_getElem? (i := 1053) (by decide +kernel), List.mem_of_getElem? (i := 1387) (by decide +kernel), List.mem_of_getElem? (i := 1388) (by decide +kernel)⟩
theorem lw_p84 : lw_okq (⟨"StreamForgeModel", "branch", "(I)V"⟩, 77) := ⟨⟨by decide +kernel, by decide +kernel⟩, List.mem_of_getElem? (i := 1053) (by decide +kernel), List.mem_of_getElem? (i := 1391) (by decide +kernel), List.mem_of_getElem? (i := 1392) (by decide +kernel)⟩
theorem lw_p85 : lw_okq (⟨"StreamForgeModel", "substitute", "(I)V"⟩, 77) := ⟨⟨by decide +kernel, by decide +kernel⟩, List.mem_of_getElem? (i := 1053) (by decide +kernel), List.mem_of_getElem? (i := 1395) (by decide +kernel), List.mem_of_getElem? (i := 1396) (by decide +kernel)⟩
theorem lw_p86 : lw_okq (⟨"StreamForgeModel", "expect", "(I)V"⟩, 77) := ⟨⟨by decide +kernel, by decide +kernel⟩, List.mem_of_getElem? (i := 1053) (by decide +kernel), List.mem_of_getElem? (i := 1399) (by decide +kernel), List.mem_of_getElem? (i := 1400) (by decide +kernel)⟩
theorem lw_p87 : lw_okq (⟨"StreamForgeModel", "replacement", "(I)V"⟩, 77) := ⟨⟨by decide +kernel, by decide +kernel⟩, List.mem_of_getElem? (i := 1053) (by decide +kernel), List.mem_of_getElem? (i := 1403) (by decide +kernel), List.mem_of_getElem? (i := 1404) (by decide +kernel)⟩
theorem lw_p88 : lw_okq (⟨"StreamForgeModel", "stored", "()I"⟩, 77) := ⟨⟨by decide +kernel, by decide +kernel⟩, List.mem_of_getElem? (i := 1053) (by decide +kernel), List.mem_of_getElem? (i := 1407) (by decide +kernel), List.mem_of_getElem? (i := 1408) (by decide +kernel)⟩
theorem lw_p89 : lw_okq (⟨"StreamForgeModel", "keep", "(I)V"⟩, 77) := ⟨⟨by decide +kernel, by decide +kernel⟩, List.mem_of_getElem? (i := 1053) (by decide +kernel), List.mem_of_getElem? (i := 1411) (by decide +kernel), List.mem_of_getElem? (i := 1412) (by decide +kernel)⟩
theorem lw_p90 : lw_okq (⟨"StreamForgeModel", "exchange", "(I)V"⟩, 77) := ⟨⟨by decide +kernel, by decide +kernel⟩, List.mem_of_getElem? (i := 1053) (by decide +kernel), List.mem_of_getElem? (i := 1415) (by decide +kernel), List.mem_of_getElem? (i := 1416) (by decide +kernel)⟩
theorem lw_p91 : lw_okq (⟨"StreamForgeModel", "readText", "(I)V"⟩, 77) := ⟨⟨by decide +kernel, by decide +kernel⟩, List.mem_of_getElem? (i := 1053) (by decide +kernel), List.mem_of_getElem? (i := 1419) (by decide +kernel), List.mem_of_getElem? (i := 1420) (by decide +kernel)⟩
theorem lw_p92 : lw_okq (⟨"StreamForgeModel", "goals", "()V"⟩, 77) := ⟨⟨by decide +kernel, by decide +kernel⟩, List.mem_of_getElem? (i := 1053) (by decide +kernel), List.mem_of_getElem? (i := 1426) (by decide +kernel), List.mem_of_getElem? (i := 1427) (by decide +kernel)⟩
theorem lw_p93 : lw_okq (⟨"StreamForgeModel", "takeLine", "(I)V"⟩, 77) := ⟨⟨by decide +kernel, by decide +kernel⟩, List.mem_of_getElem? (i := 1053) (by decide +kernel), List.mem_of_getElem? (i := 1438) (by decide +kernel), List.mem_of_getElem? (i := 1439) (by decide +kernel)⟩
theorem lw_p94 : lw_okq (⟨"StreamForgeModel", "find", "(II)Z"⟩, 77) := ⟨⟨by decide +kernel, by decide +kernel⟩, List.mem_of_getElem? (i := 1053) (by decide +kernel), List.mem_of_getElem? (i := 1442) (by decide +kernel), List.mem_of_getElem? (i := 1443) (by decide +kernel)⟩
theorem lw_p95 : lw_okq (⟨"StreamForgeModel", "starsOf", "(I)I"⟩, 77) := ⟨⟨by decide +kernel, by decide +kernel⟩, List.mem_of_getElem? (i := 1053) (by decide +kernel), List.mem_of_getElem? (i := 1446) (by decide +kernel), List.mem_of_getElem? (i := 1447) (by decide +kernel)⟩
def lw_privs_6 : List (MethodName × Nat) := [(⟨"StreamForgeModel", "star", "()V"⟩, 77), (⟨"StreamForgeModel", "blanks", "()V"⟩, 77), (⟨"StreamForgeModel", "label", "(IZ)V"⟩, 77), (⟨"StreamForgeModel", "closed", "()V"⟩, 77), (⟨"StreamForgeModel", "branch", "(I)V"⟩, 77), (⟨"StreamForgeModel", "substitute", "(I)V"⟩, 77), (⟨"StreamForgeModel", "expect", "(I)V"⟩, 77), (⟨"StreamForgeModel", "replacement", "(I)V"⟩, 77), (⟨"StreamForgeModel", "stored", "()I"⟩, 77), (⟨"StreamForgeModel", "keep", "(I)V"⟩, 77), (⟨"StreamForgeModel", "exchange", "(I)V"⟩, 77), (⟨"StreamForgeModel", "readText", "(I)V"⟩, 77), (⟨"StreamForgeModel", "goals", "()V"⟩, 77), (⟨"StreamForgeModel", "takeLine", "(I)V"⟩, 77), (⟨"StreamForgeModel", "find", "(II)Z"⟩, 77), (⟨"StreamForgeModel", "starsOf", "(I)I"⟩, 77)]
theorem lw_r6 : ∀ q ∈ lw_privs_6, lw_okq q := List.forall_mem_cons.mpr ⟨lw_p80, List.forall_mem_cons.mpr ⟨lw_p81, List.forall_mem_cons.mpr ⟨lw_p82, List.forall_mem_cons.mpr ⟨lw_p83, List.forall_mem_cons.mpr ⟨lw_p84, List.forall_mem_cons.mpr ⟨lw_p85, List.forall_mem_cons.mpr ⟨lw_p86, List.forall_mem_cons.mpr ⟨lw_p87, List.forall_mem_cons.mpr ⟨lw_p88, List.forall_mem_cons.mpr ⟨lw_p89, List.forall_mem_cons.mpr ⟨lw_p90, List.forall_mem_cons.mpr ⟨lw_p91, List.forall_mem_cons.mpr ⟨lw_p92, List.forall_mem_cons.mpr ⟨lw_p93, List.forall_mem_cons.mpr ⟨lw_p94, List.forall_mem_cons.mpr ⟨lw_p95, fun _ h => absurd h List.not_mem_nil⟩⟩⟩⟩⟩⟩⟩⟩⟩⟩⟩⟩⟩⟩⟩⟩
theorem lw_p96 : lw_okq (⟨"StreamForgeModel", "way", "(IIII)I"⟩, 77) := ⟨⟨by decide +kernel, by decide +kernel⟩, List.mem_of_getElem? (i := 1053) (by decide +kernel), List.mem_of_getElem? (i := 1450) (by decide +kernel), List.mem_of_getElem? (i := 1451) (by decide +kernel)⟩
theorem lw_p97 : lw_okq (⟨"StreamForgeModel", "fits", "(II)Z"⟩, 77) := ⟨⟨by decide +kernel, by decide +kernel⟩, List.mem_of_getElem? (i := 1053) (by decide +kernel), List.mem_of_getElem? (i := 1454) (by decide +kernel), List.mem_of_getElem? (i := 1455) (by decide +kernel)⟩
theorem lw_p98 : lw_okq (⟨"StreamForgeModel", "readLine", "()V"⟩, 77) := ⟨⟨by decide +kernel, by decide +kernel⟩, List.mem_of_getElem? (i := 1053) (by decide +kernel), List.mem_of_getElem? (i := 1462) (by decide +kernel), List.mem_of_getElem? (i := 1463) (by decide +kernel)⟩
theorem lw_p99 : lw_okq (⟨"StreamForgeModel", "endCycle", "(Z)I"⟩, 77) := ⟨⟨by decide +kernel, by decide +kernel⟩, List.mem_of_getElem? (i := 1053) (by decide +kernel), List.mem_of_getElem? (i := 1466) (by decide +kernel), List.mem_of_getElem? (i := 1467) (by decide +kernel)⟩
theorem lw_p100 : lw_okq (⟨"StreamForgeModel", "tellSpace", "(Z)Z"⟩, 77) := ⟨⟨by decide +kernel, by decide +kernel⟩, List.mem_of_getElem? (i := 1053) (by decide +kernel), List.mem_of_getElem? (i := 1470) (by decide +kernel), List.mem_of_getElem? (i := 1471) (by decide +kernel)⟩
theorem lw_p101 : lw_okq (⟨"StreamForgeModel", "tell", "()Z"⟩, 77) := ⟨⟨by decide +kernel, by decide +kernel⟩, List.mem_of_getElem? (i := 1053) (by decide +kernel), List.mem_of_getElem? (i := 1474) (by decide +kernel), List.mem_of_getElem? (i := 1475) (by decide +kernel)⟩
theorem lw_p102 : lw_okq (⟨"StreamForgeModel", "full", "()Z"⟩, 77) := ⟨⟨by decide +kernel, by decide +kernel⟩, List.mem_of_getElem? (i := 1053) (by decide +kernel), List.mem_of_getElem? (i := 1478) (by decide +kernel), List.mem_of_getElem? (i := 1479) (by decide +kernel)⟩
theorem lw_p103 : lw_okq (⟨"StreamForgeModel", "tellAppended", "()Z"⟩, 77) := ⟨⟨by decide +kernel, by decide +kernel⟩, List.mem_of_getElem? (i := 1053) (by decide +kernel), List.mem_of_getElem? (i := 1482) (by decide +kernel), List.mem_of_getElem? (i := 1483) (by decide +kernel)⟩
theorem lw_p104 : lw_okq (⟨"StreamForgeModel", "isDone", "(I)Z"⟩, 77) := ⟨⟨by decide +kernel, by decide +kernel⟩, List.mem_of_getElem? (i := 1053) (by decide +kernel), List.mem_of_getElem? (i := 1486) (by decide +kernel), List.mem_of_getElem? (i := 1487) (by decide +kernel)⟩
theorem lw_p105 : lw_okq (⟨"StreamForgeModel", "fitsAddress", "(II)Z"⟩, 77) := ⟨⟨by decide +kernel, by decide +kernel⟩, List.mem_of_getElem? (i := 1053) (by decide +kernel), List.mem_of_getElem? (i := 1490) (by decide +kernel), List.mem_of_getElem? (i := 1491) (by decide +kernel)⟩
theorem lw_p106 : lw_okq (⟨"StreamForgeModel", "takeSpace", "()V"⟩, 77) := ⟨⟨by decide +kernel, by decide +kernel⟩, List.mem_of_getElem? (i := 1053) (by decide +kernel), List.mem_of_getElem? (i := 1494) (by decide +kernel), List.mem_of_getElem? (i := 1495) (by decide +kernel)⟩
theorem lw_p107 : lw_okq (⟨"StreamForgeModel", "perform", "(II)I"⟩, 77) := ⟨⟨by decide +kernel, by decide +kernel⟩, List.mem_of_getElem? (i := 1053) (by decide +kernel), List.mem_of_getElem? (i := 1498) (by decide +kernel), List.mem_of_getElem? (i := 1499) (by decide +kernel)⟩
theorem lw_p108 : lw_okq (⟨"StreamForgeModel", "substituted", "(I)Z"⟩, 77) := ⟨⟨by decide +kernel, by decide +kernel⟩, List.mem_of_getElem? (i := 1053) (by decide +kernel), List.mem_of_getElem? (i := 1502) (by decide +kernel), List.mem_of_getElem? (i := 1503) (by decide +kernel)⟩
theorem lw_p109 : lw_okq (⟨"StreamForgeModel", "copyOf", "(II)V"⟩, 77) := ⟨⟨by decide +kernel, by decide +kernel⟩, List.mem_of_getElem? (i := 1053) (by decide +kernel), List.mem_of_getElem? (i := 1506) (by decide +kernel), List.mem_of_getElem? (i := 1507) (by decide +kernel)⟩
theorem lw_p110 : lw_okq (⟨"StreamForgeModel", "add", "(I)V"⟩, 77) := ⟨⟨by decide +kernel, by decide +kernel⟩, List.mem_of_getElem? (i := 1053) (by decide +kernel), List.mem_of_getElem? (i := 1510) (by decide +kernel), List.mem_of_getElem? (i := 1511) (by decide +kernel)⟩
theorem lw_p111 : lw_okq (⟨"StreamForgeModel", "addReplacement", "(I)V"⟩, 77) := ⟨⟨by decide +kernel, by decide +kernel⟩, List.mem_of_getElem? (i := 1053) (by decide +kernel), List.mem_of_getElem? (i := 1514) (by decide +kernel), List.mem_of_getElem? (i := 1515) (by decide +kernel)⟩
def lw_privs_7 : List (MethodName × Nat) := [(⟨"StreamForgeModel", "way", "(IIII)I"⟩, 77), (⟨"StreamForgeModel", "fits", "(II)Z"⟩, 77), (⟨"StreamForgeModel", "readLine", "()V"⟩, 77), (⟨"StreamForgeModel", "endCycle", "(Z)I"⟩, 77), (⟨"StreamForgeModel", "tellSpace", "(Z)Z"⟩, 77), (⟨"StreamForgeModel", "tell", "()Z"⟩, 77), (⟨"StreamForgeModel", "full", "()Z"⟩, 77), (⟨"StreamForgeModel", "tellAppended", "()Z"⟩, 77), (⟨"StreamForgeModel", "isDone", "(I)Z"⟩, 77), (⟨"StreamForgeModel", "fitsAddress", "(II)Z"⟩, 77), (⟨"StreamForgeModel", "takeSpace", "()V"⟩, 77), (⟨"StreamForgeModel", "perform", "(II)I"⟩, 77), (⟨"StreamForgeModel", "substituted", "(I)Z"⟩, 77), (⟨"StreamForgeModel", "copyOf", "(II)V"⟩, 77), (⟨"StreamForgeModel", "add", "(I)V"⟩, 77), (⟨"StreamForgeModel", "addReplacement", "(I)V"⟩, 77)]
theorem lw_r7 : ∀ q ∈ lw_privs_7, lw_okq q := List.forall_mem_cons.mpr ⟨lw_p96, List.forall_mem_cons.mpr ⟨lw_p97, List.forall_mem_cons.mpr ⟨lw_p98, List.forall_mem_cons.mpr ⟨lw_p99, List.forall_mem_cons.mpr ⟨lw_p100, List.forall_mem_cons.mpr ⟨lw_p101, List.forall_mem_cons.mpr ⟨lw_p102, List.forall_mem_cons.mpr ⟨lw_p103, List.forall_mem_cons.mpr ⟨lw_p104, List.forall_mem_cons.mpr ⟨lw_p105, List.forall_mem_cons.mpr ⟨lw_p106, List.forall_mem_cons.mpr ⟨lw_p107, List.forall_mem_cons.mpr ⟨lw_p108, List.forall_mem_cons.mpr ⟨lw_p109, List.forall_mem_cons.mpr ⟨lw_p110, List.forall_mem_cons.mpr ⟨lw_p111, fun _ h => absurd h List.not_mem_nil⟩⟩⟩⟩⟩⟩⟩⟩⟩⟩⟩⟩⟩⟩⟩⟩
theorem lw_p112 : lw_okq (⟨"StreamForgeModel", "exchanged", "(I)V"⟩, 77) := ⟨⟨by decide +kernel, by decide +kernel⟩, List.mem_of_getElem? (i := 1053) (by decide +kernel), List.mem_of_getElem? (i := 1518) (by decide +kernel), List.mem_of_getElem? (i := 1519) (by decide +kernel)⟩
theorem lw_p113 : lw_okq (⟨"StreamForgeModel", "append", "(I)Z"⟩, 77) := ⟨⟨by decide +kernel, by decide +kernel⟩, List.mem_of_getElem? (i := 1053) (by decide +kernel), List.mem_of_getElem? (i := 1522) (by decide +kernel), List.mem_of_getElem? (i := 1523) (by decide +kernel)⟩
theorem lw_p114 : lw_okq (⟨"StreamForgeModel", "tellText", "(I)Z"⟩, 77) := ⟨⟨by decide +kernel, by decide +kernel⟩, List.mem_of_getElem? (i := 1053) (by decide +kernel), List.mem_of_getElem? (i := 1526) (by decide +kernel), List.mem_of_getElem? (i := 1527) (by decide +kernel)⟩
theorem lw_p115 : lw_okq (⟨"StreamForgeModel", "cut", "()I"⟩, 77) := ⟨⟨by decide +kernel, by decide +kernel⟩, List.mem_of_getElem? (i := 1053) (by decide +kernel), List.mem_of_getElem? (i := 1530) (by decide +kernel), List.mem_of_getElem? (i := 1531) (by decide +kernel)⟩
theorem lw_p116 : lw_okq (⟨"StreamForgeModel", "nextLine", "(II)I"⟩, 77) := ⟨⟨by decide +kernel, by decide +kernel⟩, List.mem_of_getElem? (i := 1053) (by decide +kernel), List.mem_of_getElem? (i := 1534) (by decide +kernel), List.mem_of_getElem? (i := 1535) (by decide +kernel)⟩
theorem lw_p117 : lw_okq (⟨"StreamForgeModel", "tellNumber", "()Z"⟩, 77) := ⟨⟨by decide +kernel, by decide +kernel⟩, List.mem_of_getElem? (i := 1053) (by decide +kernel), List.mem_of_getElem? (i := 1538) (by decide +kernel), List.mem_of_getElem? (i := 1539) (by decide +kernel)⟩
theorem lw_p118 : lw_okq (⟨"StreamForgeModel", "holds", "(I)Z"⟩, 77) := ⟨⟨by decide +kernel, by decide +kernel⟩, List.mem_of_getElem? (i := 1053) (by decide +kernel), List.mem_of_getElem? (i := 1542) (by decide +kernel), List.mem_of_getElem? (i := 1543) (by decide +kernel)⟩
def lw_privs_8 : List (MethodName × Nat) := [(⟨"StreamForgeModel", "exchanged", "(I)V"⟩, 77), (⟨"StreamForgeModel", "append", "(I)Z"⟩, 77), (⟨"StreamForgeModel", "tellText", "(I)Z"⟩, 77), (⟨"StreamForgeModel", "cut", "()I"⟩, 77), (⟨"StreamForgeModel", "nextLine", "(II)I"⟩, 77), (⟨"StreamForgeModel", "tellNumber", "()Z"⟩, 77), (⟨"StreamForgeModel", "holds", "(I)Z"⟩, 77)]
theorem lw_r8 : ∀ q ∈ lw_privs_8, lw_okq q := List.forall_mem_cons.mpr ⟨lw_p112, List.forall_mem_cons.mpr ⟨lw_p113, List.forall_mem_cons.mpr ⟨lw_p114, List.forall_mem_cons.mpr ⟨lw_p115, List.forall_mem_cons.mpr ⟨lw_p116, List.forall_mem_cons.mpr ⟨lw_p117, List.forall_mem_cons.mpr ⟨lw_p118, fun _ h => absurd h List.not_mem_nil⟩⟩⟩⟩⟩⟩⟩
def lw_privs : List (MethodName × Nat) := lw_privs_1 ++ (lw_privs_2 ++ (lw_privs_3 ++ (lw_privs_4 ++ (lw_privs_5 ++ (lw_privs_6 ++ (lw_privs_7 ++ (lw_privs_8)))))))
def lw_tbl : List Cond := k2_sels lw_privs ++ tables_1
theorem lw_privs_ok : ∀ q ∈ lw_privs, lw_okq q := by
  show ∀ q ∈ lw_privs_1 ++ (lw_privs_2 ++ (lw_privs_3 ++ (lw_privs_4 ++ (lw_privs_5 ++ (lw_privs_6 ++ (lw_privs_7 ++ (lw_privs_8))))))), lw_okq q
  exact List.forall_mem_append.mpr ⟨lw_r1, List.forall_mem_append.mpr ⟨lw_r2, List.forall_mem_append.mpr ⟨lw_r3, List.forall_mem_append.mpr ⟨lw_r4, List.forall_mem_append.mpr ⟨lw_r5, List.forall_mem_append.mpr ⟨lw_r6, List.forall_mem_append.mpr ⟨lw_r7, lw_r8⟩⟩⟩⟩⟩⟩⟩
-- ===== end of PART A; then your names; then what follows =====
end
section
def zT : List Cond := lw_tbl.filter goodWord
theorem z_m {w : Cond} (i : Nat) (h : lw_tbl[i]? = some w) (g : goodWord w = true) : w ∈ zT := List.mem_filter.mpr ⟨List.mem_of_getElem? h, g⟩
theorem z_ms {ws : List Cond} (ps : List Nat) (hp : ws = ps.filterMap (fun i => lw_tbl[i]?)) (hg : ws.all goodWord = true) : ∀ w ∈ ws, w ∈ zT := by
  intro w hw
  have h1 := List.all_eq_true.mp hg w hw
  rw [hp] at hw
  obtain ⟨i, -, hi⟩ := List.mem_filterMap.mp hw
  exact z_m i hi h1
theorem z_good {w : Cond} (h : w ∈ zT) : (w.onTables && w.keeps) = true ∨ ∃ ty, w = .arrayClass ty := good_of_word (List.mem_filter.mp h).2
theorem z_zin {w : Cond} (h : w ∈ zT) : w ∈ lw_tbl := (List.mem_filter.mp h).1
def R_Addr : String := "StreamForge$Address"
def T_Addr : u_T := fun k => match k with
  | 0 => ("StreamForge$Address", "pattern", "LStreamForge$Pattern;", true)
  | 1 => ("StreamForge$Address", "kind", "I", false)
  | _ => ("StreamForge$Address", "number", "I", false)
def t_Addr : Nat → FieldType := fun k => match k with
  | 0 => .object "StreamForge$Pattern"
  | 1 => .int
  | _ => .int
theorem n_Addr : ∀ a, a < 3 → ∀ b, b < 3 → a ≠ b → (T_Addr a).2.1 ≠ (T_Addr b).2.1 := by decide +kernel
theorem t_Addr_ok : ∀ k, k < 3 → parseFieldDescriptor (T_Addr k).2.2.1 = some (t_Addr k) := by decide +kernel
theorem i_Addr : ∀ w ∈ u_ws R_Addr T_Addr 3, w ∈ zT := z_ms [445, 447, 449] (by decide +kernel) (by decide +kernel)
def R_Cmd : String := "StreamForge$Command"
def T_Cmd : u_T := fun k => match k with
  | 0 => ("StreamForge$Command", "first", "LStreamForge$Address;", true)
  | 1 => ("StreamForge$Command", "second", "LStreamForge$Address;", true)
  | 2 => ("StreamForge$Command", "pattern", "LStreamForge$Pattern;", true)
  | 3 => ("StreamForge$Command", "kind", "I", false)
  | 4 => ("StreamForge$Command", "at", "I", false)
  | 5 => ("StreamForge$Command", "addresses", "I", false)
  | 6 => ("StreamForge$Command", "inverted", "Z", false)
  | 7 => ("StreamForge$Command", "target", "I", false)
  | 8 => ("StreamForge$Command", "label", "I", false)
  | 9 => ("StreamForge$Command", "textFrom", "I", false)
  | 10 => ("StreamForge$Command", "textTo", "I", false)
  | 11 => ("StreamForge$Command", "counterpart", "I", false)
  | 12 => ("StreamForge$Command", "all", "Z", false)
  | 13 => ("StreamForge$Command", "print", "Z", false)
  | 14 => ("StreamForge$Command", "digit", "I", false)
  | _ => ("StreamForge$Command", "inRange", "Z", false)
def t_Cmd : Nat → FieldType := fun k => match k with
  | 0 => .object "StreamForge$Address"
  | 1 => .object "StreamForge$Address"
  | 2 => .object "StreamForge$Pattern"
  | 3 => .int
  | 4 => .int
  | 5 => .int
  | 6 => .boolean
  | 7 => .int
  | 8 => .int
  | 9 => .int
  | 10 => .int
  | 11 => .int
  | 12 => .boolean
  | 13 => .boolean
  | 14 => .int
  | _ => .boolean
theorem n_Cmd : ∀ a, a < 16 → ∀ b, b < 16 → a ≠ b → (T_Cmd a).2.1 ≠ (T_Cmd b).2.1 := by decide +kernel
theorem t_Cmd_ok : ∀ k, k < 16 → parseFieldDescriptor (T_Cmd k).2.2.1 = some (t_Cmd k) := by decide +kernel
theorem i_Cmd : ∀ w ∈ u_ws R_Cmd T_Cmd 16, w ∈ zT := z_ms [493, 495, 497, 499, 501, 503, 505, 507, 509, 511, 513, 515, 517, 519, 521, 523] (by decide +kernel) (by decide +kernel)
def R_Cur : String := "StreamForge$Cursor"
def T_Cur : u_T := fun k => match k with
  | 0 => ("StreamForge$Cursor", "text", "LStreamForge$Row;", false)
  | 1 => ("StreamForge$Cursor", "at", "I", false)
  | _ => ("StreamForge$Cursor", "refusedAt", "I", false)
def t_Cur : Nat → FieldType := fun k => match k with
  | 0 => .object "StreamForge$Row"
  | 1 => .int
  | _ => .int
theorem n_Cur : ∀ a, a < 3 → ∀ b, b < 3 → a ≠ b → (T_Cur a).2.1 ≠ (T_Cur b).2.1 := by decide +kernel
theorem t_Cur_ok : ∀ k, k < 3 → parseFieldDescriptor (T_Cur k).2.2.1 = some (t_Cur k) := by decide +kernel
theorem i_Cur : ∀ w ∈ u_ws R_Cur T_Cur 3, w ∈ zT := z_ms [191, 193, 195] (by decide +kernel) (by decide +kernel)
def R_Ed : String := "StreamForge$Editor"
def T_Ed : u_T := fun k => match k with
  | 0 => ("StreamForge$Editor", "output", "LStreamForge$Row;", true)
  | 1 => ("StreamForge$Editor", "space", "LStreamForge$Row;", false)
  | 2 => ("StreamForge$Editor", "hold", "LStreamForge$Row;", false)
  | 3 => ("StreamForge$Editor", "linesRead", "I", false)
  | 4 => ("StreamForge$Editor", "begun", "I", false)
  | 5 => ("StreamForge$Editor", "cycles", "I", false)
  | 6 => ("StreamForge$Editor", "replacements", "I", false)
  | 7 => ("StreamForge$Editor", "appended", "LStreamForge$Row;", true)
  | 8 => ("StreamForge$Editor", "matcher", "LStreamForge$Matcher;", true)
  | 9 => ("StreamForge$Editor", "draft", "LStreamForge$Row;", false)
  | 10 => ("StreamForge$Editor", "program", "LStreamForge$Program;", false)
  | 11 => ("StreamForge$Editor", "lines", "[LStreamForge$Row;", false)
  | 12 => ("StreamForge$Editor", "lineCount", "I", false)
  | 13 => ("StreamForge$Editor", "next", "I", false)
  | 14 => ("StreamForge$Editor", "over", "Z", false)
  | 15 => ("StreamForge$Editor", "replaced", "Z", false)
  | _ => ("StreamForge$Editor", "rangeEnds", "Z", false)
def t_Ed : Nat → FieldType := fun k => match k with
  | 0 => .object "StreamForge$Row"
  | 1 => .object "StreamForge$Row"
  | 2 => .object "StreamForge$Row"
  | 3 => .int
  | 4 => .int
  | 5 => .int
  | 6 => .int
  | 7 => .object "StreamForge$Row"
  | 8 => .object "StreamForge$Matcher"
  | 9 => .object "StreamForge$Row"
  | 10 => .object "StreamForge$Program"
  | 11 => .array (.object "StreamForge$Row")
  | 12 => .int
  | 13 => .int
  | 14 => .boolean
  | 15 => .boolean
  | _ => .boolean
theorem n_Ed : ∀ a, a < 17 → ∀ b, b < 17 → a ≠ b → (T_Ed a).2.1 ≠ (T_Ed b).2.1 := by decide +kernel
theorem t_Ed_ok : ∀ k, k < 17 → parseFieldDescriptor (T_Ed k).2.2.1 = some (t_Ed k) := by decide +kernel
theorem i_Ed : ∀ w ∈ u_ws R_Ed T_Ed 17, w ∈ zT := z_ms [317, 319, 321, 323, 325, 327, 329, 331, 333, 335, 337, 339, 341, 343, 345, 347, 349] (by decide +kernel) (by decide +kernel)
def R_It : String := "StreamForge$Items"
def T_It : u_T := fun k => match k with
  | 0 => ("StreamForge$Items", "kind", "[I", true)
  | 1 => ("StreamForge$Items", "group", "[I", true)
  | 2 => ("StreamForge$Items", "low", "[J", true)
  | 3 => ("StreamForge$Items", "high", "[J", true)
  | _ => ("StreamForge$Items", "size", "I", false)
def t_It : Nat → FieldType := fun k => match k with
  | 0 => .array (.int)
  | 1 => .array (.int)
  | 2 => .array (.long)
  | 3 => .array (.long)
  | _ => .int
theorem n_It : ∀ a, a < 5 → ∀ b, b < 5 → a ≠ b → (T_It a).2.1 ≠ (T_It b).2.1 := by decide +kernel
theorem t_It_ok : ∀ k, k < 5 → parseFieldDescriptor (T_It k).2.2.1 = some (t_It k) := by decide +kernel
theorem i_It : ∀ w ∈ u_ws R_It T_It 5, w ∈ zT := z_ms [377, 379, 381, 383, 385] (by decide +kernel) (by decide +kernel)
def R_Ma : String := "StreamForge$Matcher"
def T_Ma : u_T := fun k => match k with
  | 0 => ("StreamForge$Matcher", "begin", "I", false)
  | 1 => ("StreamForge$Matcher", "end", "I", false)
  | 2 => ("StreamForge$Matcher", "items", "LStreamForge$Items;", false)
  | 3 => ("StreamForge$Matcher", "pattern", "LStreamForge$Pattern;", false)
  | 4 => ("StreamForge$Matcher", "text", "LStreamForge$Row;", false)
  | 5 => ("StreamForge$Matcher", "groupBegin", "[I", true)
  | 6 => ("StreamForge$Matcher", "groupEnd", "[I", true)
  | 7 => ("StreamForge$Matcher", "triedBegin", "[I", true)
  | _ => ("StreamForge$Matcher", "triedEnd", "[I", true)
def t_Ma : Nat → FieldType := fun k => match k with
  | 0 => .int
  | 1 => .int
  | 2 => .object "StreamForge$Items"
  | 3 => .object "StreamForge$Pattern"
  | 4 => .object "StreamForge$Row"
  | 5 => .array (.int)
  | 6 => .array (.int)
  | 7 => .array (.int)
  | _ => .array (.int)
theorem n_Ma : ∀ a, a < 9 → ∀ b, b < 9 → a ≠ b → (T_Ma a).2.1 ≠ (T_Ma b).2.1 := by decide +kernel
theorem t_Ma_ok : ∀ k, k < 9 → parseFieldDescriptor (T_Ma k).2.2.1 = some (t_Ma k) := by decide +kernel
theorem i_Ma : ∀ w ∈ u_ws R_Ma T_Ma 9, w ∈ zT := z_ms [274, 276, 278, 280, 282, 284, 286, 288, 290] (by decide +kernel) (by decide +kernel)
def R_Pa : String := "StreamForge$Parser"
def T_Pa : u_T := fun k => match k with
  | 0 => ("StreamForge$Parser", "cursor", "LStreamForge$Cursor;", true)
  | 1 => ("StreamForge$Parser", "patterns", "LStreamForge$PatternReader;", true)
  | 2 => ("StreamForge$Parser", "openBlocks", "[I", true)
  | 3 => ("StreamForge$Parser", "behindLabel", "[I", true)
  | 4 => ("StreamForge$Parser", "depth", "I", false)
  | 5 => ("StreamForge$Parser", "program", "LStreamForge$Program;", false)
  | _ => ("StreamForge$Parser", "command", "LStreamForge$Command;", false)
def t_Pa : Nat → FieldType := fun k => match k with
  | 0 => .object "StreamForge$Cursor"
  | 1 => .object "StreamForge$PatternReader"
  | 2 => .array (.int)
  | 3 => .array (.int)
  | 4 => .int
  | 5 => .object "StreamForge$Program"
  | _ => .object "StreamForge$Command"
theorem n_Pa : ∀ a, a < 7 → ∀ b, b < 7 → a ≠ b → (T_Pa a).2.1 ≠ (T_Pa b).2.1 := by decide +kernel
theorem t_Pa_ok : ∀ k, k < 7 → parseFieldDescriptor (T_Pa k).2.2.1 = some (t_Pa k) := by decide +kernel
theorem i_Pa : ∀ w ∈ u_ws R_Pa T_Pa 7, w ∈ zT := z_ms [233, 235, 237, 239, 241, 243, 245] (by decide +kernel) (by decide +kernel)
def R_Pt : String := "StreamForge$Pattern"
def T_Pt : u_T := fun k => match k with
  | 0 => ("StreamForge$Pattern", "atBeginning", "Z", false)
  | 1 => ("StreamForge$Pattern", "atEnd", "Z", false)
  | 2 => ("StreamForge$Pattern", "from", "I", false)
  | 3 => ("StreamForge$Pattern", "to", "I", false)
  | 4 => ("StreamForge$Pattern", "firstStar", "I", false)
  | 5 => ("StreamForge$Pattern", "secondStar", "I", false)
  | _ => ("StreamForge$Pattern", "groups", "I", false)
def t_Pt : Nat → FieldType := fun k => match k with
  | 0 => .boolean
  | 1 => .boolean
  | 2 => .int
  | 3 => .int
  | 4 => .int
  | 5 => .int
  | _ => .int
theorem n_Pt : ∀ a, a < 7 → ∀ b, b < 7 → a ≠ b → (T_Pt a).2.1 ≠ (T_Pt b).2.1 := by decide +kernel
theorem t_Pt_ok : ∀ k, k < 7 → parseFieldDescriptor (T_Pt k).2.2.1 = some (t_Pt k) := by decide +kernel
theorem i_Pt : ∀ w ∈ u_ws R_Pt T_Pt 7, w ∈ zT := z_ms [423, 425, 427, 429, 431, 433, 435] (by decide +kernel) (by decide +kernel)
def R_Pr : String := "StreamForge$PatternReader"
def T_Pr : u_T := fun k => match k with
  | 0 => ("StreamForge$PatternReader", "cursor", "LStreamForge$Cursor;", true)
  | 1 => ("StreamForge$PatternReader", "items", "LStreamForge$Items;", false)
  | 2 => ("StreamForge$PatternReader", "pattern", "LStreamForge$Pattern;", false)
  | 3 => ("StreamForge$PatternReader", "itemCount", "I", false)
  | 4 => ("StreamForge$PatternReader", "starCount", "I", false)
  | 5 => ("StreamForge$PatternReader", "groupOpen", "Z", false)
  | _ => ("StreamForge$PatternReader", "repeatable", "Z", false)
def t_Pr : Nat → FieldType := fun k => match k with
  | 0 => .object "StreamForge$Cursor"
  | 1 => .object "StreamForge$Items"
  | 2 => .object "StreamForge$Pattern"
  | 3 => .int
  | 4 => .int
  | 5 => .boolean
  | _ => .boolean
theorem n_Pr : ∀ a, a < 7 → ∀ b, b < 7 → a ≠ b → (T_Pr a).2.1 ≠ (T_Pr b).2.1 := by decide +kernel
theorem t_Pr_ok : ∀ k, k < 7 → parseFieldDescriptor (T_Pr k).2.2.1 = some (t_Pr k) := by decide +kernel
theorem i_Pr : ∀ w ∈ u_ws R_Pr T_Pr 7, w ∈ zT := z_ms [211, 213, 215, 217, 219, 221, 223] (by decide +kernel) (by decide +kernel)
def R_Prog : String := "StreamForge$Program"
def T_Prog : u_T := fun k => match k with
  | 0 => ("StreamForge$Program", "text", "LStreamForge$Row;", true)
  | 1 => ("StreamForge$Program", "items", "LStreamForge$Items;", true)
  | 2 => ("StreamForge$Program", "commands", "[LStreamForge$Command;", true)
  | _ => ("StreamForge$Program", "size", "I", false)
def t_Prog : Nat → FieldType := fun k => match k with
  | 0 => .object "StreamForge$Row"
  | 1 => .object "StreamForge$Items"
  | 2 => .array (.object "StreamForge$Command")
  | _ => .int
theorem n_Prog : ∀ a, a < 4 → ∀ b, b < 4 → a ≠ b → (T_Prog a).2.1 ≠ (T_Prog b).2.1 := by decide +kernel
theorem t_Prog_ok : ∀ k, k < 4 → parseFieldDescriptor (T_Prog k).2.2.1 = some (t_Prog k) := by decide +kernel
theorem i_Prog : ∀ w ∈ u_ws R_Prog T_Prog 4, w ∈ zT := z_ms [540, 542, 544, 546] (by decide +kernel) (by decide +kernel)
def R_Row : String := "StreamForge$Row"
def T_Row : u_T := fun k => match k with
  | 0 => ("StreamForge$Row", "chars", "[C", true)
  | _ => ("StreamForge$Row", "length", "I", false)
def t_Row : Nat → FieldType := fun k => match k with
  | 0 => .array (.char)
  | _ => .int
theorem n_Row : ∀ a, a < 2 → ∀ b, b < 2 → a ≠ b → (T_Row a).2.1 ≠ (T_Row b).2.1 := by decide +kernel
theorem t_Row_ok : ∀ k, k < 2 → parseFieldDescriptor (T_Row k).2.2.1 = some (t_Row k) := by decide +kernel
theorem i_Row : ∀ w ∈ u_ws R_Row T_Row 2, w ∈ zT := z_ms [165, 167] (by decide +kernel) (by decide +kernel)
def R_SF : String := "StreamForge"
def T_SF : u_T := fun k => match k with
  | 0 => ("StreamForge", "script", "LStreamForge$Row;", true)
  | 1 => ("StreamForge", "lines", "[LStreamForge$Row;", true)
  | 2 => ("StreamForge", "parser", "LStreamForge$Parser;", true)
  | 3 => ("StreamForge", "editor", "LStreamForge$Editor;", true)
  | 4 => ("StreamForge", "matcher", "LStreamForge$Matcher;", true)
  | 5 => ("StreamForge", "lineCount", "I", false)
  | 6 => ("StreamForge", "program", "LStreamForge$Program;", false)
  | 7 => ("StreamForge", "spare", "LStreamForge$Program;", false)
  | 8 => ("StreamForge", "parsed", "Z", false)
  | _ => ("StreamForge", "refusedAt", "I", false)
def t_SF : Nat → FieldType := fun k => match k with
  | 0 => .object "StreamForge$Row"
  | 1 => .array (.object "StreamForge$Row")
  | 2 => .object "StreamForge$Parser"
  | 3 => .object "StreamForge$Editor"
  | 4 => .object "StreamForge$Matcher"
  | 5 => .int
  | 6 => .object "StreamForge$Program"
  | 7 => .object "StreamForge$Program"
  | 8 => .boolean
  | _ => .int
theorem n_SF : ∀ a, a < 10 → ∀ b, b < 10 → a ≠ b → (T_SF a).2.1 ≠ (T_SF b).2.1 := by decide +kernel
theorem t_SF_ok : ∀ k, k < 10 → parseFieldDescriptor (T_SF k).2.2.1 = some (t_SF k) := by decide +kernel
theorem i_SF : ∀ w ∈ u_ws R_SF T_SF 10, w ∈ zT := z_ms [559, 561, 563, 565, 567, 569, 571, 573, 575, 577] (by decide +kernel) (by decide +kernel)
def R_Mod : String := "StreamForgeModel"
def T_Mod : u_T := fun k => match k with
  | 0 => ("StreamForgeModel", "text", "[I", true)
  | 1 => ("StreamForgeModel", "lineLength", "[I", true)
  | 2 => ("StreamForgeModel", "lines", "[I", true)
  | 3 => ("StreamForgeModel", "length", "I", false)
  | 4 => ("StreamForgeModel", "lineMany", "I", false)
  | 5 => ("StreamForgeModel", "where", "I", false)
  | 6 => ("StreamForgeModel", "thrown", "I", false)
  | 7 => ("StreamForgeModel", "live", "I", false)
  | 8 => ("StreamForgeModel", "parsed", "Z", false)
  | 9 => ("StreamForgeModel", "name", "[I", true)
  | 10 => ("StreamForgeModel", "one", "[I", true)
  | 11 => ("StreamForgeModel", "oneValue", "[I", true)
  | 12 => ("StreamForgeModel", "two", "[I", true)
  | 13 => ("StreamForgeModel", "twoValue", "[I", true)
  | 14 => ("StreamForgeModel", "pattern", "[I", true)
  | 15 => ("StreamForgeModel", "from", "[I", true)
  | 16 => ("StreamForgeModel", "to", "[I", true)
  | 17 => ("StreamForgeModel", "more", "[I", true)
  | 18 => ("StreamForgeModel", "goal", "[I", true)
  | 19 => ("StreamForgeModel", "which", "[I", true)
  | 20 => ("StreamForgeModel", "placeOf", "[I", true)
  | 21 => ("StreamForgeModel", "not", "[Z", true)
  | 22 => ("StreamForgeModel", "all", "[Z", true)
  | 23 => ("StreamForgeModel", "tells", "[Z", true)
  | 24 => ("StreamForgeModel", "commands", "[I", true)
  | 25 => ("StreamForgeModel", "patterns", "[I", true)
  | 26 => ("StreamForgeModel", "items", "[I", true)
  | 27 => ("StreamForgeModel", "chars", "[I", true)
  | 28 => ("StreamForgeModel", "itemFrom", "[I", true)
  | 29 => ("StreamForgeModel", "itemEnd", "[I", true)
  | 30 => ("StreamForgeModel", "groups", "[I", true)
  | 31 => ("StreamForgeModel", "item", "[I", true)
  | 32 => ("StreamForgeModel", "value", "[I", true)
  | 33 => ("StreamForgeModel", "store", "[I", true)
  | 34 => ("StreamForgeModel", "starred", "[Z", true)
  | 35 => ("StreamForgeModel", "atBegin", "[Z", true)
  | 36 => ("StreamForgeModel", "atEnd", "[Z", true)
  | 37 => ("StreamForgeModel", "low", "[J", true)
  | 38 => ("StreamForgeModel", "high", "[J", true)
  | 39 => ("StreamForgeModel", "labels", "[I", true)
  | 40 => ("StreamForgeModel", "open", "[I", true)
  | 41 => ("StreamForgeModel", "at", "I", false)
  | 42 => ("StreamForgeModel", "half", "I", false)
  | 43 => ("StreamForgeModel", "deep", "I", false)
  | 44 => ("StreamForgeModel", "group", "I", false)
  | 45 => ("StreamForgeModel", "stars", "I", false)
  | 46 => ("StreamForgeModel", "counted", "I", false)
  | 47 => ("StreamForgeModel", "number", "I", false)
  | 48 => ("StreamForgeModel", "bad", "Z", false)
  | 49 => ("StreamForgeModel", "inGroup", "Z", false)
  | 50 => ("StreamForgeModel", "may", "Z", false)
  | 51 => ("StreamForgeModel", "subject", "[I", true)
  | 52 => ("StreamForgeModel", "groupFrom", "[I", true)
  | 53 => ("StreamForgeModel", "groupLong", "[I", true)
  | 54 => ("StreamForgeModel", "subjectLong", "I", false)
  | 55 => ("StreamForgeModel", "stuck", "I", false)
  | 56 => ("StreamForgeModel", "foundAt", "I", false)
  | 57 => ("StreamForgeModel", "foundEnd", "I", false)
  | 58 => ("StreamForgeModel", "space", "[I", true)
  | 59 => ("StreamForgeModel", "hold", "[I", true)
  | 60 => ("StreamForgeModel", "work", "[I", true)
  | 61 => ("StreamForgeModel", "appended", "[I", true)
  | 62 => ("StreamForgeModel", "out", "[I", true)
  | 63 => ("StreamForgeModel", "began", "[I", true)
  | 64 => ("StreamForgeModel", "active", "[Z", true)
  | 65 => ("StreamForgeModel", "spaceLong", "I", false)
  | 66 => ("StreamForgeModel", "holdLong", "I", false)
  | 67 => ("StreamForgeModel", "workLong", "I", false)
  | 68 => ("StreamForgeModel", "appendedLong", "I", false)
  | 69 => ("StreamForgeModel", "outLong", "I", false)
  | 70 => ("StreamForgeModel", "read", "I", false)
  | 71 => ("StreamForgeModel", "begun", "I", false)
  | 72 => ("StreamForgeModel", "cycles", "I", false)
  | 73 => ("StreamForgeModel", "replaced", "I", false)
  | 74 => ("StreamForgeModel", "some", "Z", false)
  | 75 => ("StreamForgeModel", "ended", "Z", false)
  | _ => ("StreamForgeModel", "over", "Z", false)
def t_Mod : Nat → FieldType := fun k => match k with
  | 0 => .array (.int)
  | 1 => .array (.int)
  | 2 => .array (.int)
  | 3 => .int
  | 4 => .int
  | 5 => .int
  | 6 => .int
  | 7 => .int
  | 8 => .boolean
  | 9 => .array (.int)
  | 10 => .array (.int)
  | 11 => .array (.int)
  | 12 => .array (.int)
  | 13 => .array (.int)
  | 14 => .array (.int)
  | 15 => .array (.int)
  | 16 => .array (.int)
  | 17 => .array (.int)
  | 18 => .array (.int)
  | 19 => .array (.int)
  | 20 => .array (.int)
  | 21 => .array (.boolean)
  | 22 => .array (.boolean)
  | 23 => .array (.boolean)
  | 24 => .array (.int)
  | 25 => .array (.int)
  | 26 => .array (.int)
  | 27 => .array (.int)
  | 28 => .array (.int)
  | 29 => .array (.int)
  | 30 => .array (.int)
  | 31 => .array (.int)
  | 32 => .array (.int)
  | 33 => .array (.int)
  | 34 => .array (.boolean)
  | 35 => .array (.boolean)
  | 36 => .array (.boolean)
  | 37 => .array (.long)
  | 38 => .array (.long)
  | 39 => .array (.int)
  | 40 => .array (.int)
  | 41 => .int
  | 42 => .int
  | 43 => .int
  | 44 => .int
  | 45 => .int
  | 46 => .int
  | 47 => .int
  | 48 => .boolean
  | 49 => .boolean
  | 50 => .boolean
  | 51 => .array (.int)
  | 52 => .array (.int)
  | 53 => .array (.int)
  | 54 => .int
  | 55 => .int
  | 56 => .int
  | 57 => .int
  | 58 => .array (.int)
  | 59 => .array (.int)
  | 60 => .array (.int)
  | 61 => .array (.int)
  | 62 => .array (.int)
  | 63 => .array (.int)
  | 64 => .array (.boolean)
  | 65 => .int
  | 66 => .int
  | 67 => .int
  | 68 => .int
  | 69 => .int
  | 70 => .int
  | 71 => .int
  | 72 => .int
  | 73 => .int
  | 74 => .boolean
  | 75 => .boolean
  | _ => .boolean
theorem n_Mod : ∀ a, a < 77 → ∀ b, b < 77 → a ≠ b → (T_Mod a).2.1 ≠ (T_Mod b).2.1 := by decide +kernel
theorem t_Mod_ok : ∀ k, k < 77 → parseFieldDescriptor (T_Mod k).2.2.1 = some (t_Mod k) := by decide +kernel
theorem i_Mod : ∀ w ∈ u_ws R_Mod T_Mod 77, w ∈ zT := z_ms [1254, 1256, 1258, 1260, 1262, 1264, 1266, 1268, 1270, 1272, 1274, 1276, 1278, 1280, 1282, 1284, 1286, 1288, 1290, 1292, 1294, 1296, 1298, 1300, 1302, 1304, 1306, 1308, 1310, 1312, 1314, 1316, 1318, 1320, 1322, 1324, 1326, 1328, 1330, 1332, 1334, 1336, 1338, 1340, 1342, 1344, 1346, 1348, 1350, 1352, 1354, 1356, 1358, 1360, 1362, 1364, 1366, 1368, 1370, 1372, 1374, 1376, 1378, 1380, 1382, 1384, 1386, 1388, 1390, 1392, 1394, 1396, 1398, 1400, 1402, 1404, 1406] (by decide +kernel) (by decide +kernel)
abbrev zcl : List vw_C := [(R_Addr, T_Addr, 3), (R_Cmd, T_Cmd, 16), (R_Cur, T_Cur, 3), (R_Ed, T_Ed, 17), (R_It, T_It, 5), (R_Ma, T_Ma, 9), (R_Pa, T_Pa, 7), (R_Pt, T_Pt, 7), (R_Pr, T_Pr, 7), (R_Prog, T_Prog, 4), (R_Row, T_Row, 2), (R_SF, T_SF, 10), (R_Mod, T_Mod, 77)]
abbrev z_ty (dA : Nat → ClassId) : List (ClassId × FieldType) := [(dA 0, .int), (dA 1, .char), (dA 2, .long), (dA 3, .boolean), (dA 4, .object "StreamForge$Row"), (dA 5, .object "StreamForge$Command")]
end
section
/-! abstract heaps: an address holds an array (its type's number, its contents) or an object (its class's number, its fields) -/
abbrev z_E : Type := (Nat × vp_A) ⊕ (Nat × List Value)
abbrev z_H : Type := Nat → Option z_E
def z_cv (dA : Nat → ClassId) (e : Option z_E) : va_E := match e with
  | some (.inl a) => .inl (dA a.1, a.2)
  | some (.inr o) => .inr o
  | none => .inl (0, (0, .inl fun _ => 0))
def z_up (h : z_H) (a : Nat) (e : z_E) : z_H := fun q => if q = a then some e else h q
def z_b {α β : Type} (o : Option α) (f : α → Option β) : Option β := match o with
  | some x => f x
  | none => none
theorem z_bs {α β : Type} {o : Option α} {f : α → Option β} {r : β} (h : z_b o f = some r) : ∃ x, o = some x ∧ f x = some r := by
  cases o with
  | none => cases h
  | some x => exact ⟨x, rfl, h⟩
theorem z_b_some {α β : Type} (x : α) (f : α → Option β) : z_b (some x) f = f x := rfl
def zB (x : Int32) : Option Int32 := if x = 0 ∨ x = 1 then some x else none
theorem zB_s {x y : Int32} (h : zB x = some y) : x = y ∧ (x = 0 ∨ x = 1) := by
  unfold zB at h
  split at h
  · next q => exact ⟨Option.some.inj h, q⟩
  · cases h
/-- fields -/
def gF (h : z_H) (a ci k : Nat) : Option Value := match h a with
  | some (.inr o) => if o.1 = ci then o.2[k]? else none
  | _ => none
def gI (h : z_H) (a ci k : Nat) : Option Int32 := match gF h a ci k with
  | some (.int x) => some x
  | _ => none
def gR (h : z_H) (a ci k : Nat) : Option Nat := match gF h a ci k with
  | some (.ref x) => some x
  | _ => none
def sF (h : z_H) (a ci k : Nat) (v : Value) : Option z_H := match h a with
  | some (.inr o) => if o.1 = ci ∧ k < o.2.length then some (z_up h a (.inr (ci, o.2.set k v))) else none
  | _ => none
theorem gF_s {h : z_H} {a ci k : Nat} {v : Value} (e : gF h a ci k = some v) : ∃ fs, h a = some (.inr (ci, fs)) ∧ fs[k]? = some v := by
  unfold gF at e
  split at e
  · next o ho =>
    split at e
    · next q => exact ⟨o.2, by rw [ho, ← q], e⟩
    · cases e
  · cases e
theorem gI_s {h : z_H} {a ci k : Nat} {x : Int32} (e : gI h a ci k = some x) : ∃ fs, h a = some (.inr (ci, fs)) ∧ fs[k]? = some (.int x) := by
  unfold gI at e
  split at e
  · next y hy => cases e; exact gF_s hy
  · cases e
theorem gR_s {h : z_H} {a ci k : Nat} {x : Nat} (e : gR h a ci k = some x) : ∃ fs, h a = some (.inr (ci, fs)) ∧ fs[k]? = some (.ref x) := by
  unfold gR at e
  split at e
  · next y hy => cases e; exact gF_s hy
  · cases e
theorem sF_s {h h' : z_H} {a ci k : Nat} {v : Value} (e : sF h a ci k v = some h') : ∃ fs, h a = some (.inr (ci, fs)) ∧ k < fs.length ∧ h' = z_up h a (.inr (ci, fs.set k v)) := by
  unfold sF at e
  split at e
  · next o ho =>
    split at e
    · next q => cases e; exact ⟨o.2, by rw [ho, ← q.1], q.2, rfl⟩
    · cases e
  · cases e
/-- arrays -/
def aN (h : z_H) (a : Nat) : Option Int32 := match h a with
  | some (.inl x) => if x.1 < 6 then some (Int32.ofNat x.2.1) else none
  | _ => none
def aI (h : z_H) (a t : Nat) (i : Int32) : Option Int32 := match h a with
  | some (.inl (t', n, .inl f)) => if t' = t ∧ ¬ (i < 0 ∨ n ≤ i.toNatClampNeg) then some (f i.toNatClampNeg) else none
  | _ => none
def aL (h : z_H) (a : Nat) (i : Int32) : Option Int64 := match h a with
  | some (.inl (t', n, .inr (.inl f))) => if t' = 2 ∧ ¬ (i < 0 ∨ n ≤ i.toNatClampNeg) then some (f i.toNatClampNeg) else none
  | _ => none
def aR (h : z_H) (a t : Nat) (i : Int32) : Option Nat := match h a with
  | some (.inl (t', n, .inr (.inr (.inr (.inr f))))) => if t' = t ∧ ¬ (i < 0 ∨ n ≤ i.toNatClampNeg) then f i.toNatClampNeg else none
  | _ => none
def uI (h : z_H) (a t : Nat) (i x : Int32) : Option z_H := match h a with
  | some (.inl (t', n, .inl f)) => if t' = t ∧ ¬ (i < 0 ∨ n ≤ i.toNatClampNeg) then some (z_up h a (.inl (t, n, .inl (upd f i.toNatClampNeg x)))) else none
  | _ => none
def uL (h : z_H) (a : Nat) (i : Int32) (x : Int64) : Option z_H := match h a with
  | some (.inl (t', n, .inr (.inl f))) => if t' = 2 ∧ ¬ (i < 0 ∨ n ≤ i.toNatClampNeg) then some (z_up h a (.inl (2, n, .inr (.inl (vp_updL f i.toNatClampNeg x))))) else none
  | _ => none
theorem aN_s {h : z_H} {a : Nat} {r : Int32} (e : aN h a = some r) : ∃ x : Nat × vp_A, h a = some (.inl x) ∧ x.1 < 6 ∧ r = Int32.ofNat x.2.1 := by
  unfold aN at e
  split at e
  · next x hx =>
    split at e
    · next q => cases e; exact ⟨x, hx, q, rfl⟩
    · cases e
  · cases e
theorem aI_s {h : z_H} {a t : Nat} {i x : Int32} (e : aI h a t i = some x) : ∃ n f, h a = some (.inl (t, n, .inl f)) ∧ vp_in i n ∧ x = f i.toNatClampNeg := by
  unfold aI at e
  split at e
  · next t' n f hx =>
    split at e
    · next q => cases e; exact ⟨n, f, by rw [hx, q.1], q.2, rfl⟩
    · cases e
  · cases e
theorem aL_s {h : z_H} {a : Nat} {i : Int32} {x : Int64} (e : aL h a i = some x) : ∃ n f, h a = some (.inl (2, n, .inr (.inl f))) ∧ vp_in i n ∧ x = f i.toNatClampNeg := by
  unfold aL at e
  split at e
  · next t' n f hx =>
    split at e
    · next q => cases e; exact ⟨n, f, by rw [hx, q.1], q.2, rfl⟩
    · cases e
  · cases e
theorem aR_s {h : z_H} {a t : Nat} {i : Int32} {x : Nat} (e : aR h a t i = some x) : ∃ n f, h a = some (.inl (t, n, .inr (.inr (.inr (.inr f))))) ∧ vp_in i n ∧ f i.toNatClampNeg = some x := by
  unfold aR at e
  split at e
  · next t' n f hx =>
    split at e
    · next q => exact ⟨n, f, by rw [hx, q.1], q.2, e⟩
    · cases e
  · cases e
theorem uI_s {h h' : z_H} {a t : Nat} {i x : Int32} (e : uI h a t i x = some h') : ∃ n f, h a = some (.inl (t, n, .inl f)) ∧ vp_in i n ∧ h' = z_up h a (.inl (t, n, .inl (upd f i.toNatClampNeg x))) := by
  unfold uI at e
  split at e
  · next t' n f hx =>
    split at e
    · next q => cases e; exact ⟨n, f, by rw [hx, q.1], q.2, rfl⟩
    · cases e
  · cases e
theorem uL_s {h h' : z_H} {a : Nat} {i : Int32} {x : Int64} (e : uL h a i x = some h') : ∃ n f, h a = some (.inl (2, n, .inr (.inl f))) ∧ vp_in i n ∧ h' = z_up h a (.inl (2, n, .inr (.inl (vp_updL f i.toNatClampNeg x)))) := by
  unfold uL at e
  split at e
  · next t' n f hx =>
    split at e
    · next q => cases e; exact ⟨n, f, by rw [hx, q.1], q.2, rfl⟩
    · cases e
  · cases e
/-! the machine's heap holds an abstract one -/
abbrev z_wl (dA : Nat → ClassId) (L : List Nat) (h : z_H) : va_W := va_pl L (fun a => z_cv dA (h a))
def z_V (D : va_G) (dA : Nat → ClassId) (B : Nat) (h : z_H) (H : Heap) : Prop := ∃ L : List Nat, va_P D zcl (z_wl dA L h) H ∧ va_D (fun q => B ≤ q) (z_wl dA L h) ∧ ∀ a : Nat, (h a).isSome = true → a ∈ L
def z_I (D : va_G) (dA : Nat → ClassId) (B : Nat) (h : z_H) (H0 H : Heap) (locs : List Loc) : Prop := z_V D dA B h H ∧ va_S (fun q => B ≤ q) H0 H locs
def z_G (D : va_G) (dA : Nat → ClassId) (B : Nat) (h : z_H) (U : State) : Prop := z_V D dA B h U.heap ∧ va_K D zcl (z_ty dA) U ∧ B ≤ U.heap.size
theorem z_V.rd {D : va_G} {dA : Nat → ClassId} {B : Nat} {h : z_H} {H : Heap} {a : Nat} {e : z_E} (hI : z_V D dA B h H) (he : h a = some e) :
    ∃ (ws : va_W) (q0 : Nat), va_P D zcl ws H ∧ va_D (fun q => B ≤ q) ws ∧ ws[q0]? = some (a, z_cv dA (some e)) ∧ (∀ (e1 : z_E) (H1 : Heap), va_P D zcl (ws.set q0 (a, z_cv dA (some e1))) H1 → va_D (fun q => B ≤ q) (ws.set q0 (a, z_cv dA (some e1))) → z_V D dA B (z_up h a e1) H1) := by
  obtain ⟨L, hP, hD, hL⟩ := hI
  have ha : a ∈ L := hL a (by rw [he]; rfl)
  obtain ⟨q0, hq⟩ := va_pl_get (X := []) (f := fun a => z_cv dA (h a)) ha
  have hq' : (z_wl dA L h)[q0]? = some (a, z_cv dA (some e)) := by
    rw [← he]
    exact hq
  refine ⟨z_wl dA L h, q0, hP, hD, hq', fun e1 H1 p1 d1 => ?_⟩
  have hs : (z_wl dA L h).set q0 (a, z_cv dA (some e1)) = z_wl dA L (z_up h a e1) := by
    have h9 := va_pl_set (A := fun q => B ≤ q) (X := []) (f := fun a => z_cv dA (h a)) (e := z_cv dA (some e1)) hD ha hq
    refine (show (z_wl dA L h).set q0 (a, z_cv dA (some e1)) = va_pl L (va_up (fun a => z_cv dA (h a)) a (z_cv dA (some e1))) from h9).trans ?_
    refine va_pl_congr (fun q => ?_)
    unfold va_up z_up
    by_cases hqa : q = a
    · simp [hqa]
    · simp [hqa]
  rw [hs] at p1 d1
  refine ⟨L, p1, d1, fun q hq9 => ?_⟩
  by_cases hqa : q = a
  · rw [hqa]; exact ha
  · refine hL q ?_
    unfold z_up at hq9
    rw [if_neg hqa] at hq9
    exact hq9
theorem z_I.rd {D : va_G} {dA : Nat → ClassId} {B : Nat} {h : z_H} {H0 H : Heap} {locs : List Loc} {a : Nat} {e : z_E} (hI : z_I D dA B h H0 H locs) (he : h a = some e) :
    ∃ (ws : va_W) (q0 : Nat), va_P D zcl ws H ∧ va_D (fun q => B ≤ q) ws ∧ va_S (fun q => B ≤ q) H0 H locs ∧ ws[q0]? = some (a, z_cv dA (some e)) ∧ (∀ (e1 : z_E) (H1 : Heap) (locs1 : List Loc), va_P D zcl (ws.set q0 (a, z_cv dA (some e1))) H1 → va_D (fun q => B ≤ q) (ws.set q0 (a, z_cv dA (some e1))) → va_S (fun q => B ≤ q) H0 H1 locs1 → z_I D dA B (z_up h a e1) H0 H1 locs1) := by
  obtain ⟨ws, q0, hP, hD, hq, hu⟩ := hI.1.rd he
  exact ⟨ws, q0, hP, hD, hI.2, hq, fun e1 H1 l1 p1 d1 s1 => ⟨hu e1 H1 p1 d1, s1⟩⟩
/-- a method's surroundings -/
def z_ws (y : MethodName) (cc : ByteArray) (n : Nat) (ret : Option FieldType) : List Cond := .code y cc n ret :: zT
def z_X (p : Program) (s : State) (m : MethodId) (args : Array Value) (meth : Method) (c : Code) (cc : ByteArray) (nL : Nat) (ret : Option FieldType) (Ts : List Cond) (own : String) (D : va_G) (dA : Nat → ClassId) (B : Nat) : Prop :=
  CallFix p m c cc nL s args Ts own ∧ (∀ w ∈ zT, w ∈ Ts) ∧ va_K D zcl (z_ty dA) s ∧ B ≤ s.heap.size ∧ meth.locks = false ∧ meth.sig.returnType = ret
section ZC
variable {p : Program} {l : Launch} {e : Env} {R : Room} {s : State} {m : MethodId} {args : Array Value} {below : List Frame} {meth : Method} {c : Code} {H : Heap} {locs : List Loc} {cells slots : Nat} {Q : State → Prop}
variable {cc : ByteArray} {pc nL : Nat} {ret : Option FieldType} {ls : Array Slot} {rest : List Value} {Ts : List Cond} {own : String} {D : va_G} {dA : Nat → ClassId} {B a : Nat} {h : z_H} {H0 : Heap}
theorem z_hx (X : z_X p s m args meth c cc nL ret Ts own D dA B) : p.tables.exec = Jvm.exec := X.1.1
theorem z_hb (X : z_X p s m args meth c cc nL ret Ts own D dA B) : c.code = cc := X.1.2.1
theorem z_w (X : z_X p s m args meth c cc nL ret Ts own D dA B) {w : Cond} (h : w ∈ zT) : w.before args s = true := X.1.2.2.2.2 w (X.2.1 w h)
theorem z_getF (X : z_X p s m args meth c cc nL ret Ts own D dA B) (hI : z_I D dA B h H0 H locs) {ci k N index : Nat} {C : String} {T : u_T} {v : Value} (hv : ∃ fs, h a = some (.inr (ci, fs)) ∧ fs[k]? = some v) (hin : ∀ w ∈ u_ws C T N, w ∈ zT) (hc : zcl[ci]? = some (C, T, N)) (hk : k < N) (hl : Cond.fieldLink own index (T k).1 (T k).2.1 (T k).2.2.1 ∈ zT) (hdg : decode cc pc = .ok (.getfield index, 3))
    (kk : W p l e R s m args below meth c H locs cells slots Q (F0 m (pc + 3) ls (v :: rest))) : W p l e R s m args below meth c H locs cells slots Q (F0 m pc ls (.ref a :: rest)) := by
  obtain ⟨fs, he, hf⟩ := hv
  obtain ⟨ws, q0, hP, hD, hS, hq, -⟩ := hI.rd he
  exact va_get (z_hx X) (z_hb X) (Ts := Ts) X.1.2.2.2.2 (fun w hw => X.2.1 w (hin w hw)) X.1.2.2.2.1 X.2.2.1 hP q0 hq hc k hk (z_w X hl) (fun _ h9 => h9) hf hdg kk
theorem z_putF (X : z_X p s m args meth c cc nL ret Ts own D dA B) (hI : z_I D dA B h H0 H locs) {ci k N index : Nat} {C : String} {T : u_T} {ty0 : Nat → FieldType} {v : Value} {h1 : z_H} (hv : sF h a ci k v = some h1) (hin : ∀ w ∈ u_ws C T N, w ∈ zT) (hty : ∀ k, k < N → parseFieldDescriptor (T k).2.2.1 = some (ty0 k)) (hnm : ∀ a, a < N → ∀ b, b < N → a ≠ b → (T a).2.1 ≠ (T b).2.1) (hc : zcl[ci]? = some (C, T, N)) (hk : k < N) (hl : Cond.fieldLink own index (T k).1 (T k).2.1 (T k).2.2.1 ∈ zT) (hfin : (T k).2.2.2 = false) (hn : narrow (ty0 k) v = v) (hfit : fits (ty0 k) v = true) (hdg : decode cc pc = .ok (.putfield index, 3))
    (kk : ∀ (H1 : Heap) (locs1 : List Loc), z_I D dA B h1 H0 H1 locs1 → W p l e R s m args below meth c H1 locs1 cells slots Q (F0 m (pc + 3) ls rest)) : W p l e R s m args below meth c H locs cells slots Q (F0 m pc ls (v :: .ref a :: rest)) := by
  obtain ⟨fs, he, hkl, rfl⟩ := sF_s hv
  obtain ⟨ws, q0, hP, hD, hS, hq, hu⟩ := hI.rd he
  exact va_put (z_hx X) (z_hb X) (Ts := Ts) X.1.2.2.2.2 (fun w hw => X.2.1 w (hin w hw)) ty0 hty hnm X.1.2.2.2.1 X.2.2.1 hP hD hS q0 hq hc k hk (z_w X hl) (fun _ h9 => h9) hfin (hty k hk) hn hfit hkl hdg (fun H1 l1 p1 d1 s1 => kk H1 l1 (hu (.inr (ci, fs.set k v)) H1 l1 p1 d1 s1))
theorem z_alen (X : z_X p s m args meth c cc nL ret Ts own D dA B) (hI : z_I D dA B h H0 H locs) {x : Int32} (hv : aN h a = some x) (hdg : decode cc pc = .ok (.arraylength, 1))
    (kk : W p l e R s m args below meth c H locs cells slots Q (F0 m (pc + 1) ls (.int x :: rest))) : W p l e R s m args below meth c H locs cells slots Q (F0 m pc ls (.ref a :: rest)) := by
  obtain ⟨⟨t, y⟩, he, ht, rfl⟩ := aN_s hv
  obtain ⟨ws, q0, hP, hD, hS, hq, -⟩ := hI.rd he
  have h6 : ∃ ty, (z_ty dA)[t]? = some (dA t, ty) := by
    have ht : t < 6 := ht
    match t, ht with
    | 0, _ => exact ⟨_, rfl⟩
    | 1, _ => exact ⟨_, rfl⟩
    | 2, _ => exact ⟨_, rfl⟩
    | 3, _ => exact ⟨_, rfl⟩
    | 4, _ => exact ⟨_, rfl⟩
    | 5, _ => exact ⟨_, rfl⟩
  obtain ⟨ty, h7⟩ := h6
  exact va_alen (z_hx X) (z_hb X) X.2.2.1 hP q0 t hq h7 rfl hdg kk
theorem z_iald (X : z_X p s m args meth c cc nL ret Ts own D dA B) (hI : z_I D dA B h H0 H locs) {i x : Int32} (hv : aI h a 0 i = some x) (hdg : decode cc pc = .ok (.iaload, 1))
    (kk : W p l e R s m args below meth c H locs cells slots Q (F0 m (pc + 1) ls (.int x :: rest))) : W p l e R s m args below meth c H locs cells slots Q (F0 m pc ls (.int i :: .ref a :: rest)) := by
  obtain ⟨n, f, he, hin, rfl⟩ := aI_s hv
  obtain ⟨ws, q0, hP, hD, hS, hq, -⟩ := hI.rd he
  exact va_iald (z_hx X) (z_hb X) X.2.2.1 hP q0 0 hq rfl hin hdg kk
theorem z_cald (X : z_X p s m args meth c cc nL ret Ts own D dA B) (hI : z_I D dA B h H0 H locs) {i x : Int32} (hv : aI h a 1 i = some x) (hdg : decode cc pc = .ok (.caload, 1))
    (kk : W p l e R s m args below meth c H locs cells slots Q (F0 m (pc + 1) ls (.int x :: rest))) : W p l e R s m args below meth c H locs cells slots Q (F0 m pc ls (.int i :: .ref a :: rest)) := by
  obtain ⟨n, f, he, hin, rfl⟩ := aI_s hv
  obtain ⟨ws, q0, hP, hD, hS, hq, -⟩ := hI.rd he
  exact va_cald (z_hx X) (z_hb X) X.2.2.1 hP q0 1 hq rfl hin hdg kk
theorem z_zald (X : z_X p s m args meth c cc nL ret Ts own D dA B) (hI : z_I D dA B h H0 H locs) {i x : Int32} (hv : aI h a 3 i = some x) (hdg : decode cc pc = .ok (.baload, 1))
    (kk : W p l e R s m args below meth c H locs cells slots Q (F0 m (pc + 1) ls (.int x :: rest))) : W p l e R s m args below meth c H locs cells slots Q (F0 m pc ls (.int i :: .ref a :: rest)) := by
  obtain ⟨n, f, he, hin, rfl⟩ := aI_s hv
  obtain ⟨ws, q0, hP, hD, hS, hq, -⟩ := hI.rd he
  exact va_zald (z_hx X) (z_hb X) X.2.2.1 hP q0 3 hq rfl hin hdg kk
theorem z_lald (X : z_X p s m args meth c cc nL ret Ts own D dA B) (hI : z_I D dA B h H0 H locs) {i : Int32} {x : Int64} (hv : aL h a i = some x) (hdg : decode cc pc = .ok (.laload, 1))
    (kk : W p l e R s m args below meth c H locs cells slots Q (F0 m (pc + 1) ls (.long x :: rest))) : W p l e R s m args below meth c H locs cells slots Q (F0 m pc ls (.int i :: .ref a :: rest)) := by
  obtain ⟨n, f, he, hin, rfl⟩ := aL_s hv
  obtain ⟨ws, q0, hP, hD, hS, hq, -⟩ := hI.rd he
  exact va_lald (z_hx X) (z_hb X) X.2.2.1 hP q0 2 hq rfl hin hdg kk
theorem z_aald4 (X : z_X p s m args meth c cc nL ret Ts own D dA B) (hI : z_I D dA B h H0 H locs) {i : Int32} {x : Nat} (hv : aR h a 4 i = some x) (hdg : decode cc pc = .ok (.aaload, 1))
    (kk : W p l e R s m args below meth c H locs cells slots Q (F0 m (pc + 1) ls (.ref x :: rest))) : W p l e R s m args below meth c H locs cells slots Q (F0 m pc ls (.int i :: .ref a :: rest)) := by
  obtain ⟨n, f, he, hin, hx⟩ := aR_s hv
  obtain ⟨ws, q0, hP, hD, hS, hq, -⟩ := hI.rd he
  refine va_aldq (z_hx X) (z_hb X) X.2.2.1 hP q0 4 hq rfl hin hdg ?_
  rw [hx]
  exact kk
theorem z_aald5 (X : z_X p s m args meth c cc nL ret Ts own D dA B) (hI : z_I D dA B h H0 H locs) {i : Int32} {x : Nat} (hv : aR h a 5 i = some x) (hdg : decode cc pc = .ok (.aaload, 1))
    (kk : W p l e R s m args below meth c H locs cells slots Q (F0 m (pc + 1) ls (.ref x :: rest))) : W p l e R s m args below meth c H locs cells slots Q (F0 m pc ls (.int i :: .ref a :: rest)) := by
  obtain ⟨n, f, he, hin, hx⟩ := aR_s hv
  obtain ⟨ws, q0, hP, hD, hS, hq, -⟩ := hI.rd he
  refine va_aldq (z_hx X) (z_hb X) X.2.2.1 hP q0 5 hq rfl hin hdg ?_
  rw [hx]
  exact kk
theorem z_iast (X : z_X p s m args meth c cc nL ret Ts own D dA B) (hI : z_I D dA B h H0 H locs) {i x : Int32} {h1 : z_H} (hv : uI h a 0 i x = some h1) (hdg : decode cc pc = .ok (.iastore, 1))
    (kk : ∀ (H1 : Heap) (locs1 : List Loc), z_I D dA B h1 H0 H1 locs1 → W p l e R s m args below meth c H1 locs1 cells slots Q (F0 m (pc + 1) ls rest)) : W p l e R s m args below meth c H locs cells slots Q (F0 m pc ls (.int x :: .int i :: .ref a :: rest)) := by
  obtain ⟨n, f, he, hin, rfl⟩ := uI_s hv
  obtain ⟨ws, q0, hP, hD, hS, hq, hu⟩ := hI.rd he
  exact va_iast (z_hx X) (z_hb X) X.2.2.1 hP hD hS q0 0 hq rfl hin hdg (fun H1 l1 p1 d1 s1 => kk H1 l1 (hu _ H1 l1 p1 d1 s1))
theorem z_cast (X : z_X p s m args meth c cc nL ret Ts own D dA B) (hI : z_I D dA B h H0 H locs) {i x : Int32} {h1 : z_H} (hv : uI h a 1 i (vp_nar .char x) = some h1) (hdg : decode cc pc = .ok (.castore, 1))
    (kk : ∀ (H1 : Heap) (locs1 : List Loc), z_I D dA B h1 H0 H1 locs1 → W p l e R s m args below meth c H1 locs1 cells slots Q (F0 m (pc + 1) ls rest)) : W p l e R s m args below meth c H locs cells slots Q (F0 m pc ls (.int x :: .int i :: .ref a :: rest)) := by
  obtain ⟨n, f, he, hin, rfl⟩ := uI_s hv
  obtain ⟨ws, q0, hP, hD, hS, hq, hu⟩ := hI.rd he
  exact va_cast (z_hx X) (z_hb X) X.2.2.1 hP hD hS q0 1 hq rfl hin hdg (fun H1 l1 p1 d1 s1 => kk H1 l1 (hu _ H1 l1 p1 d1 s1))
theorem z_zast (X : z_X p s m args meth c cc nL ret Ts own D dA B) (hI : z_I D dA B h H0 H locs) {i x : Int32} {h1 : z_H} (hv : uI h a 3 i (vp_nar .boolean x) = some h1) (hdg : decode cc pc = .ok (.bastore, 1))
    (kk : ∀ (H1 : Heap) (locs1 : List Loc), z_I D dA B h1 H0 H1 locs1 → W p l e R s m args below meth c H1 locs1 cells slots Q (F0 m (pc + 1) ls rest)) : W p l e R s m args below meth c H locs cells slots Q (F0 m pc ls (.int x :: .int i :: .ref a :: rest)) := by
  obtain ⟨n, f, he, hin, rfl⟩ := uI_s hv
  obtain ⟨ws, q0, hP, hD, hS, hq, hu⟩ := hI.rd he
  exact va_zast (z_hx X) (z_hb X) X.2.2.1 hP hD hS q0 3 hq rfl hin hdg (fun H1 l1 p1 d1 s1 => kk H1 l1 (hu _ H1 l1 p1 d1 s1))
theorem z_last (X : z_X p s m args meth c cc nL ret Ts own D dA B) (hI : z_I D dA B h H0 H locs) {i : Int32} {x : Int64} {h1 : z_H} (hv : uL h a i x = some h1) (hdg : decode cc pc = .ok (.lastore, 1))
    (kk : ∀ (H1 : Heap) (locs1 : List Loc), z_I D dA B h1 H0 H1 locs1 → W p l e R s m args below meth c H1 locs1 cells slots Q (F0 m (pc + 1) ls rest)) : W p l e R s m args below meth c H locs cells slots Q (F0 m pc ls (.long x :: .int i :: .ref a :: rest)) := by
  obtain ⟨n, f, he, hin, rfl⟩ := uL_s hv
  obtain ⟨ws, q0, hP, hD, hS, hq, hu⟩ := hI.rd he
  exact va_last (z_hx X) (z_hb X) X.2.2.1 hP hD hS q0 2 hq rfl hin hdg (fun H1 l1 p1 d1 s1 => kk H1 l1 (hu _ H1 l1 p1 d1 s1))
theorem z_topi {x y : Int32} (h : x = y) (k : W p l e R s m args below meth c H locs cells slots Q (F0 m pc ls (.int y :: rest))) : W p l e R s m args below meth c H locs cells slots Q (F0 m pc ls (.int x :: rest)) := by
  rw [h]; exact k
theorem z_topl {x y : Int64} (h : x = y) (k : W p l e R s m args below meth c H locs cells slots Q (F0 m pc ls (.long y :: rest))) : W p l e R s m args below meth c H locs cells slots Q (F0 m pc ls (.long x :: rest)) := by
  rw [h]; exact k
theorem z_topr {x y : Nat} (h : x = y) (k : W p l e R s m args below meth c H locs cells slots Q (F0 m pc ls (.ref y :: rest))) : W p l e R s m args below meth c H locs cells slots Q (F0 m pc ls (.ref x :: rest)) := by
  rw [h]; exact k
theorem zB_s2 {x y : Int32} (h : zB x = some y) : y = 0 ∨ y = 1 := by
  obtain ⟨h1, h2⟩ := zB_s h
  rw [← h1]; exact h2
theorem z_nb {x y : Int32} (h : zB x = some y) : narrow .boolean (.int y) = .int y := by
  rcases zB_s2 h with e | e <;> rw [e] <;> rfl
theorem z_ne {x y : Int32} {k : Int} (h : ¬ x = y) (hk : y.toInt = k) : ¬ x.toInt = k := fun e => h (Int32.toInt_inj.mp (e.trans hk.symm))
theorem z_tabD (hexec : p.tables.exec = Jvm.exec) (hb : c.code = cc) {dflt lo hi : Int} {offs : Array Int} {len : Nat} {x : Int32} {tgt : Nat} {ks : List Int} (hdg : decode cc pc = .ok (.tableswitch dflt lo hi offs, len)) (hsz : hi = lo + (offs.size : Int) - 1) (hall : ∀ k : Nat, k < offs.size → (lo + (k : Int)) ∈ ks ∨ offs[k]? = some dflt) (hn : ∀ k ∈ ks, ¬ x.toInt = k) (ht : (pc : Int) + dflt = (tgt : Int))
    (k : W p l e R s m args below meth c H locs cells slots Q (F0 m tgt ls rest)) : W p l e R s m args below meth c H locs cells slots Q (F0 m pc ls (.int x :: rest)) := by
  by_cases h : x.toInt < lo ∨ hi < x.toInt
  · exact lv_tableOut hexec hb hdg h ht k
  · have h1 : ¬ x.toInt < lo := fun q => h (Or.inl q)
    have h2 : ¬ hi < x.toInt := fun q => h (Or.inr q)
    have e1 : lo + (((x.toInt - lo).toNat : Nat) : Int) = x.toInt := by omega
    rcases hall (x.toInt - lo).toNat (by omega) with h3 | h3
    · rw [e1] at h3
      exact absurd rfl (hn _ h3)
    · exact lv_tableIn hexec hb hdg h1 h2 h3 ht k
theorem z_lokD (hexec : p.tables.exec = Jvm.exec) (hb : c.code = cc) {dflt : Int} {ps : Array (Int × Int)} {len : Nat} {x : Int32} {tgt : Nat} {ks : List Int} (hdg : decode cc pc = .ok (.lookupswitch dflt ps, len)) (hp : (ps.toList.zip (ps.toList.drop 1)).all (fun (a, next) => a.1 < next.1) = true) (hall : ∀ q ∈ ps.toList, q.1 ∈ ks) (hn : ∀ k ∈ ks, ¬ x.toInt = k) (ht : (pc : Int) + dflt = (tgt : Int))
    (k : W p l e R s m args below meth c H locs cells slots Q (F0 m tgt ls rest)) : W p l e R s m args below meth c H locs cells slots Q (F0 m pc ls (.int x :: rest)) := by
  refine lv_lookup hexec hb hdg hp ?_ ht k
  generalize ps.toList = L at hall
  clear hdg hp
  induction L with
  | nil => rfl
  | cons q L ih =>
    obtain ⟨a, o⟩ := q
    rw [lookupswitch.offset_cons, if_neg (fun e => hn a (hall (a, o) List.mem_cons_self) e.symm)]
    exact ih (fun q hq => hall q (List.mem_cons_of_mem _ hq))
end ZC
end
section
/-! contracts that return: from an abstract heap to another, nothing is made -/
def z_P (D : va_G) (dA : Nat → ClassId) (B : Nat) (av : List Value) (h : z_H) : Array Value → State → Prop := fun v U => v = av.toArray ∧ z_G D dA B h U
def z_Q (D : va_G) (dA : Nat → ClassId) (B : Nat) (r : Option Value) (h' : z_H) : Array Value → State → Outcome → State → Prop := fun _ st oc t => oc = .returned r ∧ z_G D dA B h' t ∧ va_F (fun q => B ≤ q) st t
abbrev z_rm (fr lo : Nat) : Room := { frames := fr, cells := 0, slots := 0, locals := lo }
def z_Met (l : Launch) (y : MethodName) (cc : ByteArray) (nL : Nat) (ret : Option FieldType) (fr lo : Nat) (D : va_G) (dA : Nat → ClassId) (B : Nat) (av : List Value) (h : z_H) (r : Option Value) (h' : z_H) : Prop :=
  Met l y (z_ws y cc nL ret) (z_rm fr lo) (z_P D dA B av h) (z_Q D dA B r h') 0 0 (fun q => B ≤ q)
theorem z_G.blind {D : va_G} {dA : Nat → ClassId} {B : Nat} {av : List Value} {h : z_H} : FrameBlind (z_P D dA B av h) := by
  intro a U g mk hq
  obtain ⟨q0, qV, qK, qB⟩ := hq
  exact ⟨q0, qV, va_K.moved (u := U) (U := U.calling g mk a) (Vm.Alike.refl U.vm) qK, qB⟩
/-- what the tables say of a method that is called on an object; of a static one -/
def z_yV (y : MethodName) (cy : ByteArray) (ny : Nat) (ry : Option FieldType) (n : Nat) : Prop :=
  Cond.instanceMethod y ∈ zT ∧ Cond.selects y.cls y y ∈ zT ∧ Cond.initialized y.cls ∈ zT ∧ Cond.code y cy ny ry ∈ zT ∧ y.cls ≠ "java/lang/invoke/MethodHandle" ∧ y.cls ≠ "java/lang/invoke/VarHandle" ∧ (parseMethodDescriptor y.desc).map (fun d => d.parameters.length) = some n
def z_yS (y : MethodName) (cy : ByteArray) (ny : Nat) (ry : Option FieldType) (n : Nat) : Prop :=
  Cond.static y ∈ zT ∧ Cond.initialized y.cls ∈ zT ∧ Cond.code y cy ny ry ∈ zT ∧ y.cls ≠ "java/lang/invoke/MethodHandle" ∧ y.cls ≠ "java/lang/invoke/VarHandle" ∧ (parseMethodDescriptor y.desc).map (fun d => d.parameters.length) = some n
def gO (h : z_H) (a ci : Nat) : Option Unit := match h a with
  | some (.inr o) => if o.1 = ci then some () else none
  | _ => none
theorem gO_s {h : z_H} {a ci : Nat} {u : Unit} (e : gO h a ci = some u) : ∃ fs, h a = some (.inr (ci, fs)) := by
  unfold gO at e
  split at e
  · next o ho =>
    split at e
    · next q => exact ⟨o.2, by rw [ho, ← q]⟩
    · cases e
  · cases e
theorem z_all {y : MethodName} {cc : ByteArray} {n : Nat} {ret : Option FieldType} (w : Cond.code y cc n ret ∈ zT) : ∀ x ∈ z_ws y cc n ret, x ∈ zT := fun x hx => (List.mem_cons.mp hx).elim (fun e => by rw [e]; exact w) id
section ZD
variable {p : Program} {l : Launch} {e : Env} {R : Room} {s : State} {m : MethodId} {args : Array Value} {below : List Frame} {meth : Method} {c : Code} {H : Heap} {locs : List Loc} {cells slots : Nat} {Q : State → Prop}
variable {cc cy : ByteArray} {pc nL ny index n fr lo : Nat} {ret ry : Option FieldType} {ls : Array Slot} {rest st0 : List Value} {Ts : List Cond} {own : String} {D : va_G} {dA : Nat → ClassId} {B b : Nat} {h h' : z_H} {y : MethodName} {As : List Value} {r : Option Value}
theorem z_good2 (X : z_X p s m args meth c cc nL ret Ts own D dA B) {ws : List Cond} (hw : ∀ x ∈ ws, x ∈ zT) : GoodIn Ts ws := fun x hx => ⟨X.2.1 x (hw x hx), z_good (hw x hx)⟩
/-- the world behind a call that returned -/
theorem z_run {mc ms : Nat} {a : Array Value} (X : z_X p s m args meth c cc nL ret Ts own D dA B) (hI : z_I D dA B h s.heap H locs) (hr : va_Run p l e R s m args below meth c H locs cells slots mc ms (F0 m pc ls st0) rest (z_Q D dA B r h' a) (fun q => B ≤ q))
    (kk : ∀ (H1 : Heap) (locs1 : List Loc), z_I D dA B h' s.heap H1 locs1 → W p l e R s m args below meth c H1 locs1 (cells + mc) (slots + ms) Q (F0 m (pc + 3) ls (r.toList ++ rest))) : W p l e R s m args below meth c H locs cells slots Q (F0 m pc ls st0) := by
  intro T hT Y
  obtain ⟨v, st₀, t, T', L, h0, Y', hL, e1, e2, ⟨hv, hG, hz, hk⟩, st⟩ := hr T hT Y
  cases hv
  rw [h0] at hz hk
  obtain ⟨hV, hS1, hS2, hS3⟩ := hI
  obtain ⟨t2, a1, b1⟩ := kk T'.heap (locs ++ L) ⟨by rw [e1]; exact hG.1, Nat.le_trans hS1 (by rw [e1]; exact hz), fun q hq hn => by
    rw [e1, hk q (Nat.lt_of_lt_of_le hq hS1) hn]; exact hS2 q hq hn, fun x hx => by
    rcases List.mem_append.mp hx with h9 | h9
    · exact hS3 x h9
    · exact hL x h9⟩ T' rfl Y'
  exact ⟨t2, st t2 a1, b1⟩
theorem z_pre (X : z_X p s m args meth c cc nL ret Ts own D dA B) (hI : z_I D dA B h s.heap H locs) (av : List Value) : ∀ U : State, U.heap = H → s.WarmedH U.vm → z_P D dA B av h av.toArray U := by
  intro U hU hW
  refine ⟨rfl, by rw [hU]; exact hI.1, va_K.moved hW.alike X.2.2.1, ?_⟩
  rw [hU]
  exact Nat.le_trans X.2.2.2.1 hI.2.1
theorem z_callV (X : z_X p s m args meth c cc nL ret Ts own D dA B) (hI : z_I D dA B h s.heap H locs) {ci : Nat} {q : vw_C} {u : Unit} (hO : gO h b ci = some u) (hM : z_Met l y cy ny ry fr lo D dA B (.ref b :: As) h r h') (hc : zcl[ci]? = some q) (hq : q.1 = y.cls) (w1 : Cond.methodLink own index y ∈ zT) (w : z_yV y cy ny ry n) (hn : As.length = n) (hls : ls.size = nL) (hst : st0 = As.reverse ++ .ref b :: rest) (hro : (rest.map fun v => v.category).sum ≤ 8)
    (hR : fr + 1 ≤ R.frames ∧ 8 + (ny + 11) + lo ≤ R.locals) (hcs : cells ≤ R.cells ∧ slots ≤ R.slots) (hdg : decode cc pc = .ok (.invokevirtual index, 3))
    (kk : ∀ (H1 : Heap) (locs1 : List Loc), z_I D dA B h' s.heap H1 locs1 → W p l e R s m args below meth c H1 locs1 cells slots Q (F0 m (pc + 3) ls (r.toList ++ rest))) : W p l e R s m args below meth c H locs cells slots Q (F0 m pc ls st0) := by
  obtain ⟨w2, w3, w4, w5, w6⟩ := w
  obtain ⟨fs, he⟩ := gO_s hO
  obtain ⟨ws, q0, hP, hD, hS, hq0, -⟩ := hI.rd he
  have hre := va_recv X.2.2.1 hP hc hq0
  rw [hq] at hre
  have hT : GoodIn Ts (wsV own index y.cls y (z_ws y cy ny ry)) := z_good2 X (fun x hx => by
    rcases List.mem_append.mp hx with h9 | h9
    · simp only [List.mem_cons, List.not_mem_nil, or_false] at h9
      rcases h9 with h9 | h9 | h9 | h9
      · rw [h9]; exact w1
      · rw [h9]; exact w2
      · rw [h9]; exact w3
      · rw [h9]; exact w4
    · exact z_all w5 x h9)
  exact z_run X hI (va_runV (As := As) (rest := rest) X.1 hM (cwV n X.1.2.2.2.2 hT rfl rfl rfl ⟨rfl, w6⟩ hR) ⟨z_G.blind, hre, z_pre X hI _⟩ rfl hn hls hst (lv_room hro) hdg hcs) kk
theorem z_callS (X : z_X p s m args meth c cc nL ret Ts own D dA B) (hI : z_I D dA B h s.heap H locs) (hM : z_Met l y cy ny ry fr lo D dA B As h r h') (hq : y.cls = own) (w1 : Cond.methodLink own index y ∈ zT) (w : z_yS y cy ny ry n) (hn : As.length = n) (hls : ls.size = nL) (hst : st0 = As.reverse ++ rest) (hro : (rest.map fun v => v.category).sum ≤ 8)
    (hR : fr + 1 ≤ R.frames ∧ 8 + (ny + 11) + lo ≤ R.locals) (hcs : cells ≤ R.cells ∧ slots ≤ R.slots) (hdg : decode cc pc = .ok (.invokestatic index, 3))
    (kk : ∀ (H1 : Heap) (locs1 : List Loc), z_I D dA B h' s.heap H1 locs1 → W p l e R s m args below meth c H1 locs1 cells slots Q (F0 m (pc + 3) ls (r.toList ++ rest))) : W p l e R s m args below meth c H locs cells slots Q (F0 m pc ls st0) := by
  obtain ⟨w2, w4, w5, w6⟩ := w
  have hT : GoodIn Ts (wsS own index y (z_ws y cy ny ry)) := z_good2 X (fun x hx => by
    rcases List.mem_append.mp hx with h9 | h9
    · simp only [List.mem_cons, List.not_mem_nil, or_false] at h9
      rcases h9 with h9 | h9 | h9
      · rw [h9]; exact w1
      · rw [h9]; exact w2
      · rw [h9, ← hq]; exact w4
    · exact z_all w5 x h9)
  exact z_run X hI (va_runS (As := As) (rest := rest) X.1 hM (cwS n X.1.2.2.2.2 hT rfl rfl rfl ⟨hq, w6⟩ hR) ⟨z_G.blind, z_pre X hI _⟩ rfl hn hls hst (lv_room hro) hdg hcs) kk
/-- ends -/
theorem z_end (X : z_X p s m args meth c cc nL ret Ts own D dA B) (hI : z_I D dA B h s.heap H locs) : ∀ t : State, t.heap = H → s.WarmedH t.vm → z_Q D dA B r h args s (.returned r) t := fun t ht hW =>
  ⟨rfl, ⟨by rw [ht]; exact hI.1, va_K.moved hW.alike X.2.2.1, by rw [ht]; exact Nat.le_trans X.2.2.2.1 hI.2.1⟩, hI.2.F ht⟩
theorem z_iret {x : Int32} (X : z_X p s m args meth c cc nL (some .int) Ts own D dA B) (hI : z_I D dA B h s.heap H locs) (hdg : decode cc pc = .ok (.ireturn, 1)) : W p l e R s m args below meth c H locs cells slots (MQ below (z_Q D dA B (some (.int x)) h) args s cells slots (fun q => B ≤ q)) (F0 m pc ls [.int x]) :=
  W.iret (z_hx X) (z_hb X) X.2.2.2.2.2 (z_end X hI) hI.2.2.2 hdg X.2.2.2.2.1
theorem z_zret {x : Int32} (X : z_X p s m args meth c cc nL (some .boolean) Ts own D dA B) (hI : z_I D dA B h s.heap H locs) (hx : x = 0 ∨ x = 1) (hdg : decode cc pc = .ok (.ireturn, 1)) : W p l e R s m args below meth c H locs cells slots (MQ below (z_Q D dA B (some (.int x)) h) args s cells slots (fun q => B ≤ q)) (F0 m pc ls [.int x]) :=
  W.zret (z_hx X) (z_hb X) X.2.2.2.2.2 (by rcases hx with rfl | rfl <;> rfl) (z_end X hI) hI.2.2.2 hdg X.2.2.2.2.1
theorem z_vret (X : z_X p s m args meth c cc nL none Ts own D dA B) (hI : z_I D dA B h s.heap H locs) (hdg : decode cc pc = .ok (.return_, 1)) : W p l e R s m args below meth c H locs cells slots (MQ below (z_Q D dA B none h) args s cells slots (fun q => B ≤ q)) (F0 m pc ls []) :=
  W.vret (z_hx X) (z_hb X) X.2.2.2.2.2 (z_end X hI) hI.2.2.2 hdg X.2.2.2.2.1
/-- a body's beginning -/
theorem z_of {av : List Value} (hy : plainName y.cls = true) (hlen : (lg_sl av).length ≤ ny)
    (body : ∀ (p : Program) (e : Env) (s : State) (m : MethodId) (below : List Frame) (meth : Method) (c : Code) (ls : Array Slot), z_X p s m av.toArray meth c cy ny ry (z_ws y cy ny ry) y.cls D dA B → z_I D dA B h s.heap s.heap [] → lv_has ls ny (lv_args 0 av) →
      W p l e (z_rm fr lo) s m av.toArray below meth c s.heap [] 0 0 (MQ below (z_Q D dA B r h') av.toArray s 0 0 (fun q => B ≤ q)) (F0 m 0 ls [])) : z_Met l y cy ny ry fr lo D dA B av h r h' := by
  refine Met.ofW (cc := cy) (maxL := ny) (ret := ry) hy rfl ?_
  intro p e s m args below meth c s₁ Bd hml hv
  obtain ⟨rfl, hV, hK, hB⟩ := hv
  have hl := lv_entry av (n := ny) hlen
  rw [lg_entry_eq]
  exact body p e s m below meth c _ ⟨⟨Bd.exec, Bd.bytes, hml, findClass_of_methodNamed Bd.named, atoms_spec (ws := z_ws y cy ny ry) Bd.pre⟩, fun w hw => List.mem_cons_of_mem _ hw, hK, hB, Bd.notSynchronized, Bd.returns⟩ ⟨hV, va_S.rf⟩ hl
end ZD
end
section
theorem nc1_Addr : ("StreamForge$Address" : String) ≠ "java/lang/invoke/MethodHandle" := by decide +kernel
theorem nc2_Addr : ("StreamForge$Address" : String) ≠ "java/lang/invoke/VarHandle" := by decide +kernel
theorem nc1_Cmd : ("StreamForge$Command" : String) ≠ "java/lang/invoke/MethodHandle" := by decide +kernel
theorem nc2_Cmd : ("StreamForge$Command" : String) ≠ "java/lang/invoke/VarHandle" := by decide +kernel
theorem nc1_Cur : ("StreamForge$Cursor" : String) ≠ "java/lang/invoke/MethodHandle" := by decide +kernel
theorem nc2_Cur : ("StreamForge$Cursor" : String) ≠ "java/lang/invoke/VarHandle" := by decide +kernel
theorem nc1_Ed : ("StreamForge$Editor" : String) ≠ "java/lang/invoke/MethodHandle" := by decide +kernel
theorem nc2_Ed : ("StreamForge$Editor" : String) ≠ "java/lang/invoke/VarHandle" := by decide +kernel
theorem nc1_It : ("StreamForge$Items" : String) ≠ "java/lang/invoke/MethodHandle" := by decide +kernel
theorem nc2_It : ("StreamForge$Items" : String) ≠ "java/lang/invoke/VarHandle" := by decide +kernel
theorem nc1_Ma : ("StreamForge$Matcher" : String) ≠ "java/lang/invoke/MethodHandle" := by decide +kernel
theorem nc2_Ma : ("StreamForge$Matcher" : String) ≠ "java/lang/invoke/VarHandle" := by decide +kernel
theorem nc1_Pa : ("StreamForge$Parser" : String) ≠ "java/lang/invoke/MethodHandle" := by decide +kernel
theorem nc2_Pa : ("StreamForge$Parser" : String) ≠ "java/lang/invoke/VarHandle" := by decide +kernel
theorem nc1_Pt : ("StreamForge$Pattern" : String) ≠ "java/lang/invoke/MethodHandle" := by decide +kernel
theorem nc2_Pt : ("StreamForge$Pattern" : String) ≠ "java/lang/invoke/VarHandle" := by decide +kernel
theorem nc1_Pr : ("StreamForge$PatternReader" : String) ≠ "java/lang/invoke/MethodHandle" := by decide +kernel
theorem nc2_Pr : ("StreamForge$PatternReader" : String) ≠ "java/lang/invoke/VarHandle" := by decide +kernel
theorem nc1_Prog : ("StreamForge$Program" : String) ≠ "java/lang/invoke/MethodHandle" := by decide +kernel
theorem nc2_Prog : ("StreamForge$Program" : String) ≠ "java/lang/invoke/VarHandle" := by decide +kernel
theorem nc1_Row : ("StreamForge$Row" : String) ≠ "java/lang/invoke/MethodHandle" := by decide +kernel
theorem nc2_Row : ("StreamForge$Row" : String) ≠ "java/lang/invoke/VarHandle" := by decide +kernel
theorem nc1_SF : ("StreamForge" : String) ≠ "java/lang/invoke/MethodHandle" := by decide +kernel
theorem nc2_SF : ("StreamForge" : String) ≠ "java/lang/invoke/VarHandle" := by decide +kernel
theorem nc1_Mod : ("StreamForgeModel" : String) ≠ "java/lang/invoke/MethodHandle" := by decide +kernel
theorem nc2_Mod : ("StreamForgeModel" : String) ≠ "java/lang/invoke/VarHandle" := by decide +kernel
theorem nc1_Law : ("StreamForgeLaw" : String) ≠ "java/lang/invoke/MethodHandle" := by decide +kernel
theorem nc2_Law : ("StreamForgeLaw" : String) ≠ "java/lang/invoke/VarHandle" := by decide +kernel
def y_SF_init : MethodName := ⟨"StreamForge", "<init>", "()V"⟩
def y_SF_script : MethodName := ⟨"StreamForge", "script", "(J)I"⟩
set_option maxRecDepth 100000 in
theorem yi_SF_script : z_yV y_SF_script prog_1_method_2_code 3 (some .int) 1 := ⟨z_m 590 rfl rfl, z_m 591 rfl rfl, z_m 120 rfl rfl, z_m 592 rfl rfl, nc1_SF, nc2_SF, by decide +kernel⟩
def y_SF_clear : MethodName := ⟨"StreamForge", "clear", "(I)I"⟩
set_option maxRecDepth 100000 in
theorem yi_SF_clear : z_yV y_SF_clear prog_1_method_3_code 3 (some .int) 1 := ⟨z_m 696 rfl rfl, z_m 697 rfl rfl, z_m 120 rfl rfl, z_m 698 rfl rfl, nc1_SF, nc2_SF, by decide +kernel⟩
def y_SF_parse : MethodName := ⟨"StreamForge", "parse", "()I"⟩
set_option maxRecDepth 100000 in
theorem yi_SF_parse : z_yV y_SF_parse prog_1_method_4_code 2 (some .int) 0 := ⟨z_m 707 rfl rfl, z_m 708 rfl rfl, z_m 120 rfl rfl, z_m 709 rfl rfl, nc1_SF, nc2_SF, by decide +kernel⟩
def y_SF_where : MethodName := ⟨"StreamForge", "where", "()I"⟩
set_option maxRecDepth 100000 in
theorem yi_SF_where : z_yV y_SF_where prog_1_method_5_code 1 (some .int) 0 := ⟨z_m 581 rfl rfl, z_m 582 rfl rfl, z_m 120 rfl rfl, z_m 583 rfl rfl, nc1_SF, nc2_SF, by decide +kernel⟩
def y_SF_line : MethodName := ⟨"StreamForge", "line", "(JJ)I"⟩
set_option maxRecDepth 100000 in
theorem yi_SF_line : z_yV y_SF_line prog_1_method_6_code 6 (some .int) 2 := ⟨z_m 917 rfl rfl, z_m 918 rfl rfl, z_m 120 rfl rfl, z_m 919 rfl rfl, nc1_SF, nc2_SF, by decide +kernel⟩
def y_SF_more : MethodName := ⟨"StreamForge", "more", "(J)I"⟩
set_option maxRecDepth 100000 in
theorem yi_SF_more : z_yV y_SF_more prog_1_method_7_code 4 (some .int) 1 := ⟨z_m 924 rfl rfl, z_m 925 rfl rfl, z_m 120 rfl rfl, z_m 926 rfl rfl, nc1_SF, nc2_SF, by decide +kernel⟩
def y_SF_run : MethodName := ⟨"StreamForge", "run", "()I"⟩
set_option maxRecDepth 100000 in
theorem yi_SF_run : z_yV y_SF_run prog_1_method_8_code 1 (some .int) 0 := ⟨z_m 933 rfl rfl, z_m 934 rfl rfl, z_m 120 rfl rfl, z_m 935 rfl rfl, nc1_SF, nc2_SF, by decide +kernel⟩
def y_SF_out : MethodName := ⟨"StreamForge", "out", "(I)I"⟩
set_option maxRecDepth 100000 in
theorem yi_SF_out : z_yV y_SF_out prog_1_method_9_code 3 (some .int) 1 := ⟨z_m 1139 rfl rfl, z_m 1140 rfl rfl, z_m 120 rfl rfl, z_m 1141 rfl rfl, nc1_SF, nc2_SF, by decide +kernel⟩
def y_SF_ran : MethodName := ⟨"StreamForge", "ran", "(I)I"⟩
set_option maxRecDepth 100000 in
theorem yi_SF_ran : z_yV y_SF_ran prog_1_method_10_code 2 (some .int) 1 := ⟨z_m 1149 rfl rfl, z_m 1150 rfl rfl, z_m 120 rfl rfl, z_m 1151 rfl rfl, nc1_SF, nc2_SF, by decide +kernel⟩
def y_SF_match : MethodName := ⟨"StreamForge", "match", "(III)I"⟩
set_option maxRecDepth 100000 in
theorem yi_SF_match : z_yV y_SF_match prog_1_method_11_code 5 (some .int) 3 := ⟨z_m 1156 rfl rfl, z_m 1157 rfl rfl, z_m 120 rfl rfl, z_m 1158 rfl rfl, nc1_SF, nc2_SF, by decide +kernel⟩
def y_SF_count : MethodName := ⟨"StreamForge", "count", "(I)I"⟩
set_option maxRecDepth 100000 in
theorem yi_SF_count : z_yV y_SF_count prog_1_method_12_code 3 (some .int) 1 := ⟨z_m 1168 rfl rfl, z_m 1169 rfl rfl, z_m 120 rfl rfl, z_m 1170 rfl rfl, nc1_SF, nc2_SF, by decide +kernel⟩
def y_SF_byteOf : MethodName := ⟨"StreamForge", "byteOf", "(JI)I"⟩
set_option maxRecDepth 100000 in
theorem yi_SF_byteOf : z_yS y_SF_byteOf prog_1_method_13_code 3 (some .int) 2 := ⟨z_m 597 rfl rfl, z_m 120 rfl rfl, z_m 598 rfl rfl, nc1_SF, nc2_SF, by decide +kernel⟩
def y_SF_isText : MethodName := ⟨"StreamForge", "isText", "(JZ)Z"⟩
set_option maxRecDepth 100000 in
theorem yi_SF_isText : z_yS y_SF_isText prog_1_method_14_code 6 (some .boolean) 2 := ⟨z_m 594 rfl rfl, z_m 120 rfl rfl, z_m 595 rfl rfl, nc1_SF, nc2_SF, by decide +kernel⟩
def y_SF_textLength : MethodName := ⟨"StreamForge", "textLength", "(J)I"⟩
set_option maxRecDepth 100000 in
theorem yi_SF_textLength : z_yS y_SF_textLength prog_1_method_15_code 4 (some .int) 1 := ⟨z_m 664 rfl rfl, z_m 120 rfl rfl, z_m 665 rfl rfl, nc1_SF, nc2_SF, by decide +kernel⟩
def y_SF_addText : MethodName := ⟨"StreamForge", "addText", "(LStreamForge$Row;J)V"⟩
set_option maxRecDepth 100000 in
theorem yi_SF_addText : z_yS y_SF_addText prog_1_method_16_code 5 none 2 := ⟨z_m 686 rfl rfl, z_m 120 rfl rfl, z_m 687 rfl rfl, nc1_SF, nc2_SF, by decide +kernel⟩
def y_Mod_init : MethodName := ⟨"StreamForgeModel", "<init>", "()V"⟩
def y_Mod_thrown : MethodName := ⟨"StreamForgeModel", "thrown", "()I"⟩
set_option maxRecDepth 100000 in
theorem yi_Mod_thrown : z_yV y_Mod_thrown prog_14_method_2_code 1 (some .int) 0 := ⟨z_m 1411 rfl rfl, z_m 1412 rfl rfl, z_m 132 rfl rfl, z_m 1413 rfl rfl, nc1_Mod, nc2_Mod, by decide +kernel⟩
def y_Mod_in : MethodName := ⟨"StreamForgeModel", "in", "(III)Z"⟩
set_option maxRecDepth 100000 in
theorem yi_Mod_in : z_yS y_Mod_in prog_14_method_3_code 3 (some .boolean) 3 := ⟨z_m 1422 rfl rfl, z_m 132 rfl rfl, z_m 1423 rfl rfl, nc1_Mod, nc2_Mod, by decide +kernel⟩
def y_Mod_fail : MethodName := ⟨"StreamForgeModel", "fail", "(I)I"⟩
set_option maxRecDepth 100000 in
theorem yi_Mod_fail : z_yV y_Mod_fail prog_14_method_4_code 2 (some .int) 1 := ⟨z_m 1426 rfl rfl, z_m 67 rfl rfl, z_m 132 rfl rfl, z_m 1427 rfl rfl, nc1_Mod, nc2_Mod, by decide +kernel⟩
def y_Mod_measure : MethodName := ⟨"StreamForgeModel", "measure", "(JZ)I"⟩
set_option maxRecDepth 100000 in
theorem yi_Mod_measure : z_yS y_Mod_measure prog_14_method_5_code 6 (some .int) 2 := ⟨z_m 1419 rfl rfl, z_m 132 rfl rfl, z_m 1420 rfl rfl, nc1_Mod, nc2_Mod, by decide +kernel⟩
def y_Mod_script : MethodName := ⟨"StreamForgeModel", "script", "(J)I"⟩
set_option maxRecDepth 100000 in
theorem yi_Mod_script : z_yV y_Mod_script prog_14_method_6_code 6 (some .int) 1 := ⟨z_m 1415 rfl rfl, z_m 1416 rfl rfl, z_m 132 rfl rfl, z_m 1417 rfl rfl, nc1_Mod, nc2_Mod, by decide +kernel⟩
def y_Mod_clear : MethodName := ⟨"StreamForgeModel", "clear", "(I)I"⟩
set_option maxRecDepth 100000 in
theorem yi_Mod_clear : z_yV y_Mod_clear prog_14_method_7_code 3 (some .int) 1 := ⟨z_m 1429 rfl rfl, z_m 1430 rfl rfl, z_m 132 rfl rfl, z_m 1431 rfl rfl, nc1_Mod, nc2_Mod, by decide +kernel⟩
def y_Mod_addTo : MethodName := ⟨"StreamForgeModel", "addTo", "(IJ)V"⟩
set_option maxRecDepth 100000 in
theorem yi_Mod_addTo : z_yV y_Mod_addTo prog_14_method_8_code 6 none 2 := ⟨z_m 1438 rfl rfl, z_m 68 rfl rfl, z_m 132 rfl rfl, z_m 1439 rfl rfl, nc1_Mod, nc2_Mod, by decide +kernel⟩
def y_Mod_line : MethodName := ⟨"StreamForgeModel", "line", "(JJ)I"⟩
set_option maxRecDepth 100000 in
theorem yi_Mod_line : z_yV y_Mod_line prog_14_method_9_code 5 (some .int) 2 := ⟨z_m 1433 rfl rfl, z_m 1434 rfl rfl, z_m 132 rfl rfl, z_m 1435 rfl rfl, nc1_Mod, nc2_Mod, by decide +kernel⟩
def y_Mod_more : MethodName := ⟨"StreamForgeModel", "more", "(J)I"⟩
set_option maxRecDepth 100000 in
theorem yi_Mod_more : z_yV y_Mod_more prog_14_method_10_code 4 (some .int) 1 := ⟨z_m 1441 rfl rfl, z_m 1442 rfl rfl, z_m 132 rfl rfl, z_m 1443 rfl rfl, nc1_Mod, nc2_Mod, by decide +kernel⟩
def y_Mod_here : MethodName := ⟨"StreamForgeModel", "here", "()I"⟩
set_option maxRecDepth 100000 in
theorem yi_Mod_here : z_yV y_Mod_here prog_14_method_11_code 1 (some .int) 0 := ⟨z_m 1462 rfl rfl, z_m 72 rfl rfl, z_m 132 rfl rfl, z_m 1463 rfl rfl, nc1_Mod, nc2_Mod, by decide +kernel⟩
def y_Mod_behind : MethodName := ⟨"StreamForgeModel", "behind", "()I"⟩
set_option maxRecDepth 100000 in
theorem yi_Mod_behind : z_yV y_Mod_behind prog_14_method_12_code 1 (some .int) 0 := ⟨z_m 1470 rfl rfl, z_m 74 rfl rfl, z_m 132 rfl rfl, z_m 1471 rfl rfl, nc1_Mod, nc2_Mod, by decide +kernel⟩
def y_Mod_wrong : MethodName := ⟨"StreamForgeModel", "wrong", "(I)V"⟩
set_option maxRecDepth 100000 in
theorem yi_Mod_wrong : z_yV y_Mod_wrong prog_14_method_13_code 2 none 1 := ⟨z_m 1450 rfl rfl, z_m 69 rfl rfl, z_m 132 rfl rfl, z_m 1451 rfl rfl, nc1_Mod, nc2_Mod, by decide +kernel⟩
def y_Mod_expect : MethodName := ⟨"StreamForgeModel", "expect", "(I)V"⟩
set_option maxRecDepth 100000 in
theorem yi_Mod_expect : z_yV y_Mod_expect prog_14_method_14_code 2 none 1 := ⟨z_m 1519 rfl rfl, z_m 86 rfl rfl, z_m 132 rfl rfl, z_m 1520 rfl rfl, nc1_Mod, nc2_Mod, by decide +kernel⟩
def y_Mod_keep : MethodName := ⟨"StreamForgeModel", "keep", "(I)V"⟩
set_option maxRecDepth 100000 in
theorem yi_Mod_keep : z_yV y_Mod_keep prog_14_method_15_code 2 none 1 := ⟨z_m 1531 rfl rfl, z_m 89 rfl rfl, z_m 132 rfl rfl, z_m 1532 rfl rfl, nc1_Mod, nc2_Mod, by decide +kernel⟩
def y_Mod_stored : MethodName := ⟨"StreamForgeModel", "stored", "()I"⟩
set_option maxRecDepth 100000 in
theorem yi_Mod_stored : z_yV y_Mod_stored prog_14_method_16_code 1 (some .int) 0 := ⟨z_m 1527 rfl rfl, z_m 88 rfl rfl, z_m 132 rfl rfl, z_m 1528 rfl rfl, nc1_Mod, nc2_Mod, by decide +kernel⟩
def y_Mod_addItem : MethodName := ⟨"StreamForgeModel", "addItem", "(III)V"⟩
set_option maxRecDepth 100000 in
theorem yi_Mod_addItem : z_yV y_Mod_addItem prog_14_method_17_code 6 none 3 := ⟨z_m 1478 rfl rfl, z_m 76 rfl rfl, z_m 132 rfl rfl, z_m 1479 rfl rfl, nc1_Mod, nc2_Mod, by decide +kernel⟩
def y_Mod_escaped : MethodName := ⟨"StreamForgeModel", "escaped", "(I)V"⟩
set_option maxRecDepth 100000 in
theorem yi_Mod_escaped : z_yV y_Mod_escaped prog_14_method_18_code 3 none 1 := ⟨z_m 1474 rfl rfl, z_m 75 rfl rfl, z_m 132 rfl rfl, z_m 1475 rfl rfl, nc1_Mod, nc2_Mod, by decide +kernel⟩
def y_Mod_put : MethodName := ⟨"StreamForgeModel", "put", "(III)V"⟩
set_option maxRecDepth 100000 in
theorem yi_Mod_put : z_yV y_Mod_put prog_14_method_19_code 5 none 3 := ⟨z_m 1490 rfl rfl, z_m 79 rfl rfl, z_m 132 rfl rfl, z_m 1491 rfl rfl, nc1_Mod, nc2_Mod, by decide +kernel⟩
def y_Mod_isMember : MethodName := ⟨"StreamForgeModel", "isMember", "()Z"⟩
set_option maxRecDepth 100000 in
theorem yi_Mod_isMember : z_yV y_Mod_isMember prog_14_method_20_code 2 (some .boolean) 0 := ⟨z_m 1486 rfl rfl, z_m 78 rfl rfl, z_m 132 rfl rfl, z_m 1487 rfl rfl, nc1_Mod, nc2_Mod, by decide +kernel⟩
def y_Mod_set : MethodName := ⟨"StreamForgeModel", "set", "(I)V"⟩
set_option maxRecDepth 100000 in
theorem yi_Mod_set : z_yV y_Mod_set prog_14_method_21_code 8 none 1 := ⟨z_m 1482 rfl rfl, z_m 77 rfl rfl, z_m 132 rfl rfl, z_m 1483 rfl rfl, nc1_Mod, nc2_Mod, by decide +kernel⟩
def y_Mod_star : MethodName := ⟨"StreamForgeModel", "star", "()V"⟩
set_option maxRecDepth 100000 in
theorem yi_Mod_star : z_yV y_Mod_star prog_14_method_22_code 1 none 0 := ⟨z_m 1495 rfl rfl, z_m 80 rfl rfl, z_m 132 rfl rfl, z_m 1496 rfl rfl, nc1_Mod, nc2_Mod, by decide +kernel⟩
def y_Mod_readPattern : MethodName := ⟨"StreamForgeModel", "readPattern", "()I"⟩
set_option maxRecDepth 100000 in
theorem yi_Mod_readPattern : z_yV y_Mod_readPattern prog_14_method_23_code 3 (some .int) 0 := ⟨z_m 1466 rfl rfl, z_m 73 rfl rfl, z_m 132 rfl rfl, z_m 1467 rfl rfl, nc1_Mod, nc2_Mod, by decide +kernel⟩
def y_Mod_address : MethodName := ⟨"StreamForgeModel", "address", "()I"⟩
set_option maxRecDepth 100000 in
theorem yi_Mod_address : z_yV y_Mod_address prog_14_method_24_code 2 (some .int) 0 := ⟨z_m 1458 rfl rfl, z_m 71 rfl rfl, z_m 132 rfl rfl, z_m 1459 rfl rfl, nc1_Mod, nc2_Mod, by decide +kernel⟩
def y_Mod_blanks : MethodName := ⟨"StreamForgeModel", "blanks", "()V"⟩
set_option maxRecDepth 100000 in
theorem yi_Mod_blanks : z_yV y_Mod_blanks prog_14_method_25_code 1 none 0 := ⟨z_m 1499 rfl rfl, z_m 81 rfl rfl, z_m 132 rfl rfl, z_m 1500 rfl rfl, nc1_Mod, nc2_Mod, by decide +kernel⟩
def y_Mod_replacement : MethodName := ⟨"StreamForgeModel", "replacement", "(I)V"⟩
set_option maxRecDepth 100000 in
theorem yi_Mod_replacement : z_yV y_Mod_replacement prog_14_method_26_code 4 none 1 := ⟨z_m 1523 rfl rfl, z_m 87 rfl rfl, z_m 132 rfl rfl, z_m 1524 rfl rfl, nc1_Mod, nc2_Mod, by decide +kernel⟩
def y_Mod_substitute : MethodName := ⟨"StreamForgeModel", "substitute", "(I)V"⟩
set_option maxRecDepth 100000 in
theorem yi_Mod_substitute : z_yV y_Mod_substitute prog_14_method_27_code 4 none 1 := ⟨z_m 1515 rfl rfl, z_m 85 rfl rfl, z_m 132 rfl rfl, z_m 1516 rfl rfl, nc1_Mod, nc2_Mod, by decide +kernel⟩
def y_Mod_exchange : MethodName := ⟨"StreamForgeModel", "exchange", "(I)V"⟩
set_option maxRecDepth 100000 in
theorem yi_Mod_exchange : z_yV y_Mod_exchange prog_14_method_28_code 5 none 1 := ⟨z_m 1535 rfl rfl, z_m 90 rfl rfl, z_m 132 rfl rfl, z_m 1536 rfl rfl, nc1_Mod, nc2_Mod, by decide +kernel⟩
def y_Mod_readText : MethodName := ⟨"StreamForgeModel", "readText", "(I)V"⟩
set_option maxRecDepth 100000 in
theorem yi_Mod_readText : z_yV y_Mod_readText prog_14_method_29_code 2 none 1 := ⟨z_m 1539 rfl rfl, z_m 91 rfl rfl, z_m 132 rfl rfl, z_m 1540 rfl rfl, nc1_Mod, nc2_Mod, by decide +kernel⟩
def y_Mod_isPlain : MethodName := ⟨"StreamForgeModel", "isPlain", "(I)Z"⟩
set_option maxRecDepth 100000 in
theorem yi_Mod_isPlain : z_yS y_Mod_isPlain prog_14_method_30_code 1 (some .boolean) 1 := ⟨z_m 1542 rfl rfl, z_m 132 rfl rfl, z_m 1543 rfl rfl, nc1_Mod, nc2_Mod, by decide +kernel⟩
def y_Mod_closed : MethodName := ⟨"StreamForgeModel", "closed", "()V"⟩
set_option maxRecDepth 100000 in
theorem yi_Mod_closed : z_yV y_Mod_closed prog_14_method_31_code 2 none 0 := ⟨z_m 1507 rfl rfl, z_m 83 rfl rfl, z_m 132 rfl rfl, z_m 1508 rfl rfl, nc1_Mod, nc2_Mod, by decide +kernel⟩
def y_Mod_label : MethodName := ⟨"StreamForgeModel", "label", "(IZ)V"⟩
set_option maxRecDepth 100000 in
theorem yi_Mod_label : z_yV y_Mod_label prog_14_method_32_code 4 none 2 := ⟨z_m 1503 rfl rfl, z_m 82 rfl rfl, z_m 132 rfl rfl, z_m 1504 rfl rfl, nc1_Mod, nc2_Mod, by decide +kernel⟩
def y_Mod_branch : MethodName := ⟨"StreamForgeModel", "branch", "(I)V"⟩
set_option maxRecDepth 100000 in
theorem yi_Mod_branch : z_yV y_Mod_branch prog_14_method_33_code 2 none 1 := ⟨z_m 1511 rfl rfl, z_m 84 rfl rfl, z_m 132 rfl rfl, z_m 1512 rfl rfl, nc1_Mod, nc2_Mod, by decide +kernel⟩
def y_Mod_command : MethodName := ⟨"StreamForgeModel", "command", "()V"⟩
set_option maxRecDepth 100000 in
theorem yi_Mod_command : z_yV y_Mod_command prog_14_method_34_code 3 none 0 := ⟨z_m 1454 rfl rfl, z_m 70 rfl rfl, z_m 132 rfl rfl, z_m 1455 rfl rfl, nc1_Mod, nc2_Mod, by decide +kernel⟩
def y_Mod_goals : MethodName := ⟨"StreamForgeModel", "goals", "()V"⟩
set_option maxRecDepth 100000 in
theorem yi_Mod_goals : z_yV y_Mod_goals prog_14_method_35_code 3 none 0 := ⟨z_m 1546 rfl rfl, z_m 92 rfl rfl, z_m 132 rfl rfl, z_m 1547 rfl rfl, nc1_Mod, nc2_Mod, by decide +kernel⟩
def y_Mod_parse : MethodName := ⟨"StreamForgeModel", "parse", "()I"⟩
set_option maxRecDepth 100000 in
theorem yi_Mod_parse : z_yV y_Mod_parse prog_14_method_36_code 2 (some .int) 0 := ⟨z_m 1445 rfl rfl, z_m 1446 rfl rfl, z_m 132 rfl rfl, z_m 1447 rfl rfl, nc1_Mod, nc2_Mod, by decide +kernel⟩
def y_Mod_where : MethodName := ⟨"StreamForgeModel", "where", "()I"⟩
set_option maxRecDepth 100000 in
theorem yi_Mod_where : z_yV y_Mod_where prog_14_method_37_code 1 (some .int) 0 := ⟨z_m 1549 rfl rfl, z_m 1550 rfl rfl, z_m 132 rfl rfl, z_m 1551 rfl rfl, nc1_Mod, nc2_Mod, by decide +kernel⟩
def y_Mod_fits : MethodName := ⟨"StreamForgeModel", "fits", "(II)Z"⟩
set_option maxRecDepth 100000 in
theorem yi_Mod_fits : z_yV y_Mod_fits prog_14_method_38_code 3 (some .boolean) 2 := ⟨z_m 1574 rfl rfl, z_m 97 rfl rfl, z_m 132 rfl rfl, z_m 1575 rfl rfl, nc1_Mod, nc2_Mod, by decide +kernel⟩
def y_Mod_way : MethodName := ⟨"StreamForgeModel", "way", "(IIII)I"⟩
set_option maxRecDepth 100000 in
theorem yi_Mod_way : z_yV y_Mod_way prog_14_method_39_code 13 (some .int) 4 := ⟨z_m 1570 rfl rfl, z_m 96 rfl rfl, z_m 132 rfl rfl, z_m 1571 rfl rfl, nc1_Mod, nc2_Mod, by decide +kernel⟩
def y_Mod_starsOf : MethodName := ⟨"StreamForgeModel", "starsOf", "(I)I"⟩
set_option maxRecDepth 100000 in
theorem yi_Mod_starsOf : z_yV y_Mod_starsOf prog_14_method_40_code 4 (some .int) 1 := ⟨z_m 1566 rfl rfl, z_m 95 rfl rfl, z_m 132 rfl rfl, z_m 1567 rfl rfl, nc1_Mod, nc2_Mod, by decide +kernel⟩
def y_Mod_find : MethodName := ⟨"StreamForgeModel", "find", "(II)Z"⟩
set_option maxRecDepth 100000 in
theorem yi_Mod_find : z_yV y_Mod_find prog_14_method_41_code 13 (some .boolean) 2 := ⟨z_m 1562 rfl rfl, z_m 94 rfl rfl, z_m 132 rfl rfl, z_m 1563 rfl rfl, nc1_Mod, nc2_Mod, by decide +kernel⟩
def y_Mod_takeSpace : MethodName := ⟨"StreamForgeModel", "takeSpace", "()V"⟩
set_option maxRecDepth 100000 in
theorem yi_Mod_takeSpace : z_yV y_Mod_takeSpace prog_14_method_42_code 2 none 0 := ⟨z_m 1614 rfl rfl, z_m 106 rfl rfl, z_m 132 rfl rfl, z_m 1615 rfl rfl, nc1_Mod, nc2_Mod, by decide +kernel⟩
def y_Mod_takeLine : MethodName := ⟨"StreamForgeModel", "takeLine", "(I)V"⟩
set_option maxRecDepth 100000 in
theorem yi_Mod_takeLine : z_yV y_Mod_takeLine prog_14_method_43_code 3 none 1 := ⟨z_m 1558 rfl rfl, z_m 93 rfl rfl, z_m 132 rfl rfl, z_m 1559 rfl rfl, nc1_Mod, nc2_Mod, by decide +kernel⟩
def y_Mod_match : MethodName := ⟨"StreamForgeModel", "match", "(III)I"⟩
set_option maxRecDepth 100000 in
theorem yi_Mod_match : z_yV y_Mod_match prog_14_method_44_code 6 (some .int) 3 := ⟨z_m 1553 rfl rfl, z_m 1554 rfl rfl, z_m 132 rfl rfl, z_m 1555 rfl rfl, nc1_Mod, nc2_Mod, by decide +kernel⟩
def y_Mod_full : MethodName := ⟨"StreamForgeModel", "full", "()Z"⟩
set_option maxRecDepth 100000 in
theorem yi_Mod_full : z_yV y_Mod_full prog_14_method_45_code 1 (some .boolean) 0 := ⟨z_m 1598 rfl rfl, z_m 102 rfl rfl, z_m 132 rfl rfl, z_m 1599 rfl rfl, nc1_Mod, nc2_Mod, by decide +kernel⟩
def y_Mod_tell : MethodName := ⟨"StreamForgeModel", "tell", "()Z"⟩
set_option maxRecDepth 100000 in
theorem yi_Mod_tell : z_yV y_Mod_tell prog_14_method_46_code 2 (some .boolean) 0 := ⟨z_m 1594 rfl rfl, z_m 101 rfl rfl, z_m 132 rfl rfl, z_m 1595 rfl rfl, nc1_Mod, nc2_Mod, by decide +kernel⟩
def y_Mod_tellSpace : MethodName := ⟨"StreamForgeModel", "tellSpace", "(Z)Z"⟩
set_option maxRecDepth 100000 in
theorem yi_Mod_tellSpace : z_yV y_Mod_tellSpace prog_14_method_47_code 4 (some .boolean) 1 := ⟨z_m 1590 rfl rfl, z_m 100 rfl rfl, z_m 132 rfl rfl, z_m 1591 rfl rfl, nc1_Mod, nc2_Mod, by decide +kernel⟩
def y_Mod_tellText : MethodName := ⟨"StreamForgeModel", "tellText", "(I)Z"⟩
set_option maxRecDepth 100000 in
theorem yi_Mod_tellText : z_yV y_Mod_tellText prog_14_method_48_code 3 (some .boolean) 1 := ⟨z_m 1646 rfl rfl, z_m 114 rfl rfl, z_m 132 rfl rfl, z_m 1647 rfl rfl, nc1_Mod, nc2_Mod, by decide +kernel⟩
def y_Mod_tellAppended : MethodName := ⟨"StreamForgeModel", "tellAppended", "()Z"⟩
set_option maxRecDepth 100000 in
theorem yi_Mod_tellAppended : z_yV y_Mod_tellAppended prog_14_method_49_code 3 (some .boolean) 0 := ⟨z_m 1602 rfl rfl, z_m 103 rfl rfl, z_m 132 rfl rfl, z_m 1603 rfl rfl, nc1_Mod, nc2_Mod, by decide +kernel⟩
def y_Mod_tellNumber : MethodName := ⟨"StreamForgeModel", "tellNumber", "()Z"⟩
set_option maxRecDepth 100000 in
theorem yi_Mod_tellNumber : z_yV y_Mod_tellNumber prog_14_method_50_code 1 (some .boolean) 0 := ⟨z_m 1658 rfl rfl, z_m 117 rfl rfl, z_m 132 rfl rfl, z_m 1659 rfl rfl, nc1_Mod, nc2_Mod, by decide +kernel⟩
def y_Mod_fitsAddress : MethodName := ⟨"StreamForgeModel", "fitsAddress", "(II)Z"⟩
set_option maxRecDepth 100000 in
theorem yi_Mod_fitsAddress : z_yV y_Mod_fitsAddress prog_14_method_51_code 3 (some .boolean) 2 := ⟨z_m 1610 rfl rfl, z_m 105 rfl rfl, z_m 132 rfl rfl, z_m 1611 rfl rfl, nc1_Mod, nc2_Mod, by decide +kernel⟩
def y_Mod_isDone : MethodName := ⟨"StreamForgeModel", "isDone", "(I)Z"⟩
set_option maxRecDepth 100000 in
theorem yi_Mod_isDone : z_yV y_Mod_isDone prog_14_method_52_code 4 (some .boolean) 1 := ⟨z_m 1606 rfl rfl, z_m 104 rfl rfl, z_m 132 rfl rfl, z_m 1607 rfl rfl, nc1_Mod, nc2_Mod, by decide +kernel⟩
def y_Mod_readLine : MethodName := ⟨"StreamForgeModel", "readLine", "()V"⟩
set_option maxRecDepth 100000 in
theorem yi_Mod_readLine : z_yV y_Mod_readLine prog_14_method_53_code 2 none 0 := ⟨z_m 1582 rfl rfl, z_m 98 rfl rfl, z_m 132 rfl rfl, z_m 1583 rfl rfl, nc1_Mod, nc2_Mod, by decide +kernel⟩
def y_Mod_add : MethodName := ⟨"StreamForgeModel", "add", "(I)V"⟩
set_option maxRecDepth 100000 in
theorem yi_Mod_add : z_yV y_Mod_add prog_14_method_54_code 2 none 1 := ⟨z_m 1630 rfl rfl, z_m 110 rfl rfl, z_m 132 rfl rfl, z_m 1631 rfl rfl, nc1_Mod, nc2_Mod, by decide +kernel⟩
def y_Mod_copyOf : MethodName := ⟨"StreamForgeModel", "copyOf", "(II)V"⟩
set_option maxRecDepth 100000 in
theorem yi_Mod_copyOf : z_yV y_Mod_copyOf prog_14_method_55_code 4 none 2 := ⟨z_m 1626 rfl rfl, z_m 109 rfl rfl, z_m 132 rfl rfl, z_m 1627 rfl rfl, nc1_Mod, nc2_Mod, by decide +kernel⟩
def y_Mod_addReplacement : MethodName := ⟨"StreamForgeModel", "addReplacement", "(I)V"⟩
set_option maxRecDepth 100000 in
theorem yi_Mod_addReplacement : z_yV y_Mod_addReplacement prog_14_method_56_code 4 none 1 := ⟨z_m 1634 rfl rfl, z_m 111 rfl rfl, z_m 132 rfl rfl, z_m 1635 rfl rfl, nc1_Mod, nc2_Mod, by decide +kernel⟩
def y_Mod_substituted : MethodName := ⟨"StreamForgeModel", "substituted", "(I)Z"⟩
set_option maxRecDepth 100000 in
theorem yi_Mod_substituted : z_yV y_Mod_substituted prog_14_method_57_code 11 (some .boolean) 1 := ⟨z_m 1622 rfl rfl, z_m 108 rfl rfl, z_m 132 rfl rfl, z_m 1623 rfl rfl, nc1_Mod, nc2_Mod, by decide +kernel⟩
def y_Mod_exchanged : MethodName := ⟨"StreamForgeModel", "exchanged", "(I)V"⟩
set_option maxRecDepth 100000 in
theorem yi_Mod_exchanged : z_yV y_Mod_exchanged prog_14_method_58_code 6 none 1 := ⟨z_m 1638 rfl rfl, z_m 112 rfl rfl, z_m 132 rfl rfl, z_m 1639 rfl rfl, nc1_Mod, nc2_Mod, by decide +kernel⟩
def y_Mod_append : MethodName := ⟨"StreamForgeModel", "append", "(I)Z"⟩
set_option maxRecDepth 100000 in
theorem yi_Mod_append : z_yV y_Mod_append prog_14_method_59_code 4 (some .boolean) 1 := ⟨z_m 1642 rfl rfl, z_m 113 rfl rfl, z_m 132 rfl rfl, z_m 1643 rfl rfl, nc1_Mod, nc2_Mod, by decide +kernel⟩
def y_Mod_holds : MethodName := ⟨"StreamForgeModel", "holds", "(I)Z"⟩
set_option maxRecDepth 100000 in
theorem yi_Mod_holds : z_yV y_Mod_holds prog_14_method_60_code 4 (some .boolean) 1 := ⟨z_m 1662 rfl rfl, z_m 118 rfl rfl, z_m 132 rfl rfl, z_m 1663 rfl rfl, nc1_Mod, nc2_Mod, by decide +kernel⟩
def y_Mod_endCycle : MethodName := ⟨"StreamForgeModel", "endCycle", "(Z)I"⟩
set_option maxRecDepth 100000 in
theorem yi_Mod_endCycle : z_yV y_Mod_endCycle prog_14_method_61_code 3 (some .int) 1 := ⟨z_m 1586 rfl rfl, z_m 99 rfl rfl, z_m 132 rfl rfl, z_m 1587 rfl rfl, nc1_Mod, nc2_Mod, by decide +kernel⟩
def y_Mod_nextLine : MethodName := ⟨"StreamForgeModel", "nextLine", "(II)I"⟩
set_option maxRecDepth 100000 in
theorem yi_Mod_nextLine : z_yV y_Mod_nextLine prog_14_method_62_code 6 (some .int) 2 := ⟨z_m 1654 rfl rfl, z_m 116 rfl rfl, z_m 132 rfl rfl, z_m 1655 rfl rfl, nc1_Mod, nc2_Mod, by decide +kernel⟩
def y_Mod_cut : MethodName := ⟨"StreamForgeModel", "cut", "()I"⟩
set_option maxRecDepth 100000 in
theorem yi_Mod_cut : z_yV y_Mod_cut prog_14_method_63_code 4 (some .int) 0 := ⟨z_m 1650 rfl rfl, z_m 115 rfl rfl, z_m 132 rfl rfl, z_m 1651 rfl rfl, nc1_Mod, nc2_Mod, by decide +kernel⟩
def y_Mod_perform : MethodName := ⟨"StreamForgeModel", "perform", "(II)I"⟩
set_option maxRecDepth 100000 in
theorem yi_Mod_perform : z_yV y_Mod_perform prog_14_method_64_code 4 (some .int) 2 := ⟨z_m 1618 rfl rfl, z_m 107 rfl rfl, z_m 132 rfl rfl, z_m 1619 rfl rfl, nc1_Mod, nc2_Mod, by decide +kernel⟩
def y_Mod_run : MethodName := ⟨"StreamForgeModel", "run", "()I"⟩
set_option maxRecDepth 100000 in
theorem yi_Mod_run : z_yV y_Mod_run prog_14_method_65_code 4 (some .int) 0 := ⟨z_m 1577 rfl rfl, z_m 1578 rfl rfl, z_m 132 rfl rfl, z_m 1579 rfl rfl, nc1_Mod, nc2_Mod, by decide +kernel⟩
def y_Mod_out : MethodName := ⟨"StreamForgeModel", "out", "(I)I"⟩
set_option maxRecDepth 100000 in
theorem yi_Mod_out : z_yV y_Mod_out prog_14_method_66_code 2 (some .int) 1 := ⟨z_m 1665 rfl rfl, z_m 1666 rfl rfl, z_m 132 rfl rfl, z_m 1667 rfl rfl, nc1_Mod, nc2_Mod, by decide +kernel⟩
def y_Mod_ran : MethodName := ⟨"StreamForgeModel", "ran", "(I)I"⟩
set_option maxRecDepth 100000 in
theorem yi_Mod_ran : z_yV y_Mod_ran prog_14_method_67_code 2 (some .int) 1 := ⟨z_m 1669 rfl rfl, z_m 1670 rfl rfl, z_m 132 rfl rfl, z_m 1671 rfl rfl, nc1_Mod, nc2_Mod, by decide +kernel⟩
def y_Mod_count : MethodName := ⟨"StreamForgeModel", "count", "(I)I"⟩
set_option maxRecDepth 100000 in
theorem yi_Mod_count : z_yV y_Mod_count prog_14_method_68_code 2 (some .int) 1 := ⟨z_m 1673 rfl rfl, z_m 1674 rfl rfl, z_m 132 rfl rfl, z_m 1675 rfl rfl, nc1_Mod, nc2_Mod, by decide +kernel⟩
def y_Addr_init : MethodName := ⟨"StreamForge$Address", "<init>", "()V"⟩
def y_Cmd_init : MethodName := ⟨"StreamForge$Command", "<init>", "()V"⟩
def y_Cmd_reset : MethodName := ⟨"StreamForge$Command", "reset", "()V"⟩
set_option maxRecDepth 100000 in
theorem yi_Cmd_reset : z_yV y_Cmd_reset prog_3_method_2_code 1 none 0 := ⟨z_m 740 rfl rfl, z_m 741 rfl rfl, z_m 129 rfl rfl, z_m 742 rfl rfl, nc1_Cmd, nc2_Cmd, by decide +kernel⟩
def y_Cmd_replaces : MethodName := ⟨"StreamForge$Command", "replaces", "(I)Z"⟩
set_option maxRecDepth 100000 in
theorem yi_Cmd_replaces : z_yV y_Cmd_replaces prog_3_method_3_code 3 (some .boolean) 1 := ⟨z_m 1055 rfl rfl, z_m 1056 rfl rfl, z_m 129 rfl rfl, z_m 1057 rfl rfl, nc1_Cmd, nc2_Cmd, by decide +kernel⟩
def y_Cur_init : MethodName := ⟨"StreamForge$Cursor", "<init>", "()V"⟩
def y_Cur_look : MethodName := ⟨"StreamForge$Cursor", "look", "(I)I"⟩
set_option maxRecDepth 100000 in
theorem yi_Cur_look : z_yV y_Cur_look prog_4_method_2_code 3 (some .int) 1 := ⟨z_m 724 rfl rfl, z_m 725 rfl rfl, z_m 123 rfl rfl, z_m 726 rfl rfl, nc1_Cur, nc2_Cur, by decide +kernel⟩
def y_Cur_refuse : MethodName := ⟨"StreamForge$Cursor", "refuse", "(I)Z"⟩
set_option maxRecDepth 100000 in
theorem yi_Cur_refuse : z_yV y_Cur_refuse prog_4_method_3_code 2 (some .boolean) 1 := ⟨z_m 732 rfl rfl, z_m 733 rfl rfl, z_m 123 rfl rfl, z_m 734 rfl rfl, nc1_Cur, nc2_Cur, by decide +kernel⟩
def y_Cur_pass : MethodName := ⟨"StreamForge$Cursor", "pass", "(I)Z"⟩
set_option maxRecDepth 100000 in
theorem yi_Cur_pass : z_yV y_Cur_pass prog_4_method_4_code 2 (some .boolean) 1 := ⟨z_m 817 rfl rfl, z_m 818 rfl rfl, z_m 123 rfl rfl, z_m 819 rfl rfl, nc1_Cur, nc2_Cur, by decide +kernel⟩
def y_Ed_init : MethodName := ⟨"StreamForge$Editor", "<init>", "()V"⟩
def y_Ed_edit : MethodName := ⟨"StreamForge$Editor", "edit", "(LStreamForge$Program;[LStreamForge$Row;I)V"⟩
set_option maxRecDepth 100000 in
theorem yi_Ed_edit : z_yV y_Ed_edit prog_5_method_2_code 6 none 3 := ⟨z_m 937 rfl rfl, z_m 938 rfl rfl, z_m 125 rfl rfl, z_m 939 rfl rfl, nc1_Ed, nc2_Ed, by decide +kernel⟩
def y_Ed_begin : MethodName := ⟨"StreamForge$Editor", "begin", "()V"⟩
set_option maxRecDepth 100000 in
theorem yi_Ed_begin : z_yV y_Ed_begin prog_5_method_3_code 2 none 0 := ⟨z_m 942 rfl rfl, z_m 34 rfl rfl, z_m 125 rfl rfl, z_m 943 rfl rfl, nc1_Ed, nc2_Ed, by decide +kernel⟩
def y_Ed_beginLine : MethodName := ⟨"StreamForge$Editor", "beginLine", "()V"⟩
set_option maxRecDepth 100000 in
theorem yi_Ed_beginLine : z_yV y_Ed_beginLine prog_5_method_4_code 1 none 0 := ⟨z_m 947 rfl rfl, z_m 35 rfl rfl, z_m 125 rfl rfl, z_m 948 rfl rfl, nc1_Ed, nc2_Ed, by decide +kernel⟩
def y_Ed_beginCycle : MethodName := ⟨"StreamForge$Editor", "beginCycle", "()V"⟩
set_option maxRecDepth 100000 in
theorem yi_Ed_beginCycle : z_yV y_Ed_beginCycle prog_5_method_5_code 1 none 0 := ⟨z_m 956 rfl rfl, z_m 37 rfl rfl, z_m 125 rfl rfl, z_m 957 rfl rfl, nc1_Ed, nc2_Ed, by decide +kernel⟩
def y_Ed_readLine : MethodName := ⟨"StreamForge$Editor", "readLine", "()V"⟩
set_option maxRecDepth 100000 in
theorem yi_Ed_readLine : z_yV y_Ed_readLine prog_5_method_6_code 2 none 0 := ⟨z_m 951 rfl rfl, z_m 36 rfl rfl, z_m 125 rfl rfl, z_m 952 rfl rfl, nc1_Ed, nc2_Ed, by decide +kernel⟩
def y_Ed_endCycle : MethodName := ⟨"StreamForge$Editor", "endCycle", "(Z)V"⟩
set_option maxRecDepth 100000 in
theorem yi_Ed_endCycle : z_yV y_Ed_endCycle prog_5_method_7_code 2 none 1 := ⟨z_m 960 rfl rfl, z_m 38 rfl rfl, z_m 125 rfl rfl, z_m 961 rfl rfl, nc1_Ed, nc2_Ed, by decide +kernel⟩
def y_Ed_quit : MethodName := ⟨"StreamForge$Editor", "quit", "()V"⟩
set_option maxRecDepth 100000 in
theorem yi_Ed_quit : z_yV y_Ed_quit prog_5_method_8_code 1 none 0 := ⟨z_m 1113 rfl rfl, z_m 61 rfl rfl, z_m 125 rfl rfl, z_m 1114 rfl rfl, nc1_Ed, nc2_Ed, by decide +kernel⟩
def y_Ed_tell : MethodName := ⟨"StreamForge$Editor", "tell", "(LStreamForge$Row;II)V"⟩
set_option maxRecDepth 100000 in
theorem yi_Ed_tell : z_yV y_Ed_tell prog_5_method_9_code 4 none 3 := ⟨z_m 964 rfl rfl, z_m 39 rfl rfl, z_m 125 rfl rfl, z_m 965 rfl rfl, nc1_Ed, nc2_Ed, by decide +kernel⟩
def y_Ed_tellAppended : MethodName := ⟨"StreamForge$Editor", "tellAppended", "()V"⟩
set_option maxRecDepth 100000 in
theorem yi_Ed_tellAppended : z_yV y_Ed_tellAppended prog_5_method_10_code 3 none 0 := ⟨z_m 985 rfl rfl, z_m 40 rfl rfl, z_m 125 rfl rfl, z_m 986 rfl rfl, nc1_Ed, nc2_Ed, by decide +kernel⟩
def y_Ed_isDone : MethodName := ⟨"StreamForge$Editor", "isDone", "(LStreamForge$Command;)Z"⟩
set_option maxRecDepth 100000 in
theorem yi_Ed_isDone : z_yV y_Ed_isDone prog_5_method_11_code 3 (some .boolean) 1 := ⟨z_m 1004 rfl rfl, z_m 41 rfl rfl, z_m 125 rfl rfl, z_m 1005 rfl rfl, nc1_Ed, nc2_Ed, by decide +kernel⟩
def y_Ed_isReached : MethodName := ⟨"StreamForge$Editor", "isReached", "(LStreamForge$Address;)Z"⟩
set_option maxRecDepth 100000 in
theorem yi_Ed_isReached : z_yV y_Ed_isReached prog_5_method_12_code 2 (some .boolean) 1 := ⟨z_m 1040 rfl rfl, z_m 48 rfl rfl, z_m 125 rfl rfl, z_m 1041 rfl rfl, nc1_Ed, nc2_Ed, by decide +kernel⟩
def y_Ed_fits : MethodName := ⟨"StreamForge$Editor", "fits", "(LStreamForge$Address;)Z"⟩
set_option maxRecDepth 100000 in
theorem yi_Ed_fits : z_yV y_Ed_fits prog_5_method_13_code 2 (some .boolean) 1 := ⟨z_m 1008 rfl rfl, z_m 42 rfl rfl, z_m 125 rfl rfl, z_m 1009 rfl rfl, nc1_Ed, nc2_Ed, by decide +kernel⟩
def y_Ed_perform : MethodName := ⟨"StreamForge$Editor", "perform", "(LStreamForge$Command;)V"⟩
set_option maxRecDepth 100000 in
theorem yi_Ed_perform : z_yV y_Ed_perform prog_5_method_14_code 2 none 1 := ⟨z_m 1044 rfl rfl, z_m 49 rfl rfl, z_m 125 rfl rfl, z_m 1045 rfl rfl, nc1_Ed, nc2_Ed, by decide +kernel⟩
def y_Ed_branchIfReplaced : MethodName := ⟨"StreamForge$Editor", "branchIfReplaced", "(LStreamForge$Command;)V"⟩
set_option maxRecDepth 100000 in
theorem yi_Ed_branchIfReplaced : z_yV y_Ed_branchIfReplaced prog_5_method_15_code 2 none 1 := ⟨z_m 1048 rfl rfl, z_m 50 rfl rfl, z_m 125 rfl rfl, z_m 1049 rfl rfl, nc1_Ed, nc2_Ed, by decide +kernel⟩
def y_Ed_append : MethodName := ⟨"StreamForge$Editor", "append", "(LStreamForge$Command;)V"⟩
set_option maxRecDepth 100000 in
theorem yi_Ed_append : z_yV y_Ed_append prog_5_method_16_code 2 none 1 := ⟨z_m 1092 rfl rfl, z_m 57 rfl rfl, z_m 125 rfl rfl, z_m 1093 rfl rfl, nc1_Ed, nc2_Ed, by decide +kernel⟩
def y_Ed_change : MethodName := ⟨"StreamForge$Editor", "change", "(LStreamForge$Command;)V"⟩
set_option maxRecDepth 100000 in
theorem yi_Ed_change : z_yV y_Ed_change prog_5_method_17_code 2 none 1 := ⟨z_m 1096 rfl rfl, z_m 58 rfl rfl, z_m 125 rfl rfl, z_m 1097 rfl rfl, nc1_Ed, nc2_Ed, by decide +kernel⟩
def y_Ed_deleteFirst : MethodName := ⟨"StreamForge$Editor", "deleteFirst", "()V"⟩
set_option maxRecDepth 100000 in
theorem yi_Ed_deleteFirst : z_yV y_Ed_deleteFirst prog_5_method_18_code 2 none 0 := ⟨z_m 1100 rfl rfl, z_m 59 rfl rfl, z_m 125 rfl rfl, z_m 1101 rfl rfl, nc1_Ed, nc2_Ed, by decide +kernel⟩
def y_Ed_replaceByNext : MethodName := ⟨"StreamForge$Editor", "replaceByNext", "()V"⟩
set_option maxRecDepth 100000 in
theorem yi_Ed_replaceByNext : z_yV y_Ed_replaceByNext prog_5_method_19_code 1 none 0 := ⟨z_m 1109 rfl rfl, z_m 60 rfl rfl, z_m 125 rfl rfl, z_m 1110 rfl rfl, nc1_Ed, nc2_Ed, by decide +kernel⟩
def y_Ed_joinNext : MethodName := ⟨"StreamForge$Editor", "joinNext", "()V"⟩
set_option maxRecDepth 100000 in
theorem yi_Ed_joinNext : z_yV y_Ed_joinNext prog_5_method_20_code 1 none 0 := ⟨z_m 1117 rfl rfl, z_m 62 rfl rfl, z_m 125 rfl rfl, z_m 1118 rfl rfl, nc1_Ed, nc2_Ed, by decide +kernel⟩
def y_Ed_copy : MethodName := ⟨"StreamForge$Editor", "copy", "(LStreamForge$Row;LStreamForge$Row;)V"⟩
set_option maxRecDepth 100000 in
theorem yi_Ed_copy : z_yV y_Ed_copy prog_5_method_21_code 3 none 2 := ⟨z_m 1121 rfl rfl, z_m 63 rfl rfl, z_m 125 rfl rfl, z_m 1122 rfl rfl, nc1_Ed, nc2_Ed, by decide +kernel⟩
def y_Ed_join : MethodName := ⟨"StreamForge$Editor", "join", "(LStreamForge$Row;LStreamForge$Row;)V"⟩
set_option maxRecDepth 100000 in
theorem yi_Ed_join : z_yV y_Ed_join prog_5_method_22_code 3 none 2 := ⟨z_m 1125 rfl rfl, z_m 64 rfl rfl, z_m 125 rfl rfl, z_m 1126 rfl rfl, nc1_Ed, nc2_Ed, by decide +kernel⟩
def y_Ed_swap : MethodName := ⟨"StreamForge$Editor", "swap", "()V"⟩
set_option maxRecDepth 100000 in
theorem yi_Ed_swap : z_yV y_Ed_swap prog_5_method_23_code 2 none 0 := ⟨z_m 1129 rfl rfl, z_m 65 rfl rfl, z_m 125 rfl rfl, z_m 1130 rfl rfl, nc1_Ed, nc2_Ed, by decide +kernel⟩
def y_Ed_tellNumber : MethodName := ⟨"StreamForge$Editor", "tellNumber", "()V"⟩
set_option maxRecDepth 100000 in
theorem yi_Ed_tellNumber : z_yV y_Ed_tellNumber prog_5_method_24_code 1 none 0 := ⟨z_m 1133 rfl rfl, z_m 66 rfl rfl, z_m 125 rfl rfl, z_m 1134 rfl rfl, nc1_Ed, nc2_Ed, by decide +kernel⟩
def y_Ed_exchange : MethodName := ⟨"StreamForge$Editor", "exchange", "(LStreamForge$Command;)V"⟩
set_option maxRecDepth 100000 in
theorem yi_Ed_exchange : z_yV y_Ed_exchange prog_5_method_25_code 4 none 1 := ⟨z_m 1088 rfl rfl, z_m 56 rfl rfl, z_m 125 rfl rfl, z_m 1089 rfl rfl, nc1_Ed, nc2_Ed, by decide +kernel⟩
def y_Ed_substitute : MethodName := ⟨"StreamForge$Editor", "substitute", "(LStreamForge$Command;)V"⟩
set_option maxRecDepth 100000 in
theorem yi_Ed_substitute : z_yV y_Ed_substitute prog_5_method_26_code 10 none 1 := ⟨z_m 1052 rfl rfl, z_m 51 rfl rfl, z_m 125 rfl rfl, z_m 1053 rfl rfl, nc1_Ed, nc2_Ed, by decide +kernel⟩
def y_Ed_takeDraft : MethodName := ⟨"StreamForge$Editor", "takeDraft", "(LStreamForge$Command;I)V"⟩
set_option maxRecDepth 100000 in
theorem yi_Ed_takeDraft : z_yV y_Ed_takeDraft prog_5_method_27_code 4 none 2 := ⟨z_m 1084 rfl rfl, z_m 55 rfl rfl, z_m 125 rfl rfl, z_m 1085 rfl rfl, nc1_Ed, nc2_Ed, by decide +kernel⟩
def y_Ed_draftPart : MethodName := ⟨"StreamForge$Editor", "draftPart", "(II)V"⟩
set_option maxRecDepth 100000 in
theorem yi_Ed_draftPart : z_yV y_Ed_draftPart prog_5_method_28_code 3 none 2 := ⟨z_m 1063 rfl rfl, z_m 52 rfl rfl, z_m 125 rfl rfl, z_m 1064 rfl rfl, nc1_Ed, nc2_Ed, by decide +kernel⟩
def y_Ed_draftReplacement : MethodName := ⟨"StreamForge$Editor", "draftReplacement", "(LStreamForge$Command;)V"⟩
set_option maxRecDepth 100000 in
theorem yi_Ed_draftReplacement : z_yV y_Ed_draftReplacement prog_5_method_29_code 4 none 1 := ⟨z_m 1067 rfl rfl, z_m 53 rfl rfl, z_m 125 rfl rfl, z_m 1068 rfl rfl, nc1_Ed, nc2_Ed, by decide +kernel⟩
def y_Ed_draftCharacter : MethodName := ⟨"StreamForge$Editor", "draftCharacter", "(I)V"⟩
set_option maxRecDepth 100000 in
theorem yi_Ed_draftCharacter : z_yV y_Ed_draftCharacter prog_5_method_30_code 2 none 1 := ⟨z_m 1080 rfl rfl, z_m 54 rfl rfl, z_m 125 rfl rfl, z_m 1081 rfl rfl, nc1_Ed, nc2_Ed, by decide +kernel⟩
def y_It_init : MethodName := ⟨"StreamForge$Items", "<init>", "()V"⟩
def y_It_add : MethodName := ⟨"StreamForge$Items", "add", "(II)V"⟩
set_option maxRecDepth 100000 in
theorem yi_It_add : z_yV y_It_add prog_6_method_2_code 3 none 2 := ⟨z_m 781 rfl rfl, z_m 782 rfl rfl, z_m 128 rfl rfl, z_m 783 rfl rfl, nc1_It, nc2_It, by decide +kernel⟩
def y_It_allow : MethodName := ⟨"StreamForge$Items", "allow", "(II)V"⟩
set_option maxRecDepth 100000 in
theorem yi_It_allow : z_yV y_It_allow prog_6_method_3_code 6 none 2 := ⟨z_m 797 rfl rfl, z_m 798 rfl rfl, z_m 128 rfl rfl, z_m 799 rfl rfl, nc1_It, nc2_It, by decide +kernel⟩
def y_It_turn : MethodName := ⟨"StreamForge$Items", "turn", "()V"⟩
set_option maxRecDepth 100000 in
theorem yi_It_turn : z_yV y_It_turn prog_6_method_4_code 2 none 0 := ⟨z_m 812 rfl rfl, z_m 813 rfl rfl, z_m 128 rfl rfl, z_m 814 rfl rfl, nc1_It, nc2_It, by decide +kernel⟩
def y_It_takes : MethodName := ⟨"StreamForge$Items", "takes", "(II)Z"⟩
set_option maxRecDepth 100000 in
theorem yi_It_takes : z_yV y_It_takes prog_6_method_5_code 6 (some .boolean) 2 := ⟨z_m 1027 rfl rfl, z_m 1028 rfl rfl, z_m 128 rfl rfl, z_m 1029 rfl rfl, nc1_It, nc2_It, by decide +kernel⟩
def y_Ma_init : MethodName := ⟨"StreamForge$Matcher", "<init>", "()V"⟩
def y_Ma_find : MethodName := ⟨"StreamForge$Matcher", "find", "(LStreamForge$Items;LStreamForge$Pattern;LStreamForge$Row;I)Z"⟩
set_option maxRecDepth 100000 in
theorem yi_Ma_find : z_yV y_Ma_find prog_7_method_2_code 7 (some .boolean) 4 := ⟨z_m 1011 rfl rfl, z_m 1012 rfl rfl, z_m 126 rfl rfl, z_m 1013 rfl rfl, nc1_Ma, nc2_Ma, by decide +kernel⟩
def y_Ma_beginOf : MethodName := ⟨"StreamForge$Matcher", "beginOf", "(I)I"⟩
set_option maxRecDepth 100000 in
theorem yi_Ma_beginOf : z_yV y_Ma_beginOf prog_7_method_3_code 2 (some .int) 1 := ⟨z_m 1071 rfl rfl, z_m 1072 rfl rfl, z_m 126 rfl rfl, z_m 1073 rfl rfl, nc1_Ma, nc2_Ma, by decide +kernel⟩
def y_Ma_endOf : MethodName := ⟨"StreamForge$Matcher", "endOf", "(I)I"⟩
set_option maxRecDepth 100000 in
theorem yi_Ma_endOf : z_yV y_Ma_endOf prog_7_method_4_code 2 (some .int) 1 := ⟨z_m 1075 rfl rfl, z_m 1076 rfl rfl, z_m 126 rfl rfl, z_m 1077 rfl rfl, nc1_Ma, nc2_Ma, by decide +kernel⟩
def y_Ma_told : MethodName := ⟨"StreamForge$Matcher", "told", "(I)I"⟩
set_option maxRecDepth 100000 in
theorem yi_Ma_told : z_yV y_Ma_told prog_7_method_5_code 5 (some .int) 1 := ⟨z_m 1161 rfl rfl, z_m 1162 rfl rfl, z_m 126 rfl rfl, z_m 1163 rfl rfl, nc1_Ma, nc2_Ma, by decide +kernel⟩
def y_Ma_findLongest : MethodName := ⟨"StreamForge$Matcher", "findLongest", "(I)Z"⟩
set_option maxRecDepth 100000 in
theorem yi_Ma_findLongest : z_yV y_Ma_findLongest prog_7_method_6_code 6 (some .boolean) 1 := ⟨z_m 1016 rfl rfl, z_m 43 rfl rfl, z_m 126 rfl rfl, z_m 1017 rfl rfl, nc1_Ma, nc2_Ma, by decide +kernel⟩
def y_Ma_keepIfLongest : MethodName := ⟨"StreamForge$Matcher", "keepIfLongest", "(II)V"⟩
set_option maxRecDepth 100000 in
theorem yi_Ma_keepIfLongest : z_yV y_Ma_keepIfLongest prog_7_method_7_code 4 none 2 := ⟨z_m 1036 rfl rfl, z_m 47 rfl rfl, z_m 126 rfl rfl, z_m 1037 rfl rfl, nc1_Ma, nc2_Ma, by decide +kernel⟩
def y_Ma_repeats : MethodName := ⟨"StreamForge$Matcher", "repeats", "(II)Z"⟩
set_option maxRecDepth 100000 in
theorem yi_Ma_repeats : z_yV y_Ma_repeats prog_7_method_8_code 3 (some .boolean) 2 := ⟨z_m 1032 rfl rfl, z_m 46 rfl rfl, z_m 126 rfl rfl, z_m 1033 rfl rfl, nc1_Ma, nc2_Ma, by decide +kernel⟩
def y_Ma_walk : MethodName := ⟨"StreamForge$Matcher", "walk", "(III)I"⟩
set_option maxRecDepth 100000 in
theorem yi_Ma_walk : z_yV y_Ma_walk prog_7_method_9_code 7 (some .int) 3 := ⟨z_m 1020 rfl rfl, z_m 44 rfl rfl, z_m 126 rfl rfl, z_m 1021 rfl rfl, nc1_Ma, nc2_Ma, by decide +kernel⟩
def y_Ma_standsAgain : MethodName := ⟨"StreamForge$Matcher", "standsAgain", "(II)Z"⟩
set_option maxRecDepth 100000 in
theorem yi_Ma_standsAgain : z_yV y_Ma_standsAgain prog_7_method_10_code 6 (some .boolean) 2 := ⟨z_m 1024 rfl rfl, z_m 45 rfl rfl, z_m 126 rfl rfl, z_m 1025 rfl rfl, nc1_Ma, nc2_Ma, by decide +kernel⟩
def y_Pa_init : MethodName := ⟨"StreamForge$Parser", "<init>", "()V"⟩
def y_Pa_refusedAt : MethodName := ⟨"StreamForge$Parser", "refusedAt", "()I"⟩
set_option maxRecDepth 100000 in
theorem yi_Pa_refusedAt : z_yV y_Pa_refusedAt prog_8_method_2_code 1 (some .int) 0 := ⟨z_m 910 rfl rfl, z_m 911 rfl rfl, z_m 122 rfl rfl, z_m 912 rfl rfl, nc1_Pa, nc2_Pa, by decide +kernel⟩
def y_Pa_read : MethodName := ⟨"StreamForge$Parser", "read", "(LStreamForge$Row;LStreamForge$Program;)Z"⟩
set_option maxRecDepth 100000 in
theorem yi_Pa_read : z_yV y_Pa_read prog_8_method_3_code 5 (some .boolean) 2 := ⟨z_m 711 rfl rfl, z_m 712 rfl rfl, z_m 122 rfl rfl, z_m 713 rfl rfl, nc1_Pa, nc2_Pa, by decide +kernel⟩
def y_Pa_begin : MethodName := ⟨"StreamForge$Parser", "begin", "(LStreamForge$Row;LStreamForge$Program;)V"⟩
set_option maxRecDepth 100000 in
theorem yi_Pa_begin : z_yV y_Pa_begin prog_8_method_4_code 4 none 2 := ⟨z_m 716 rfl rfl, z_m 1 rfl rfl, z_m 122 rfl rfl, z_m 717 rfl rfl, nc1_Pa, nc2_Pa, by decide +kernel⟩
def y_Pa_closeBlock : MethodName := ⟨"StreamForge$Parser", "closeBlock", "()Z"⟩
set_option maxRecDepth 100000 in
theorem yi_Pa_closeBlock : z_yV y_Pa_closeBlock prog_8_method_5_code 1 (some .boolean) 0 := ⟨z_m 729 rfl rfl, z_m 2 rfl rfl, z_m 122 rfl rfl, z_m 730 rfl rfl, nc1_Pa, nc2_Pa, by decide +kernel⟩
def y_Pa_beginCommand : MethodName := ⟨"StreamForge$Parser", "beginCommand", "()Z"⟩
set_option maxRecDepth 100000 in
theorem yi_Pa_beginCommand : z_yV y_Pa_beginCommand prog_8_method_6_code 1 (some .boolean) 0 := ⟨z_m 737 rfl rfl, z_m 3 rfl rfl, z_m 122 rfl rfl, z_m 738 rfl rfl, nc1_Pa, nc2_Pa, by decide +kernel⟩
def y_Pa_readAddresses : MethodName := ⟨"StreamForge$Parser", "readAddresses", "()Z"⟩
set_option maxRecDepth 100000 in
theorem yi_Pa_readAddresses : z_yV y_Pa_readAddresses prog_8_method_7_code 1 (some .boolean) 0 := ⟨z_m 745 rfl rfl, z_m 4 rfl rfl, z_m 122 rfl rfl, z_m 746 rfl rfl, nc1_Pa, nc2_Pa, by decide +kernel⟩
def y_Pa_startsAddress : MethodName := ⟨"StreamForge$Parser", "startsAddress", "(I)Z"⟩
set_option maxRecDepth 100000 in
theorem yi_Pa_startsAddress : z_yS y_Pa_startsAddress prog_8_method_8_code 1 (some .boolean) 1 := ⟨z_m 748 rfl rfl, z_m 122 rfl rfl, z_m 749 rfl rfl, nc1_Pa, nc2_Pa, by decide +kernel⟩
def y_Pa_passBlanks : MethodName := ⟨"StreamForge$Parser", "passBlanks", "()V"⟩
set_option maxRecDepth 100000 in
theorem yi_Pa_passBlanks : z_yV y_Pa_passBlanks prog_8_method_9_code 2 none 0 := ⟨z_m 840 rfl rfl, z_m 20 rfl rfl, z_m 122 rfl rfl, z_m 841 rfl rfl, nc1_Pa, nc2_Pa, by decide +kernel⟩
def y_Pa_readAddress : MethodName := ⟨"StreamForge$Parser", "readAddress", "(LStreamForge$Address;)Z"⟩
set_option maxRecDepth 100000 in
theorem yi_Pa_readAddress : z_yV y_Pa_readAddress prog_8_method_10_code 4 (some .boolean) 1 := ⟨z_m 752 rfl rfl, z_m 5 rfl rfl, z_m 122 rfl rfl, z_m 753 rfl rfl, nc1_Pa, nc2_Pa, by decide +kernel⟩
def y_Pa_readAction : MethodName := ⟨"StreamForge$Parser", "readAction", "()Z"⟩
set_option maxRecDepth 100000 in
theorem yi_Pa_readAction : z_yV y_Pa_readAction prog_8_method_11_code 2 (some .boolean) 0 := ⟨z_m 844 rfl rfl, z_m 21 rfl rfl, z_m 122 rfl rfl, z_m 845 rfl rfl, nc1_Pa, nc2_Pa, by decide +kernel⟩
def y_Pa_endCommand : MethodName := ⟨"StreamForge$Parser", "endCommand", "()Z"⟩
set_option maxRecDepth 100000 in
theorem yi_Pa_endCommand : z_yV y_Pa_endCommand prog_8_method_12_code 2 (some .boolean) 0 := ⟨z_m 859 rfl rfl, z_m 24 rfl rfl, z_m 122 rfl rfl, z_m 860 rfl rfl, nc1_Pa, nc2_Pa, by decide +kernel⟩
def y_Pa_openBlock : MethodName := ⟨"StreamForge$Parser", "openBlock", "()Z"⟩
set_option maxRecDepth 100000 in
theorem yi_Pa_openBlock : z_yV y_Pa_openBlock prog_8_method_13_code 1 (some .boolean) 0 := ⟨z_m 848 rfl rfl, z_m 22 rfl rfl, z_m 122 rfl rfl, z_m 849 rfl rfl, nc1_Pa, nc2_Pa, by decide +kernel⟩
def y_Pa_placeLabel : MethodName := ⟨"StreamForge$Parser", "placeLabel", "()Z"⟩
set_option maxRecDepth 100000 in
theorem yi_Pa_placeLabel : z_yV y_Pa_placeLabel prog_8_method_14_code 2 (some .boolean) 0 := ⟨z_m 852 rfl rfl, z_m 23 rfl rfl, z_m 122 rfl rfl, z_m 853 rfl rfl, nc1_Pa, nc2_Pa, by decide +kernel⟩
def y_Pa_readBranch : MethodName := ⟨"StreamForge$Parser", "readBranch", "()Z"⟩
set_option maxRecDepth 100000 in
theorem yi_Pa_readBranch : z_yV y_Pa_readBranch prog_8_method_15_code 2 (some .boolean) 0 := ⟨z_m 863 rfl rfl, z_m 25 rfl rfl, z_m 122 rfl rfl, z_m 864 rfl rfl, nc1_Pa, nc2_Pa, by decide +kernel⟩
def y_Pa_isLetter : MethodName := ⟨"StreamForge$Parser", "isLetter", "(I)Z"⟩
set_option maxRecDepth 100000 in
theorem yi_Pa_isLetter : z_yS y_Pa_isLetter prog_8_method_16_code 1 (some .boolean) 1 := ⟨z_m 855 rfl rfl, z_m 122 rfl rfl, z_m 856 rfl rfl, nc1_Pa, nc2_Pa, by decide +kernel⟩
def y_Pa_readText : MethodName := ⟨"StreamForge$Parser", "readText", "()Z"⟩
set_option maxRecDepth 100000 in
theorem yi_Pa_readText : z_yV y_Pa_readText prog_8_method_17_code 1 (some .boolean) 0 := ⟨z_m 899 rfl rfl, z_m 32 rfl rfl, z_m 122 rfl rfl, z_m 900 rfl rfl, nc1_Pa, nc2_Pa, by decide +kernel⟩
def y_Pa_readSubstitution : MethodName := ⟨"StreamForge$Parser", "readSubstitution", "()Z"⟩
set_option maxRecDepth 100000 in
theorem yi_Pa_readSubstitution : z_yV y_Pa_readSubstitution prog_8_method_18_code 1 (some .boolean) 0 := ⟨z_m 867 rfl rfl, z_m 26 rfl rfl, z_m 122 rfl rfl, z_m 868 rfl rfl, nc1_Pa, nc2_Pa, by decide +kernel⟩
def y_Pa_readReplacement : MethodName := ⟨"StreamForge$Parser", "readReplacement", "()Z"⟩
set_option maxRecDepth 100000 in
theorem yi_Pa_readReplacement : z_yV y_Pa_readReplacement prog_8_method_19_code 3 (some .boolean) 0 := ⟨z_m 872 rfl rfl, z_m 27 rfl rfl, z_m 122 rfl rfl, z_m 873 rfl rfl, nc1_Pa, nc2_Pa, by decide +kernel⟩
def y_Pa_mayFollowBackslash : MethodName := ⟨"StreamForge$Parser", "mayFollowBackslash", "(I)Z"⟩
set_option maxRecDepth 100000 in
theorem yi_Pa_mayFollowBackslash : z_yV y_Pa_mayFollowBackslash prog_8_method_20_code 3 (some .boolean) 1 := ⟨z_m 876 rfl rfl, z_m 28 rfl rfl, z_m 122 rfl rfl, z_m 877 rfl rfl, nc1_Pa, nc2_Pa, by decide +kernel⟩
def y_Pa_readFlags : MethodName := ⟨"StreamForge$Parser", "readFlags", "()Z"⟩
set_option maxRecDepth 100000 in
theorem yi_Pa_readFlags : z_yV y_Pa_readFlags prog_8_method_21_code 3 (some .boolean) 0 := ⟨z_m 880 rfl rfl, z_m 29 rfl rfl, z_m 122 rfl rfl, z_m 881 rfl rfl, nc1_Pa, nc2_Pa, by decide +kernel⟩
def y_Pa_readExchange : MethodName := ⟨"StreamForge$Parser", "readExchange", "()Z"⟩
set_option maxRecDepth 100000 in
theorem yi_Pa_readExchange : z_yV y_Pa_readExchange prog_8_method_22_code 2 (some .boolean) 0 := ⟨z_m 884 rfl rfl, z_m 30 rfl rfl, z_m 122 rfl rfl, z_m 885 rfl rfl, nc1_Pa, nc2_Pa, by decide +kernel⟩
def y_Pa_isExchangeable : MethodName := ⟨"StreamForge$Parser", "isExchangeable", "(I)Z"⟩
set_option maxRecDepth 100000 in
theorem yi_Pa_isExchangeable : z_yS y_Pa_isExchangeable prog_8_method_23_code 1 (some .boolean) 1 := ⟨z_m 887 rfl rfl, z_m 122 rfl rfl, z_m 888 rfl rfl, nc1_Pa, nc2_Pa, by decide +kernel⟩
def y_Pa_wasExchanged : MethodName := ⟨"StreamForge$Parser", "wasExchanged", "(I)Z"⟩
set_option maxRecDepth 100000 in
theorem yi_Pa_wasExchanged : z_yV y_Pa_wasExchanged prog_8_method_24_code 3 (some .boolean) 1 := ⟨z_m 891 rfl rfl, z_m 31 rfl rfl, z_m 122 rfl rfl, z_m 892 rfl rfl, nc1_Pa, nc2_Pa, by decide +kernel⟩
def y_Pa_joinLabels : MethodName := ⟨"StreamForge$Parser", "joinLabels", "()Z"⟩
set_option maxRecDepth 100000 in
theorem yi_Pa_joinLabels : z_yV y_Pa_joinLabels prog_8_method_25_code 3 (some .boolean) 0 := ⟨z_m 907 rfl rfl, z_m 33 rfl rfl, z_m 122 rfl rfl, z_m 908 rfl rfl, nc1_Pa, nc2_Pa, by decide +kernel⟩
def y_Pt_init : MethodName := ⟨"StreamForge$Pattern", "<init>", "()V"⟩
def y_Pr_init : MethodName := ⟨"StreamForge$PatternReader", "<init>", "(LStreamForge$Cursor;)V"⟩
def y_Pr_read : MethodName := ⟨"StreamForge$PatternReader", "read", "(LStreamForge$Pattern;LStreamForge$Items;)Z"⟩
set_option maxRecDepth 100000 in
theorem yi_Pr_read : z_yV y_Pr_read prog_10_method_2_code 6 (some .boolean) 2 := ⟨z_m 755 rfl rfl, z_m 756 rfl rfl, z_m 124 rfl rfl, z_m 757 rfl rfl, nc1_Pr, nc2_Pr, by decide +kernel⟩
def y_Pr_begin : MethodName := ⟨"StreamForge$PatternReader", "begin", "(LStreamForge$Pattern;LStreamForge$Items;)V"⟩
set_option maxRecDepth 100000 in
theorem yi_Pr_begin : z_yV y_Pr_begin prog_10_method_3_code 3 none 2 := ⟨z_m 760 rfl rfl, z_m 6 rfl rfl, z_m 124 rfl rfl, z_m 761 rfl rfl, nc1_Pr, nc2_Pr, by decide +kernel⟩
def y_Pr_finish : MethodName := ⟨"StreamForge$PatternReader", "finish", "()V"⟩
set_option maxRecDepth 100000 in
theorem yi_Pr_finish : z_yV y_Pr_finish prog_10_method_4_code 1 none 0 := ⟨z_m 836 rfl rfl, z_m 19 rfl rfl, z_m 124 rfl rfl, z_m 837 rfl rfl, nc1_Pr, nc2_Pr, by decide +kernel⟩
def y_Pr_readStar : MethodName := ⟨"StreamForge$PatternReader", "readStar", "()Z"⟩
set_option maxRecDepth 100000 in
theorem yi_Pr_readStar : z_yV y_Pr_readStar prog_10_method_5_code 1 (some .boolean) 0 := ⟨z_m 765 rfl rfl, z_m 7 rfl rfl, z_m 124 rfl rfl, z_m 766 rfl rfl, nc1_Pr, nc2_Pr, by decide +kernel⟩
def y_Pr_mayEnd : MethodName := ⟨"StreamForge$PatternReader", "mayEnd", "()Z"⟩
set_option maxRecDepth 100000 in
theorem yi_Pr_mayEnd : z_yV y_Pr_mayEnd prog_10_method_6_code 2 (some .boolean) 0 := ⟨z_m 824 rfl rfl, z_m 16 rfl rfl, z_m 124 rfl rfl, z_m 825 rfl rfl, nc1_Pr, nc2_Pr, by decide +kernel⟩
def y_Pr_readEnd : MethodName := ⟨"StreamForge$PatternReader", "readEnd", "()Z"⟩
set_option maxRecDepth 100000 in
theorem yi_Pr_readEnd : z_yV y_Pr_readEnd prog_10_method_7_code 1 (some .boolean) 0 := ⟨z_m 828 rfl rfl, z_m 17 rfl rfl, z_m 124 rfl rfl, z_m 829 rfl rfl, nc1_Pr, nc2_Pr, by decide +kernel⟩
def y_Pr_readPlain : MethodName := ⟨"StreamForge$PatternReader", "readPlain", "()Z"⟩
set_option maxRecDepth 100000 in
theorem yi_Pr_readPlain : z_yV y_Pr_readPlain prog_10_method_8_code 2 (some .boolean) 0 := ⟨z_m 832 rfl rfl, z_m 18 rfl rfl, z_m 124 rfl rfl, z_m 833 rfl rfl, nc1_Pr, nc2_Pr, by decide +kernel⟩
def y_Pr_addOne : MethodName := ⟨"StreamForge$PatternReader", "addOne", "()Z"⟩
set_option maxRecDepth 100000 in
theorem yi_Pr_addOne : z_yV y_Pr_addOne prog_10_method_9_code 1 (some .boolean) 0 := ⟨z_m 794 rfl rfl, z_m 13 rfl rfl, z_m 124 rfl rfl, z_m 795 rfl rfl, nc1_Pr, nc2_Pr, by decide +kernel⟩
def y_Pr_readEscape : MethodName := ⟨"StreamForge$PatternReader", "readEscape", "()Z"⟩
set_option maxRecDepth 100000 in
theorem yi_Pr_readEscape : z_yV y_Pr_readEscape prog_10_method_10_code 2 (some .boolean) 0 := ⟨z_m 770 rfl rfl, z_m 8 rfl rfl, z_m 124 rfl rfl, z_m 771 rfl rfl, nc1_Pr, nc2_Pr, by decide +kernel⟩
def y_Pr_mayEscape : MethodName := ⟨"StreamForge$PatternReader", "mayEscape", "()Z"⟩
set_option maxRecDepth 100000 in
theorem yi_Pr_mayEscape : z_yV y_Pr_mayEscape prog_10_method_11_code 1 (some .boolean) 0 := ⟨z_m 774 rfl rfl, z_m 9 rfl rfl, z_m 124 rfl rfl, z_m 775 rfl rfl, nc1_Pr, nc2_Pr, by decide +kernel⟩
def y_Pr_openGroup : MethodName := ⟨"StreamForge$PatternReader", "openGroup", "()Z"⟩
set_option maxRecDepth 100000 in
theorem yi_Pr_openGroup : z_yV y_Pr_openGroup prog_10_method_12_code 1 (some .boolean) 0 := ⟨z_m 778 rfl rfl, z_m 10 rfl rfl, z_m 124 rfl rfl, z_m 779 rfl rfl, nc1_Pr, nc2_Pr, by decide +kernel⟩
def y_Pr_closeGroup : MethodName := ⟨"StreamForge$PatternReader", "closeGroup", "()Z"⟩
set_option maxRecDepth 100000 in
theorem yi_Pr_closeGroup : z_yV y_Pr_closeGroup prog_10_method_13_code 1 (some .boolean) 0 := ⟨z_m 786 rfl rfl, z_m 11 rfl rfl, z_m 124 rfl rfl, z_m 787 rfl rfl, nc1_Pr, nc2_Pr, by decide +kernel⟩
def y_Pr_readSame : MethodName := ⟨"StreamForge$PatternReader", "readSame", "(I)Z"⟩
set_option maxRecDepth 100000 in
theorem yi_Pr_readSame : z_yV y_Pr_readSame prog_10_method_14_code 3 (some .boolean) 1 := ⟨z_m 790 rfl rfl, z_m 12 rfl rfl, z_m 124 rfl rfl, z_m 791 rfl rfl, nc1_Pr, nc2_Pr, by decide +kernel⟩
def y_Pr_readSet : MethodName := ⟨"StreamForge$PatternReader", "readSet", "()Z"⟩
set_option maxRecDepth 100000 in
theorem yi_Pr_readSet : z_yV y_Pr_readSet prog_10_method_15_code 4 (some .boolean) 0 := ⟨z_m 802 rfl rfl, z_m 14 rfl rfl, z_m 124 rfl rfl, z_m 803 rfl rfl, nc1_Pr, nc2_Pr, by decide +kernel⟩
def y_Pr_readRange : MethodName := ⟨"StreamForge$PatternReader", "readRange", "()Z"⟩
set_option maxRecDepth 100000 in
theorem yi_Pr_readRange : z_yV y_Pr_readRange prog_10_method_16_code 3 (some .boolean) 0 := ⟨z_m 806 rfl rfl, z_m 15 rfl rfl, z_m 124 rfl rfl, z_m 807 rfl rfl, nc1_Pr, nc2_Pr, by decide +kernel⟩
def y_Pr_isOutsideSets : MethodName := ⟨"StreamForge$PatternReader", "isOutsideSets", "(I)Z"⟩
set_option maxRecDepth 100000 in
theorem yi_Pr_isOutsideSets : z_yS y_Pr_isOutsideSets prog_10_method_17_code 1 (some .boolean) 1 := ⟨z_m 809 rfl rfl, z_m 124 rfl rfl, z_m 810 rfl rfl, nc1_Pr, nc2_Pr, by decide +kernel⟩
def y_Prog_init : MethodName := ⟨"StreamForge$Program", "<init>", "()V"⟩
def y_Row_init : MethodName := ⟨"StreamForge$Row", "<init>", "(I)V"⟩
def y_Row_hasRoom : MethodName := ⟨"StreamForge$Row", "hasRoom", "(I)Z"⟩
set_option maxRecDepth 100000 in
theorem yi_Row_hasRoom : z_yV y_Row_hasRoom prog_12_method_2_code 2 (some .boolean) 1 := ⟨z_m 667 rfl rfl, z_m 668 rfl rfl, z_m 121 rfl rfl, z_m 669 rfl rfl, nc1_Row, nc2_Row, by decide +kernel⟩
def y_Row_at : MethodName := ⟨"StreamForge$Row", "at", "(I)I"⟩
set_option maxRecDepth 100000 in
theorem yi_Row_at : z_yV y_Row_at prog_12_method_3_code 2 (some .int) 1 := ⟨z_m 894 rfl rfl, z_m 895 rfl rfl, z_m 121 rfl rfl, z_m 896 rfl rfl, nc1_Row, nc2_Row, by decide +kernel⟩
def y_Row_empty : MethodName := ⟨"StreamForge$Row", "empty", "()V"⟩
set_option maxRecDepth 100000 in
theorem yi_Row_empty : z_yV y_Row_empty prog_12_method_4_code 1 none 0 := ⟨z_m 700 rfl rfl, z_m 701 rfl rfl, z_m 121 rfl rfl, z_m 702 rfl rfl, nc1_Row, nc2_Row, by decide +kernel⟩
def y_Row_add : MethodName := ⟨"StreamForge$Row", "add", "(I)V"⟩
set_option maxRecDepth 100000 in
theorem yi_Row_add : z_yV y_Row_add prog_12_method_5_code 2 none 1 := ⟨z_m 689 rfl rfl, z_m 690 rfl rfl, z_m 121 rfl rfl, z_m 691 rfl rfl, nc1_Row, nc2_Row, by decide +kernel⟩
def y_Row_addPart : MethodName := ⟨"StreamForge$Row", "addPart", "(LStreamForge$Row;II)V"⟩
set_option maxRecDepth 100000 in
theorem yi_Row_addPart : z_yV y_Row_addPart prog_12_method_6_code 5 none 3 := ⟨z_m 720 rfl rfl, z_m 721 rfl rfl, z_m 121 rfl rfl, z_m 722 rfl rfl, nc1_Row, nc2_Row, by decide +kernel⟩
def y_Row_dropFirst : MethodName := ⟨"StreamForge$Row", "dropFirst", "(I)V"⟩
set_option maxRecDepth 100000 in
theorem yi_Row_dropFirst : z_yV y_Row_dropFirst prog_12_method_7_code 3 none 1 := ⟨z_m 1104 rfl rfl, z_m 1105 rfl rfl, z_m 121 rfl rfl, z_m 1106 rfl rfl, nc1_Row, nc2_Row, by decide +kernel⟩
def y_Row_newlineFrom : MethodName := ⟨"StreamForge$Row", "newlineFrom", "(I)I"⟩
set_option maxRecDepth 100000 in
theorem yi_Row_newlineFrom : z_yV y_Row_newlineFrom prog_12_method_8_code 3 (some .int) 1 := ⟨z_m 902 rfl rfl, z_m 903 rfl rfl, z_m 121 rfl rfl, z_m 904 rfl rfl, nc1_Row, nc2_Row, by decide +kernel⟩
def y_Law_script : MethodName := ⟨"StreamForgeLaw", "script", "(LStreamForge;J[J)I"⟩
def y_Law_clear : MethodName := ⟨"StreamForgeLaw", "clear", "(LStreamForge;I[J)I"⟩
def y_Law_parse : MethodName := ⟨"StreamForgeLaw", "parse", "(LStreamForge;[J)I"⟩
def y_Law_line : MethodName := ⟨"StreamForgeLaw", "line", "(LStreamForge;JJ[J)I"⟩
def y_Law_more : MethodName := ⟨"StreamForgeLaw", "more", "(LStreamForge;J[J)I"⟩
def y_Law_run : MethodName := ⟨"StreamForgeLaw", "run", "(LStreamForge;[J)I"⟩
def y_Law_out : MethodName := ⟨"StreamForgeLaw", "out", "(LStreamForge;I[J)I"⟩
def y_Law_ran : MethodName := ⟨"StreamForgeLaw", "ran", "(LStreamForge;I[J)I"⟩
def y_Law_match : MethodName := ⟨"StreamForgeLaw", "match", "(LStreamForge;III[J)I"⟩
def y_Law_count : MethodName := ⟨"StreamForgeLaw", "count", "(LStreamForge;I[J)I"⟩
def y_Law_law : MethodName := ⟨"StreamForgeLaw", "law", "([I)Z"⟩
set_option maxRecDepth 100000 in
theorem wm_Law_52 : Cond.methodLink "StreamForgeLaw" 52 y_SF_init ∈ zT := z_m 143 rfl rfl
set_option maxRecDepth 100000 in
theorem wm_SF_11 : Cond.methodLink "StreamForge" 11 y_Row_init ∈ zT := z_m 151 rfl rfl
set_option maxRecDepth 100000 in
theorem wm_Pa_20 : Cond.methodLink "StreamForge$Parser" 20 y_Pr_init ∈ zT := z_m 200 rfl rfl
set_option maxRecDepth 100000 in
theorem wm_Ed_11 : Cond.methodLink "StreamForge$Editor" 11 y_Row_init ∈ zT := z_m 256 rfl rfl
set_option maxRecDepth 100000 in
theorem wm_SF_45 : Cond.methodLink "StreamForge" 45 y_Prog_init ∈ zT := z_m 356 rfl rfl
set_option maxRecDepth 100000 in
theorem wm_Prog_11 : Cond.methodLink "StreamForge$Program" 11 y_Row_init ∈ zT := z_m 361 rfl rfl
set_option maxRecDepth 100000 in
theorem wm_Law_75 : Cond.methodLink "StreamForgeLaw" 75 y_SF_where ∈ zT := z_m 580 rfl rfl
set_option maxRecDepth 100000 in
theorem wm_Law_58 : Cond.methodLink "StreamForgeLaw" 58 y_Law_script ∈ zT := z_m 584 rfl rfl
set_option maxRecDepth 100000 in
theorem wm_Law_7 : Cond.methodLink "StreamForgeLaw" 7 y_SF_script ∈ zT := z_m 589 rfl rfl
set_option maxRecDepth 100000 in
theorem wm_SF_57 : Cond.methodLink "StreamForge" 57 y_SF_isText ∈ zT := z_m 593 rfl rfl
set_option maxRecDepth 100000 in
theorem wm_SF_158 : Cond.methodLink "StreamForge" 158 y_SF_byteOf ∈ zT := z_m 596 rfl rfl
set_option maxRecDepth 100000 in
theorem wm_SF_64 : Cond.methodLink "StreamForge" 64 y_SF_textLength ∈ zT := z_m 663 rfl rfl
set_option maxRecDepth 100000 in
theorem wm_SF_68 : Cond.methodLink "StreamForge" 68 y_Row_hasRoom ∈ zT := z_m 666 rfl rfl
set_option maxRecDepth 100000 in
theorem wm_SF_75 : Cond.methodLink "StreamForge" 75 y_SF_addText ∈ zT := z_m 685 rfl rfl
set_option maxRecDepth 100000 in
theorem wm_SF_162 : Cond.methodLink "StreamForge" 162 y_Row_add ∈ zT := z_m 688 rfl rfl
set_option maxRecDepth 100000 in
theorem wm_Law_67 : Cond.methodLink "StreamForgeLaw" 67 y_Law_clear ∈ zT := z_m 692 rfl rfl
set_option maxRecDepth 100000 in
theorem wm_Law_17 : Cond.methodLink "StreamForgeLaw" 17 y_SF_clear ∈ zT := z_m 695 rfl rfl
set_option maxRecDepth 100000 in
theorem wm_SF_82 : Cond.methodLink "StreamForge" 82 y_Row_empty ∈ zT := z_m 699 rfl rfl
set_option maxRecDepth 100000 in
theorem wm_Law_71 : Cond.methodLink "StreamForgeLaw" 71 y_Law_parse ∈ zT := z_m 703 rfl rfl
set_option maxRecDepth 100000 in
theorem wm_Law_21 : Cond.methodLink "StreamForgeLaw" 21 y_SF_parse ∈ zT := z_m 706 rfl rfl
set_option maxRecDepth 100000 in
theorem wm_SF_88 : Cond.methodLink "StreamForge" 88 y_Pa_read ∈ zT := z_m 710 rfl rfl
set_option maxRecDepth 100000 in
theorem wm_Pa_38 : Cond.methodLink "StreamForge$Parser" 38 y_Pa_begin ∈ zT := z_m 714 rfl rfl
set_option maxRecDepth 100000 in
theorem wm_Pa_82 : Cond.methodLink "StreamForge$Parser" 82 y_Row_empty ∈ zT := z_m 718 rfl rfl
set_option maxRecDepth 100000 in
theorem wm_Pa_90 : Cond.methodLink "StreamForge$Parser" 90 y_Row_addPart ∈ zT := z_m 719 rfl rfl
set_option maxRecDepth 100000 in
theorem wm_Pa_42 : Cond.methodLink "StreamForge$Parser" 42 y_Cur_look ∈ zT := z_m 723 rfl rfl
set_option maxRecDepth 100000 in
theorem wm_Pa_49 : Cond.methodLink "StreamForge$Parser" 49 y_Pa_closeBlock ∈ zT := z_m 727 rfl rfl
set_option maxRecDepth 100000 in
theorem wm_Pa_68 : Cond.methodLink "StreamForge$Parser" 68 y_Cur_refuse ∈ zT := z_m 731 rfl rfl
set_option maxRecDepth 100000 in
theorem wm_Pa_53 : Cond.methodLink "StreamForge$Parser" 53 y_Pa_beginCommand ∈ zT := z_m 735 rfl rfl
set_option maxRecDepth 100000 in
theorem wm_Pa_118 : Cond.methodLink "StreamForge$Parser" 118 y_Cmd_reset ∈ zT := z_m 739 rfl rfl
set_option maxRecDepth 100000 in
theorem wm_Pa_56 : Cond.methodLink "StreamForge$Parser" 56 y_Pa_readAddresses ∈ zT := z_m 743 rfl rfl
set_option maxRecDepth 100000 in
theorem wm_Pa_121 : Cond.methodLink "StreamForge$Parser" 121 y_Pa_startsAddress ∈ zT := z_m 747 rfl rfl
set_option maxRecDepth 100000 in
theorem wm_Pa_128 : Cond.methodLink "StreamForge$Parser" 128 y_Pa_readAddress ∈ zT := z_m 750 rfl rfl
set_option maxRecDepth 100000 in
theorem wm_Pa_154 : Cond.methodLink "StreamForge$Parser" 154 y_Pr_read ∈ zT := z_m 754 rfl rfl
set_option maxRecDepth 100000 in
theorem wm_Pr_15 : Cond.methodLink "StreamForge$PatternReader" 15 y_Pr_begin ∈ zT := z_m 758 rfl rfl
set_option maxRecDepth 100000 in
theorem wm_Pr_19 : Cond.methodLink "StreamForge$PatternReader" 19 y_Cur_look ∈ zT := z_m 762 rfl rfl
set_option maxRecDepth 100000 in
theorem wm_Pr_25 : Cond.methodLink "StreamForge$PatternReader" 25 y_Pr_readStar ∈ zT := z_m 763 rfl rfl
set_option maxRecDepth 100000 in
theorem wm_Pr_51 : Cond.methodLink "StreamForge$PatternReader" 51 y_Cur_refuse ∈ zT := z_m 767 rfl rfl
set_option maxRecDepth 100000 in
theorem wm_Pr_29 : Cond.methodLink "StreamForge$PatternReader" 29 y_Pr_readEscape ∈ zT := z_m 768 rfl rfl
set_option maxRecDepth 100000 in
theorem wm_Pr_120 : Cond.methodLink "StreamForge$PatternReader" 120 y_Pr_mayEscape ∈ zT := z_m 772 rfl rfl
set_option maxRecDepth 100000 in
theorem wm_Pr_123 : Cond.methodLink "StreamForge$PatternReader" 123 y_Pr_openGroup ∈ zT := z_m 776 rfl rfl
set_option maxRecDepth 100000 in
theorem wm_Pr_117 : Cond.methodLink "StreamForge$PatternReader" 117 y_It_add ∈ zT := z_m 780 rfl rfl
set_option maxRecDepth 100000 in
theorem wm_Pr_126 : Cond.methodLink "StreamForge$PatternReader" 126 y_Pr_closeGroup ∈ zT := z_m 784 rfl rfl
set_option maxRecDepth 100000 in
theorem wm_Pr_129 : Cond.methodLink "StreamForge$PatternReader" 129 y_Pr_readSame ∈ zT := z_m 788 rfl rfl
set_option maxRecDepth 100000 in
theorem wm_Pr_107 : Cond.methodLink "StreamForge$PatternReader" 107 y_Pr_addOne ∈ zT := z_m 792 rfl rfl
set_option maxRecDepth 100000 in
theorem wm_Pr_113 : Cond.methodLink "StreamForge$PatternReader" 113 y_It_allow ∈ zT := z_m 796 rfl rfl
set_option maxRecDepth 100000 in
theorem wm_Pr_32 : Cond.methodLink "StreamForge$PatternReader" 32 y_Pr_readSet ∈ zT := z_m 800 rfl rfl
set_option maxRecDepth 100000 in
theorem wm_Pr_132 : Cond.methodLink "StreamForge$PatternReader" 132 y_Pr_readRange ∈ zT := z_m 804 rfl rfl
set_option maxRecDepth 100000 in
theorem wm_Pr_135 : Cond.methodLink "StreamForge$PatternReader" 135 y_Pr_isOutsideSets ∈ zT := z_m 808 rfl rfl
set_option maxRecDepth 100000 in
theorem wm_Pr_110 : Cond.methodLink "StreamForge$PatternReader" 110 y_It_turn ∈ zT := z_m 811 rfl rfl
set_option maxRecDepth 100000 in
theorem wm_Pr_55 : Cond.methodLink "StreamForge$PatternReader" 55 y_Cur_pass ∈ zT := z_m 816 rfl rfl
set_option maxRecDepth 100000 in
theorem wm_Cur_31 : Cond.methodLink "StreamForge$Cursor" 31 y_Cur_look ∈ zT := z_m 820 rfl rfl
set_option maxRecDepth 100000 in
theorem wm_Cur_35 : Cond.methodLink "StreamForge$Cursor" 35 y_Cur_refuse ∈ zT := z_m 821 rfl rfl
set_option maxRecDepth 100000 in
theorem wm_Pr_35 : Cond.methodLink "StreamForge$PatternReader" 35 y_Pr_mayEnd ∈ zT := z_m 822 rfl rfl
set_option maxRecDepth 100000 in
theorem wm_Pr_38 : Cond.methodLink "StreamForge$PatternReader" 38 y_Pr_readEnd ∈ zT := z_m 826 rfl rfl
set_option maxRecDepth 100000 in
theorem wm_Pr_41 : Cond.methodLink "StreamForge$PatternReader" 41 y_Pr_readPlain ∈ zT := z_m 830 rfl rfl
set_option maxRecDepth 100000 in
theorem wm_Pr_44 : Cond.methodLink "StreamForge$PatternReader" 44 y_Pr_finish ∈ zT := z_m 834 rfl rfl
set_option maxRecDepth 100000 in
theorem wm_Pa_138 : Cond.methodLink "StreamForge$Parser" 138 y_Pa_passBlanks ∈ zT := z_m 838 rfl rfl
set_option maxRecDepth 100000 in
theorem wm_Pa_59 : Cond.methodLink "StreamForge$Parser" 59 y_Pa_readAction ∈ zT := z_m 842 rfl rfl
set_option maxRecDepth 100000 in
theorem wm_Pa_163 : Cond.methodLink "StreamForge$Parser" 163 y_Pa_openBlock ∈ zT := z_m 846 rfl rfl
set_option maxRecDepth 100000 in
theorem wm_Pa_166 : Cond.methodLink "StreamForge$Parser" 166 y_Pa_placeLabel ∈ zT := z_m 850 rfl rfl
set_option maxRecDepth 100000 in
theorem wm_Pa_184 : Cond.methodLink "StreamForge$Parser" 184 y_Pa_isLetter ∈ zT := z_m 854 rfl rfl
set_option maxRecDepth 100000 in
theorem wm_Pa_169 : Cond.methodLink "StreamForge$Parser" 169 y_Pa_endCommand ∈ zT := z_m 857 rfl rfl
set_option maxRecDepth 100000 in
theorem wm_Pa_172 : Cond.methodLink "StreamForge$Parser" 172 y_Pa_readBranch ∈ zT := z_m 861 rfl rfl
set_option maxRecDepth 100000 in
theorem wm_Pa_175 : Cond.methodLink "StreamForge$Parser" 175 y_Pa_readSubstitution ∈ zT := z_m 865 rfl rfl
set_option maxRecDepth 100000 in
theorem wm_Pa_190 : Cond.methodLink "StreamForge$Parser" 190 y_Cur_pass ∈ zT := z_m 869 rfl rfl
set_option maxRecDepth 100000 in
theorem wm_Pa_203 : Cond.methodLink "StreamForge$Parser" 203 y_Pa_readReplacement ∈ zT := z_m 870 rfl rfl
set_option maxRecDepth 100000 in
theorem wm_Pa_209 : Cond.methodLink "StreamForge$Parser" 209 y_Pa_mayFollowBackslash ∈ zT := z_m 874 rfl rfl
set_option maxRecDepth 100000 in
theorem wm_Pa_206 : Cond.methodLink "StreamForge$Parser" 206 y_Pa_readFlags ∈ zT := z_m 878 rfl rfl
set_option maxRecDepth 100000 in
theorem wm_Pa_178 : Cond.methodLink "StreamForge$Parser" 178 y_Pa_readExchange ∈ zT := z_m 882 rfl rfl
set_option maxRecDepth 100000 in
theorem wm_Pa_226 : Cond.methodLink "StreamForge$Parser" 226 y_Pa_isExchangeable ∈ zT := z_m 886 rfl rfl
set_option maxRecDepth 100000 in
theorem wm_Pa_229 : Cond.methodLink "StreamForge$Parser" 229 y_Pa_wasExchanged ∈ zT := z_m 889 rfl rfl
set_option maxRecDepth 100000 in
theorem wm_Pa_235 : Cond.methodLink "StreamForge$Parser" 235 y_Row_at ∈ zT := z_m 893 rfl rfl
set_option maxRecDepth 100000 in
theorem wm_Pa_181 : Cond.methodLink "StreamForge$Parser" 181 y_Pa_readText ∈ zT := z_m 897 rfl rfl
set_option maxRecDepth 100000 in
theorem wm_Pa_196 : Cond.methodLink "StreamForge$Parser" 196 y_Row_newlineFrom ∈ zT := z_m 901 rfl rfl
set_option maxRecDepth 100000 in
theorem wm_Pa_65 : Cond.methodLink "StreamForge$Parser" 65 y_Pa_joinLabels ∈ zT := z_m 905 rfl rfl
set_option maxRecDepth 100000 in
theorem wm_SF_92 : Cond.methodLink "StreamForge" 92 y_Pa_refusedAt ∈ zT := z_m 909 rfl rfl
set_option maxRecDepth 100000 in
theorem wm_Law_79 : Cond.methodLink "StreamForgeLaw" 79 y_Law_line ∈ zT := z_m 913 rfl rfl
set_option maxRecDepth 100000 in
theorem wm_Law_25 : Cond.methodLink "StreamForgeLaw" 25 y_SF_line ∈ zT := z_m 916 rfl rfl
set_option maxRecDepth 100000 in
theorem wm_Law_83 : Cond.methodLink "StreamForgeLaw" 83 y_Law_more ∈ zT := z_m 920 rfl rfl
set_option maxRecDepth 100000 in
theorem wm_Law_29 : Cond.methodLink "StreamForgeLaw" 29 y_SF_more ∈ zT := z_m 923 rfl rfl
set_option maxRecDepth 100000 in
theorem wm_Law_86 : Cond.methodLink "StreamForgeLaw" 86 y_Law_run ∈ zT := z_m 927 rfl rfl
set_option maxRecDepth 100000 in
theorem wm_Law_32 : Cond.methodLink "StreamForgeLaw" 32 y_SF_run ∈ zT := z_m 932 rfl rfl
set_option maxRecDepth 100000 in
theorem wm_SF_102 : Cond.methodLink "StreamForge" 102 y_Ed_edit ∈ zT := z_m 936 rfl rfl
set_option maxRecDepth 100000 in
theorem wm_Ed_51 : Cond.methodLink "StreamForge$Editor" 51 y_Ed_begin ∈ zT := z_m 940 rfl rfl
set_option maxRecDepth 100000 in
theorem wm_Ed_96 : Cond.methodLink "StreamForge$Editor" 96 y_Row_empty ∈ zT := z_m 944 rfl rfl
set_option maxRecDepth 100000 in
theorem wm_Ed_111 : Cond.methodLink "StreamForge$Editor" 111 y_Ed_beginLine ∈ zT := z_m 945 rfl rfl
set_option maxRecDepth 100000 in
theorem wm_Ed_114 : Cond.methodLink "StreamForge$Editor" 114 y_Ed_readLine ∈ zT := z_m 949 rfl rfl
set_option maxRecDepth 100000 in
theorem wm_Ed_126 : Cond.methodLink "StreamForge$Editor" 126 y_Row_addPart ∈ zT := z_m 953 rfl rfl
set_option maxRecDepth 100000 in
theorem wm_Ed_117 : Cond.methodLink "StreamForge$Editor" 117 y_Ed_beginCycle ∈ zT := z_m 954 rfl rfl
set_option maxRecDepth 100000 in
theorem wm_Ed_66 : Cond.methodLink "StreamForge$Editor" 66 y_Ed_endCycle ∈ zT := z_m 958 rfl rfl
set_option maxRecDepth 100000 in
theorem wm_Ed_130 : Cond.methodLink "StreamForge$Editor" 130 y_Ed_tell ∈ zT := z_m 962 rfl rfl
set_option maxRecDepth 100000 in
theorem wm_Ed_136 : Cond.methodLink "StreamForge$Editor" 136 y_Row_hasRoom ∈ zT := z_m 966 rfl rfl
set_option maxRecDepth 100000 in
theorem wm_Ed_143 : Cond.methodLink "StreamForge$Editor" 143 y_Row_add ∈ zT := z_m 982 rfl rfl
set_option maxRecDepth 100000 in
theorem wm_Ed_133 : Cond.methodLink "StreamForge$Editor" 133 y_Ed_tellAppended ∈ zT := z_m 983 rfl rfl
set_option maxRecDepth 100000 in
theorem wm_Ed_80 : Cond.methodLink "StreamForge$Editor" 80 y_Ed_isDone ∈ zT := z_m 1002 rfl rfl
set_option maxRecDepth 100000 in
theorem wm_Ed_157 : Cond.methodLink "StreamForge$Editor" 157 y_Ed_fits ∈ zT := z_m 1006 rfl rfl
set_option maxRecDepth 100000 in
theorem wm_Ed_187 : Cond.methodLink "StreamForge$Editor" 187 y_Ma_find ∈ zT := z_m 1010 rfl rfl
set_option maxRecDepth 100000 in
theorem wm_Ma_48 : Cond.methodLink "StreamForge$Matcher" 48 y_Ma_findLongest ∈ zT := z_m 1014 rfl rfl
set_option maxRecDepth 100000 in
theorem wm_Ma_67 : Cond.methodLink "StreamForge$Matcher" 67 y_Ma_walk ∈ zT := z_m 1018 rfl rfl
set_option maxRecDepth 100000 in
theorem wm_Ma_103 : Cond.methodLink "StreamForge$Matcher" 103 y_Ma_standsAgain ∈ zT := z_m 1022 rfl rfl
set_option maxRecDepth 100000 in
theorem wm_Ma_92 : Cond.methodLink "StreamForge$Matcher" 92 y_It_takes ∈ zT := z_m 1026 rfl rfl
set_option maxRecDepth 100000 in
theorem wm_Ma_71 : Cond.methodLink "StreamForge$Matcher" 71 y_Ma_repeats ∈ zT := z_m 1030 rfl rfl
set_option maxRecDepth 100000 in
theorem wm_Ma_81 : Cond.methodLink "StreamForge$Matcher" 81 y_Ma_keepIfLongest ∈ zT := z_m 1034 rfl rfl
set_option maxRecDepth 100000 in
theorem wm_Ed_164 : Cond.methodLink "StreamForge$Editor" 164 y_Ed_isReached ∈ zT := z_m 1038 rfl rfl
set_option maxRecDepth 100000 in
theorem wm_Ed_84 : Cond.methodLink "StreamForge$Editor" 84 y_Ed_perform ∈ zT := z_m 1042 rfl rfl
set_option maxRecDepth 100000 in
theorem wm_Ed_191 : Cond.methodLink "StreamForge$Editor" 191 y_Ed_branchIfReplaced ∈ zT := z_m 1046 rfl rfl
set_option maxRecDepth 100000 in
theorem wm_Ed_194 : Cond.methodLink "StreamForge$Editor" 194 y_Ed_substitute ∈ zT := z_m 1050 rfl rfl
set_option maxRecDepth 100000 in
theorem wm_Ed_262 : Cond.methodLink "StreamForge$Editor" 262 y_Cmd_replaces ∈ zT := z_m 1054 rfl rfl
set_option maxRecDepth 100000 in
theorem wm_Ed_265 : Cond.methodLink "StreamForge$Editor" 265 y_Ed_draftPart ∈ zT := z_m 1061 rfl rfl
set_option maxRecDepth 100000 in
theorem wm_Ed_269 : Cond.methodLink "StreamForge$Editor" 269 y_Ed_draftReplacement ∈ zT := z_m 1065 rfl rfl
set_option maxRecDepth 100000 in
theorem wm_Ed_247 : Cond.methodLink "StreamForge$Editor" 247 y_Row_at ∈ zT := z_m 1069 rfl rfl
set_option maxRecDepth 100000 in
theorem wm_Ed_279 : Cond.methodLink "StreamForge$Editor" 279 y_Ma_beginOf ∈ zT := z_m 1070 rfl rfl
set_option maxRecDepth 100000 in
theorem wm_Ed_282 : Cond.methodLink "StreamForge$Editor" 282 y_Ma_endOf ∈ zT := z_m 1074 rfl rfl
set_option maxRecDepth 100000 in
theorem wm_Ed_285 : Cond.methodLink "StreamForge$Editor" 285 y_Ed_draftCharacter ∈ zT := z_m 1078 rfl rfl
set_option maxRecDepth 100000 in
theorem wm_Ed_272 : Cond.methodLink "StreamForge$Editor" 272 y_Ed_takeDraft ∈ zT := z_m 1082 rfl rfl
set_option maxRecDepth 100000 in
theorem wm_Ed_197 : Cond.methodLink "StreamForge$Editor" 197 y_Ed_exchange ∈ zT := z_m 1086 rfl rfl
set_option maxRecDepth 100000 in
theorem wm_Ed_200 : Cond.methodLink "StreamForge$Editor" 200 y_Ed_append ∈ zT := z_m 1090 rfl rfl
set_option maxRecDepth 100000 in
theorem wm_Ed_212 : Cond.methodLink "StreamForge$Editor" 212 y_Ed_change ∈ zT := z_m 1094 rfl rfl
set_option maxRecDepth 100000 in
theorem wm_Ed_215 : Cond.methodLink "StreamForge$Editor" 215 y_Ed_deleteFirst ∈ zT := z_m 1098 rfl rfl
set_option maxRecDepth 100000 in
theorem wm_Ed_218 : Cond.methodLink "StreamForge$Editor" 218 y_Row_newlineFrom ∈ zT := z_m 1102 rfl rfl
set_option maxRecDepth 100000 in
theorem wm_Ed_244 : Cond.methodLink "StreamForge$Editor" 244 y_Row_dropFirst ∈ zT := z_m 1103 rfl rfl
set_option maxRecDepth 100000 in
theorem wm_Ed_222 : Cond.methodLink "StreamForge$Editor" 222 y_Ed_replaceByNext ∈ zT := z_m 1107 rfl rfl
set_option maxRecDepth 100000 in
theorem wm_Ed_241 : Cond.methodLink "StreamForge$Editor" 241 y_Ed_quit ∈ zT := z_m 1111 rfl rfl
set_option maxRecDepth 100000 in
theorem wm_Ed_225 : Cond.methodLink "StreamForge$Editor" 225 y_Ed_joinNext ∈ zT := z_m 1115 rfl rfl
set_option maxRecDepth 100000 in
theorem wm_Ed_228 : Cond.methodLink "StreamForge$Editor" 228 y_Ed_copy ∈ zT := z_m 1119 rfl rfl
set_option maxRecDepth 100000 in
theorem wm_Ed_232 : Cond.methodLink "StreamForge$Editor" 232 y_Ed_join ∈ zT := z_m 1123 rfl rfl
set_option maxRecDepth 100000 in
theorem wm_Ed_235 : Cond.methodLink "StreamForge$Editor" 235 y_Ed_swap ∈ zT := z_m 1127 rfl rfl
set_option maxRecDepth 100000 in
theorem wm_Ed_238 : Cond.methodLink "StreamForge$Editor" 238 y_Ed_tellNumber ∈ zT := z_m 1131 rfl rfl
set_option maxRecDepth 100000 in
theorem wm_Law_89 : Cond.methodLink "StreamForgeLaw" 89 y_Law_out ∈ zT := z_m 1135 rfl rfl
set_option maxRecDepth 100000 in
theorem wm_Law_39 : Cond.methodLink "StreamForgeLaw" 39 y_SF_out ∈ zT := z_m 1138 rfl rfl
set_option maxRecDepth 100000 in
theorem wm_SF_109 : Cond.methodLink "StreamForge" 109 y_Row_at ∈ zT := z_m 1142 rfl rfl
set_option maxRecDepth 100000 in
theorem wm_Law_92 : Cond.methodLink "StreamForgeLaw" 92 y_Law_ran ∈ zT := z_m 1145 rfl rfl
set_option maxRecDepth 100000 in
theorem wm_Law_42 : Cond.methodLink "StreamForgeLaw" 42 y_SF_ran ∈ zT := z_m 1148 rfl rfl
set_option maxRecDepth 100000 in
theorem wm_Law_95 : Cond.methodLink "StreamForgeLaw" 95 y_Law_match ∈ zT := z_m 1152 rfl rfl
set_option maxRecDepth 100000 in
theorem wm_Law_45 : Cond.methodLink "StreamForgeLaw" 45 y_SF_match ∈ zT := z_m 1155 rfl rfl
set_option maxRecDepth 100000 in
theorem wm_SF_151 : Cond.methodLink "StreamForge" 151 y_Ma_find ∈ zT := z_m 1159 rfl rfl
set_option maxRecDepth 100000 in
theorem wm_SF_155 : Cond.methodLink "StreamForge" 155 y_Ma_told ∈ zT := z_m 1160 rfl rfl
set_option maxRecDepth 100000 in
theorem wm_Law_99 : Cond.methodLink "StreamForgeLaw" 99 y_Law_count ∈ zT := z_m 1164 rfl rfl
set_option maxRecDepth 100000 in
theorem wm_Law_49 : Cond.methodLink "StreamForgeLaw" 49 y_SF_count ∈ zT := z_m 1167 rfl rfl
set_option maxRecDepth 100000 in
theorem wm_Law_55 : Cond.methodLink "StreamForgeLaw" 55 y_Mod_init ∈ zT := z_m 1173 rfl rfl
set_option maxRecDepth 100000 in
theorem wm_Law_64 : Cond.methodLink "StreamForgeLaw" 64 y_Mod_thrown ∈ zT := z_m 1410 rfl rfl
set_option maxRecDepth 100000 in
theorem wm_Law_63 : Cond.methodLink "StreamForgeLaw" 63 y_Mod_script ∈ zT := z_m 1414 rfl rfl
set_option maxRecDepth 100000 in
theorem wm_Mod_158 : Cond.methodLink "StreamForgeModel" 158 y_Mod_measure ∈ zT := z_m 1418 rfl rfl
set_option maxRecDepth 100000 in
theorem wm_Mod_154 : Cond.methodLink "StreamForgeModel" 154 y_Mod_in ∈ zT := z_m 1421 rfl rfl
set_option maxRecDepth 100000 in
theorem wm_Mod_162 : Cond.methodLink "StreamForgeModel" 162 y_Mod_fail ∈ zT := z_m 1424 rfl rfl
set_option maxRecDepth 100000 in
theorem wm_Law_70 : Cond.methodLink "StreamForgeLaw" 70 y_Mod_clear ∈ zT := z_m 1428 rfl rfl
set_option maxRecDepth 100000 in
theorem wm_Law_82 : Cond.methodLink "StreamForgeLaw" 82 y_Mod_line ∈ zT := z_m 1432 rfl rfl
set_option maxRecDepth 100000 in
theorem wm_Mod_172 : Cond.methodLink "StreamForgeModel" 172 y_Mod_addTo ∈ zT := z_m 1436 rfl rfl
set_option maxRecDepth 100000 in
theorem wm_Law_85 : Cond.methodLink "StreamForgeLaw" 85 y_Mod_more ∈ zT := z_m 1440 rfl rfl
set_option maxRecDepth 100000 in
theorem wm_Law_74 : Cond.methodLink "StreamForgeLaw" 74 y_Mod_parse ∈ zT := z_m 1444 rfl rfl
set_option maxRecDepth 100000 in
theorem wm_Mod_187 : Cond.methodLink "StreamForgeModel" 187 y_Mod_wrong ∈ zT := z_m 1448 rfl rfl
set_option maxRecDepth 100000 in
theorem wm_Mod_287 : Cond.methodLink "StreamForgeModel" 287 y_Mod_command ∈ zT := z_m 1452 rfl rfl
set_option maxRecDepth 100000 in
theorem wm_Mod_255 : Cond.methodLink "StreamForgeModel" 255 y_Mod_address ∈ zT := z_m 1456 rfl rfl
set_option maxRecDepth 100000 in
theorem wm_Mod_183 : Cond.methodLink "StreamForgeModel" 183 y_Mod_here ∈ zT := z_m 1460 rfl rfl
set_option maxRecDepth 100000 in
theorem wm_Mod_237 : Cond.methodLink "StreamForgeModel" 237 y_Mod_readPattern ∈ zT := z_m 1464 rfl rfl
set_option maxRecDepth 100000 in
theorem wm_Mod_200 : Cond.methodLink "StreamForgeModel" 200 y_Mod_behind ∈ zT := z_m 1468 rfl rfl
set_option maxRecDepth 100000 in
theorem wm_Mod_225 : Cond.methodLink "StreamForgeModel" 225 y_Mod_escaped ∈ zT := z_m 1472 rfl rfl
set_option maxRecDepth 100000 in
theorem wm_Mod_209 : Cond.methodLink "StreamForgeModel" 209 y_Mod_addItem ∈ zT := z_m 1476 rfl rfl
set_option maxRecDepth 100000 in
theorem wm_Mod_228 : Cond.methodLink "StreamForgeModel" 228 y_Mod_set ∈ zT := z_m 1480 rfl rfl
set_option maxRecDepth 100000 in
theorem wm_Mod_213 : Cond.methodLink "StreamForgeModel" 213 y_Mod_isMember ∈ zT := z_m 1484 rfl rfl
set_option maxRecDepth 100000 in
theorem wm_Mod_217 : Cond.methodLink "StreamForgeModel" 217 y_Mod_put ∈ zT := z_m 1488 rfl rfl
set_option maxRecDepth 100000 in
theorem wm_Mod_231 : Cond.methodLink "StreamForgeModel" 231 y_Mod_star ∈ zT := z_m 1493 rfl rfl
set_option maxRecDepth 100000 in
theorem wm_Mod_258 : Cond.methodLink "StreamForgeModel" 258 y_Mod_blanks ∈ zT := z_m 1497 rfl rfl
set_option maxRecDepth 100000 in
theorem wm_Mod_264 : Cond.methodLink "StreamForgeModel" 264 y_Mod_label ∈ zT := z_m 1501 rfl rfl
set_option maxRecDepth 100000 in
theorem wm_Mod_252 : Cond.methodLink "StreamForgeModel" 252 y_Mod_closed ∈ zT := z_m 1505 rfl rfl
set_option maxRecDepth 100000 in
theorem wm_Mod_268 : Cond.methodLink "StreamForgeModel" 268 y_Mod_branch ∈ zT := z_m 1509 rfl rfl
set_option maxRecDepth 100000 in
theorem wm_Mod_271 : Cond.methodLink "StreamForgeModel" 271 y_Mod_substitute ∈ zT := z_m 1513 rfl rfl
set_option maxRecDepth 100000 in
theorem wm_Mod_246 : Cond.methodLink "StreamForgeModel" 246 y_Mod_expect ∈ zT := z_m 1517 rfl rfl
set_option maxRecDepth 100000 in
theorem wm_Mod_249 : Cond.methodLink "StreamForgeModel" 249 y_Mod_replacement ∈ zT := z_m 1521 rfl rfl
set_option maxRecDepth 100000 in
theorem wm_Mod_240 : Cond.methodLink "StreamForgeModel" 240 y_Mod_stored ∈ zT := z_m 1525 rfl rfl
set_option maxRecDepth 100000 in
theorem wm_Mod_243 : Cond.methodLink "StreamForgeModel" 243 y_Mod_keep ∈ zT := z_m 1529 rfl rfl
set_option maxRecDepth 100000 in
theorem wm_Mod_274 : Cond.methodLink "StreamForgeModel" 274 y_Mod_exchange ∈ zT := z_m 1533 rfl rfl
set_option maxRecDepth 100000 in
theorem wm_Mod_277 : Cond.methodLink "StreamForgeModel" 277 y_Mod_readText ∈ zT := z_m 1537 rfl rfl
set_option maxRecDepth 100000 in
theorem wm_Mod_280 : Cond.methodLink "StreamForgeModel" 280 y_Mod_isPlain ∈ zT := z_m 1541 rfl rfl
set_option maxRecDepth 100000 in
theorem wm_Mod_290 : Cond.methodLink "StreamForgeModel" 290 y_Mod_goals ∈ zT := z_m 1544 rfl rfl
set_option maxRecDepth 100000 in
theorem wm_Law_78 : Cond.methodLink "StreamForgeLaw" 78 y_Mod_where ∈ zT := z_m 1548 rfl rfl
set_option maxRecDepth 100000 in
theorem wm_Law_98 : Cond.methodLink "StreamForgeLaw" 98 y_Mod_match ∈ zT := z_m 1552 rfl rfl
set_option maxRecDepth 100000 in
theorem wm_Mod_322 : Cond.methodLink "StreamForgeModel" 322 y_Mod_takeLine ∈ zT := z_m 1556 rfl rfl
set_option maxRecDepth 100000 in
theorem wm_Mod_325 : Cond.methodLink "StreamForgeModel" 325 y_Mod_find ∈ zT := z_m 1560 rfl rfl
set_option maxRecDepth 100000 in
theorem wm_Mod_306 : Cond.methodLink "StreamForgeModel" 306 y_Mod_starsOf ∈ zT := z_m 1564 rfl rfl
set_option maxRecDepth 100000 in
theorem wm_Mod_309 : Cond.methodLink "StreamForgeModel" 309 y_Mod_way ∈ zT := z_m 1568 rfl rfl
set_option maxRecDepth 100000 in
theorem wm_Mod_302 : Cond.methodLink "StreamForgeModel" 302 y_Mod_fits ∈ zT := z_m 1572 rfl rfl
set_option maxRecDepth 100000 in
theorem wm_Law_88 : Cond.methodLink "StreamForgeLaw" 88 y_Mod_run ∈ zT := z_m 1576 rfl rfl
set_option maxRecDepth 100000 in
theorem wm_Mod_384 : Cond.methodLink "StreamForgeModel" 384 y_Mod_readLine ∈ zT := z_m 1580 rfl rfl
set_option maxRecDepth 100000 in
theorem wm_Mod_390 : Cond.methodLink "StreamForgeModel" 390 y_Mod_endCycle ∈ zT := z_m 1584 rfl rfl
set_option maxRecDepth 100000 in
theorem wm_Mod_374 : Cond.methodLink "StreamForgeModel" 374 y_Mod_tellSpace ∈ zT := z_m 1588 rfl rfl
set_option maxRecDepth 100000 in
theorem wm_Mod_340 : Cond.methodLink "StreamForgeModel" 340 y_Mod_tell ∈ zT := z_m 1592 rfl rfl
set_option maxRecDepth 100000 in
theorem wm_Mod_337 : Cond.methodLink "StreamForgeModel" 337 y_Mod_full ∈ zT := z_m 1596 rfl rfl
set_option maxRecDepth 100000 in
theorem wm_Mod_381 : Cond.methodLink "StreamForgeModel" 381 y_Mod_tellAppended ∈ zT := z_m 1600 rfl rfl
set_option maxRecDepth 100000 in
theorem wm_Mod_422 : Cond.methodLink "StreamForgeModel" 422 y_Mod_isDone ∈ zT := z_m 1604 rfl rfl
set_option maxRecDepth 100000 in
theorem wm_Mod_355 : Cond.methodLink "StreamForgeModel" 355 y_Mod_fitsAddress ∈ zT := z_m 1608 rfl rfl
set_option maxRecDepth 100000 in
theorem wm_Mod_349 : Cond.methodLink "StreamForgeModel" 349 y_Mod_takeSpace ∈ zT := z_m 1612 rfl rfl
set_option maxRecDepth 100000 in
theorem wm_Mod_425 : Cond.methodLink "StreamForgeModel" 425 y_Mod_perform ∈ zT := z_m 1616 rfl rfl
set_option maxRecDepth 100000 in
theorem wm_Mod_394 : Cond.methodLink "StreamForgeModel" 394 y_Mod_substituted ∈ zT := z_m 1620 rfl rfl
set_option maxRecDepth 100000 in
theorem wm_Mod_361 : Cond.methodLink "StreamForgeModel" 361 y_Mod_copyOf ∈ zT := z_m 1624 rfl rfl
set_option maxRecDepth 100000 in
theorem wm_Mod_358 : Cond.methodLink "StreamForgeModel" 358 y_Mod_add ∈ zT := z_m 1628 rfl rfl
set_option maxRecDepth 100000 in
theorem wm_Mod_365 : Cond.methodLink "StreamForgeModel" 365 y_Mod_addReplacement ∈ zT := z_m 1632 rfl rfl
set_option maxRecDepth 100000 in
theorem wm_Mod_397 : Cond.methodLink "StreamForgeModel" 397 y_Mod_exchanged ∈ zT := z_m 1636 rfl rfl
set_option maxRecDepth 100000 in
theorem wm_Mod_400 : Cond.methodLink "StreamForgeModel" 400 y_Mod_append ∈ zT := z_m 1640 rfl rfl
set_option maxRecDepth 100000 in
theorem wm_Mod_403 : Cond.methodLink "StreamForgeModel" 403 y_Mod_tellText ∈ zT := z_m 1644 rfl rfl
set_option maxRecDepth 100000 in
theorem wm_Mod_406 : Cond.methodLink "StreamForgeModel" 406 y_Mod_cut ∈ zT := z_m 1648 rfl rfl
set_option maxRecDepth 100000 in
theorem wm_Mod_409 : Cond.methodLink "StreamForgeModel" 409 y_Mod_nextLine ∈ zT := z_m 1652 rfl rfl
set_option maxRecDepth 100000 in
theorem wm_Mod_413 : Cond.methodLink "StreamForgeModel" 413 y_Mod_tellNumber ∈ zT := z_m 1656 rfl rfl
set_option maxRecDepth 100000 in
theorem wm_Mod_416 : Cond.methodLink "StreamForgeModel" 416 y_Mod_holds ∈ zT := z_m 1660 rfl rfl
set_option maxRecDepth 100000 in
theorem wm_Law_91 : Cond.methodLink "StreamForgeLaw" 91 y_Mod_out ∈ zT := z_m 1664 rfl rfl
set_option maxRecDepth 100000 in
theorem wm_Law_94 : Cond.methodLink "StreamForgeLaw" 94 y_Mod_ran ∈ zT := z_m 1668 rfl rfl
set_option maxRecDepth 100000 in
theorem wm_Law_101 : Cond.methodLink "StreamForgeLaw" 101 y_Mod_count ∈ zT := z_m 1672 rfl rfl
set_option maxRecDepth 100000 in
theorem wf_Row_9 : Cond.fieldLink "StreamForge$Row" 9 "StreamForge$Row" "chars" "[C" ∈ zT := z_m 155 rfl rfl
set_option maxRecDepth 100000 in
theorem wf_Cur_24 : Cond.fieldLink "StreamForge$Cursor" 24 "StreamForge$Row" "chars" "[C" ∈ zT := z_m 156 rfl rfl
set_option maxRecDepth 100000 in
theorem wf_Ma_88 : Cond.fieldLink "StreamForge$Matcher" 88 "StreamForge$Row" "chars" "[C" ∈ zT := z_m 157 rfl rfl
set_option maxRecDepth 100000 in
theorem wf_Ed_146 : Cond.fieldLink "StreamForge$Editor" 146 "StreamForge$Row" "chars" "[C" ∈ zT := z_m 158 rfl rfl
set_option maxRecDepth 100000 in
theorem wf_Row_15 : Cond.fieldLink "StreamForge$Row" 15 "StreamForge$Row" "length" "I" ∈ zT := z_m 159 rfl rfl
set_option maxRecDepth 100000 in
theorem wf_Cur_19 : Cond.fieldLink "StreamForge$Cursor" 19 "StreamForge$Row" "length" "I" ∈ zT := z_m 160 rfl rfl
set_option maxRecDepth 100000 in
theorem wf_Ma_42 : Cond.fieldLink "StreamForge$Matcher" 42 "StreamForge$Row" "length" "I" ∈ zT := z_m 161 rfl rfl
set_option maxRecDepth 100000 in
theorem wf_SF_79 : Cond.fieldLink "StreamForge" 79 "StreamForge$Row" "length" "I" ∈ zT := z_m 162 rfl rfl
set_option maxRecDepth 100000 in
theorem wf_Pa_87 : Cond.fieldLink "StreamForge$Parser" 87 "StreamForge$Row" "length" "I" ∈ zT := z_m 163 rfl rfl
set_option maxRecDepth 100000 in
theorem wf_Ed_123 : Cond.fieldLink "StreamForge$Editor" 123 "StreamForge$Row" "length" "I" ∈ zT := z_m 164 rfl rfl
set_option maxRecDepth 100000 in
theorem wf_Cur_15 : Cond.fieldLink "StreamForge$Cursor" 15 "StreamForge$Cursor" "text" "LStreamForge$Row;" ∈ zT := z_m 184 rfl rfl
set_option maxRecDepth 100000 in
theorem wf_Pa_104 : Cond.fieldLink "StreamForge$Parser" 104 "StreamForge$Cursor" "text" "LStreamForge$Row;" ∈ zT := z_m 185 rfl rfl
set_option maxRecDepth 100000 in
theorem wf_Cur_9 : Cond.fieldLink "StreamForge$Cursor" 9 "StreamForge$Cursor" "at" "I" ∈ zT := z_m 186 rfl rfl
set_option maxRecDepth 100000 in
theorem wf_Pa_46 : Cond.fieldLink "StreamForge$Parser" 46 "StreamForge$Cursor" "at" "I" ∈ zT := z_m 187 rfl rfl
set_option maxRecDepth 100000 in
theorem wf_Pr_86 : Cond.fieldLink "StreamForge$PatternReader" 86 "StreamForge$Cursor" "at" "I" ∈ zT := z_m 188 rfl rfl
set_option maxRecDepth 100000 in
theorem wf_Pa_34 : Cond.fieldLink "StreamForge$Parser" 34 "StreamForge$Cursor" "refusedAt" "I" ∈ zT := z_m 189 rfl rfl
set_option maxRecDepth 100000 in
theorem wf_Cur_28 : Cond.fieldLink "StreamForge$Cursor" 28 "StreamForge$Cursor" "refusedAt" "I" ∈ zT := z_m 190 rfl rfl
set_option maxRecDepth 100000 in
theorem wf_Pr_9 : Cond.fieldLink "StreamForge$PatternReader" 9 "StreamForge$PatternReader" "cursor" "LStreamForge$Cursor;" ∈ zT := z_m 204 rfl rfl
set_option maxRecDepth 100000 in
theorem wf_Pr_62 : Cond.fieldLink "StreamForge$PatternReader" 62 "StreamForge$PatternReader" "items" "LStreamForge$Items;" ∈ zT := z_m 205 rfl rfl
set_option maxRecDepth 100000 in
theorem wf_Pr_58 : Cond.fieldLink "StreamForge$PatternReader" 58 "StreamForge$PatternReader" "pattern" "LStreamForge$Pattern;" ∈ zT := z_m 206 rfl rfl
set_option maxRecDepth 100000 in
theorem wf_Pr_89 : Cond.fieldLink "StreamForge$PatternReader" 89 "StreamForge$PatternReader" "itemCount" "I" ∈ zT := z_m 207 rfl rfl
set_option maxRecDepth 100000 in
theorem wf_Pr_92 : Cond.fieldLink "StreamForge$PatternReader" 92 "StreamForge$PatternReader" "starCount" "I" ∈ zT := z_m 208 rfl rfl
set_option maxRecDepth 100000 in
theorem wf_Pr_47 : Cond.fieldLink "StreamForge$PatternReader" 47 "StreamForge$PatternReader" "groupOpen" "Z" ∈ zT := z_m 209 rfl rfl
set_option maxRecDepth 100000 in
theorem wf_Pr_95 : Cond.fieldLink "StreamForge$PatternReader" 95 "StreamForge$PatternReader" "repeatable" "Z" ∈ zT := z_m 210 rfl rfl
set_option maxRecDepth 100000 in
theorem wf_Pa_12 : Cond.fieldLink "StreamForge$Parser" 12 "StreamForge$Parser" "cursor" "LStreamForge$Cursor;" ∈ zT := z_m 226 rfl rfl
set_option maxRecDepth 100000 in
theorem wf_Pa_23 : Cond.fieldLink "StreamForge$Parser" 23 "StreamForge$Parser" "patterns" "LStreamForge$PatternReader;" ∈ zT := z_m 227 rfl rfl
set_option maxRecDepth 100000 in
theorem wf_Pa_27 : Cond.fieldLink "StreamForge$Parser" 27 "StreamForge$Parser" "openBlocks" "[I" ∈ zT := z_m 228 rfl rfl
set_option maxRecDepth 100000 in
theorem wf_Pa_31 : Cond.fieldLink "StreamForge$Parser" 31 "StreamForge$Parser" "behindLabel" "[I" ∈ zT := z_m 229 rfl rfl
set_option maxRecDepth 100000 in
theorem wf_Pa_62 : Cond.fieldLink "StreamForge$Parser" 62 "StreamForge$Parser" "depth" "I" ∈ zT := z_m 230 rfl rfl
set_option maxRecDepth 100000 in
theorem wf_Pa_72 : Cond.fieldLink "StreamForge$Parser" 72 "StreamForge$Parser" "program" "LStreamForge$Program;" ∈ zT := z_m 231 rfl rfl
set_option maxRecDepth 100000 in
theorem wf_Pa_114 : Cond.fieldLink "StreamForge$Parser" 114 "StreamForge$Parser" "command" "LStreamForge$Command;" ∈ zT := z_m 232 rfl rfl
set_option maxRecDepth 100000 in
theorem wf_Ma_55 : Cond.fieldLink "StreamForge$Matcher" 55 "StreamForge$Matcher" "begin" "I" ∈ zT := z_m 263 rfl rfl
set_option maxRecDepth 100000 in
theorem wf_Ed_257 : Cond.fieldLink "StreamForge$Editor" 257 "StreamForge$Matcher" "begin" "I" ∈ zT := z_m 264 rfl rfl
set_option maxRecDepth 100000 in
theorem wf_Ma_58 : Cond.fieldLink "StreamForge$Matcher" 58 "StreamForge$Matcher" "end" "I" ∈ zT := z_m 265 rfl rfl
set_option maxRecDepth 100000 in
theorem wf_Ed_259 : Cond.fieldLink "StreamForge$Editor" 259 "StreamForge$Matcher" "end" "I" ∈ zT := z_m 266 rfl rfl
set_option maxRecDepth 100000 in
theorem wf_Ma_24 : Cond.fieldLink "StreamForge$Matcher" 24 "StreamForge$Matcher" "items" "LStreamForge$Items;" ∈ zT := z_m 267 rfl rfl
set_option maxRecDepth 100000 in
theorem wf_Ma_28 : Cond.fieldLink "StreamForge$Matcher" 28 "StreamForge$Matcher" "pattern" "LStreamForge$Pattern;" ∈ zT := z_m 268 rfl rfl
set_option maxRecDepth 100000 in
theorem wf_Ma_32 : Cond.fieldLink "StreamForge$Matcher" 32 "StreamForge$Matcher" "text" "LStreamForge$Row;" ∈ zT := z_m 269 rfl rfl
set_option maxRecDepth 100000 in
theorem wf_Ma_9 : Cond.fieldLink "StreamForge$Matcher" 9 "StreamForge$Matcher" "groupBegin" "[I" ∈ zT := z_m 270 rfl rfl
set_option maxRecDepth 100000 in
theorem wf_Ma_15 : Cond.fieldLink "StreamForge$Matcher" 15 "StreamForge$Matcher" "groupEnd" "[I" ∈ zT := z_m 271 rfl rfl
set_option maxRecDepth 100000 in
theorem wf_Ma_18 : Cond.fieldLink "StreamForge$Matcher" 18 "StreamForge$Matcher" "triedBegin" "[I" ∈ zT := z_m 272 rfl rfl
set_option maxRecDepth 100000 in
theorem wf_Ma_21 : Cond.fieldLink "StreamForge$Matcher" 21 "StreamForge$Matcher" "triedEnd" "[I" ∈ zT := z_m 273 rfl rfl
set_option maxRecDepth 100000 in
theorem wf_Ed_14 : Cond.fieldLink "StreamForge$Editor" 14 "StreamForge$Editor" "output" "LStreamForge$Row;" ∈ zT := z_m 293 rfl rfl
set_option maxRecDepth 100000 in
theorem wf_SF_106 : Cond.fieldLink "StreamForge" 106 "StreamForge$Editor" "output" "LStreamForge$Row;" ∈ zT := z_m 294 rfl rfl
set_option maxRecDepth 100000 in
theorem wf_Ed_20 : Cond.fieldLink "StreamForge$Editor" 20 "StreamForge$Editor" "space" "LStreamForge$Row;" ∈ zT := z_m 295 rfl rfl
set_option maxRecDepth 100000 in
theorem wf_SF_116 : Cond.fieldLink "StreamForge" 116 "StreamForge$Editor" "space" "LStreamForge$Row;" ∈ zT := z_m 296 rfl rfl
set_option maxRecDepth 100000 in
theorem wf_Ed_23 : Cond.fieldLink "StreamForge$Editor" 23 "StreamForge$Editor" "hold" "LStreamForge$Row;" ∈ zT := z_m 297 rfl rfl
set_option maxRecDepth 100000 in
theorem wf_SF_119 : Cond.fieldLink "StreamForge" 119 "StreamForge$Editor" "hold" "LStreamForge$Row;" ∈ zT := z_m 298 rfl rfl
set_option maxRecDepth 100000 in
theorem wf_Ed_99 : Cond.fieldLink "StreamForge$Editor" 99 "StreamForge$Editor" "linesRead" "I" ∈ zT := z_m 299 rfl rfl
set_option maxRecDepth 100000 in
theorem wf_SF_122 : Cond.fieldLink "StreamForge" 122 "StreamForge$Editor" "linesRead" "I" ∈ zT := z_m 300 rfl rfl
set_option maxRecDepth 100000 in
theorem wf_Ed_70 : Cond.fieldLink "StreamForge$Editor" 70 "StreamForge$Editor" "begun" "I" ∈ zT := z_m 301 rfl rfl
set_option maxRecDepth 100000 in
theorem wf_SF_125 : Cond.fieldLink "StreamForge" 125 "StreamForge$Editor" "begun" "I" ∈ zT := z_m 302 rfl rfl
set_option maxRecDepth 100000 in
theorem wf_Ed_102 : Cond.fieldLink "StreamForge$Editor" 102 "StreamForge$Editor" "cycles" "I" ∈ zT := z_m 303 rfl rfl
set_option maxRecDepth 100000 in
theorem wf_SF_128 : Cond.fieldLink "StreamForge" 128 "StreamForge$Editor" "cycles" "I" ∈ zT := z_m 304 rfl rfl
set_option maxRecDepth 100000 in
theorem wf_Ed_105 : Cond.fieldLink "StreamForge$Editor" 105 "StreamForge$Editor" "replacements" "I" ∈ zT := z_m 305 rfl rfl
set_option maxRecDepth 100000 in
theorem wf_SF_131 : Cond.fieldLink "StreamForge" 131 "StreamForge$Editor" "replacements" "I" ∈ zT := z_m 306 rfl rfl
set_option maxRecDepth 100000 in
theorem wf_Ed_26 : Cond.fieldLink "StreamForge$Editor" 26 "StreamForge$Editor" "appended" "LStreamForge$Row;" ∈ zT := z_m 307 rfl rfl
set_option maxRecDepth 100000 in
theorem wf_Ed_32 : Cond.fieldLink "StreamForge$Editor" 32 "StreamForge$Editor" "matcher" "LStreamForge$Matcher;" ∈ zT := z_m 308 rfl rfl
set_option maxRecDepth 100000 in
theorem wf_Ed_36 : Cond.fieldLink "StreamForge$Editor" 36 "StreamForge$Editor" "draft" "LStreamForge$Row;" ∈ zT := z_m 309 rfl rfl
set_option maxRecDepth 100000 in
theorem wf_Ed_39 : Cond.fieldLink "StreamForge$Editor" 39 "StreamForge$Editor" "program" "LStreamForge$Program;" ∈ zT := z_m 310 rfl rfl
set_option maxRecDepth 100000 in
theorem wf_Ed_43 : Cond.fieldLink "StreamForge$Editor" 43 "StreamForge$Editor" "lines" "[LStreamForge$Row;" ∈ zT := z_m 311 rfl rfl
set_option maxRecDepth 100000 in
theorem wf_Ed_47 : Cond.fieldLink "StreamForge$Editor" 47 "StreamForge$Editor" "lineCount" "I" ∈ zT := z_m 312 rfl rfl
set_option maxRecDepth 100000 in
theorem wf_Ed_58 : Cond.fieldLink "StreamForge$Editor" 58 "StreamForge$Editor" "next" "I" ∈ zT := z_m 313 rfl rfl
set_option maxRecDepth 100000 in
theorem wf_Ed_54 : Cond.fieldLink "StreamForge$Editor" 54 "StreamForge$Editor" "over" "Z" ∈ zT := z_m 314 rfl rfl
set_option maxRecDepth 100000 in
theorem wf_Ed_120 : Cond.fieldLink "StreamForge$Editor" 120 "StreamForge$Editor" "replaced" "Z" ∈ zT := z_m 315 rfl rfl
set_option maxRecDepth 100000 in
theorem wf_Ed_167 : Cond.fieldLink "StreamForge$Editor" 167 "StreamForge$Editor" "rangeEnds" "Z" ∈ zT := z_m 316 rfl rfl
set_option maxRecDepth 100000 in
theorem wf_It_9 : Cond.fieldLink "StreamForge$Items" 9 "StreamForge$Items" "kind" "[I" ∈ zT := z_m 368 rfl rfl
set_option maxRecDepth 100000 in
theorem wf_Ma_100 : Cond.fieldLink "StreamForge$Matcher" 100 "StreamForge$Items" "kind" "[I" ∈ zT := z_m 369 rfl rfl
set_option maxRecDepth 100000 in
theorem wf_It_15 : Cond.fieldLink "StreamForge$Items" 15 "StreamForge$Items" "group" "[I" ∈ zT := z_m 370 rfl rfl
set_option maxRecDepth 100000 in
theorem wf_Ma_97 : Cond.fieldLink "StreamForge$Matcher" 97 "StreamForge$Items" "group" "[I" ∈ zT := z_m 371 rfl rfl
set_option maxRecDepth 100000 in
theorem wf_It_18 : Cond.fieldLink "StreamForge$Items" 18 "StreamForge$Items" "low" "[J" ∈ zT := z_m 372 rfl rfl
set_option maxRecDepth 100000 in
theorem wf_It_22 : Cond.fieldLink "StreamForge$Items" 22 "StreamForge$Items" "high" "[J" ∈ zT := z_m 373 rfl rfl
set_option maxRecDepth 100000 in
theorem wf_It_25 : Cond.fieldLink "StreamForge$Items" 25 "StreamForge$Items" "size" "I" ∈ zT := z_m 374 rfl rfl
set_option maxRecDepth 100000 in
theorem wf_Pr_66 : Cond.fieldLink "StreamForge$PatternReader" 66 "StreamForge$Items" "size" "I" ∈ zT := z_m 375 rfl rfl
set_option maxRecDepth 100000 in
theorem wf_Pa_98 : Cond.fieldLink "StreamForge$Parser" 98 "StreamForge$Items" "size" "I" ∈ zT := z_m 376 rfl rfl
set_option maxRecDepth 100000 in
theorem wf_Ma_36 : Cond.fieldLink "StreamForge$Matcher" 36 "StreamForge$Pattern" "atBeginning" "Z" ∈ zT := z_m 408 rfl rfl
set_option maxRecDepth 100000 in
theorem wf_Pr_83 : Cond.fieldLink "StreamForge$PatternReader" 83 "StreamForge$Pattern" "atBeginning" "Z" ∈ zT := z_m 409 rfl rfl
set_option maxRecDepth 100000 in
theorem wf_Pr_80 : Cond.fieldLink "StreamForge$PatternReader" 80 "StreamForge$Pattern" "atEnd" "Z" ∈ zT := z_m 410 rfl rfl
set_option maxRecDepth 100000 in
theorem wf_Ma_85 : Cond.fieldLink "StreamForge$Matcher" 85 "StreamForge$Pattern" "atEnd" "Z" ∈ zT := z_m 411 rfl rfl
set_option maxRecDepth 100000 in
theorem wf_Pr_72 : Cond.fieldLink "StreamForge$PatternReader" 72 "StreamForge$Pattern" "from" "I" ∈ zT := z_m 412 rfl rfl
set_option maxRecDepth 100000 in
theorem wf_Ma_61 : Cond.fieldLink "StreamForge$Matcher" 61 "StreamForge$Pattern" "from" "I" ∈ zT := z_m 413 rfl rfl
set_option maxRecDepth 100000 in
theorem wf_Pr_98 : Cond.fieldLink "StreamForge$PatternReader" 98 "StreamForge$Pattern" "to" "I" ∈ zT := z_m 414 rfl rfl
set_option maxRecDepth 100000 in
theorem wf_Ma_78 : Cond.fieldLink "StreamForge$Matcher" 78 "StreamForge$Pattern" "to" "I" ∈ zT := z_m 415 rfl rfl
set_option maxRecDepth 100000 in
theorem wf_Pr_101 : Cond.fieldLink "StreamForge$PatternReader" 101 "StreamForge$Pattern" "firstStar" "I" ∈ zT := z_m 416 rfl rfl
set_option maxRecDepth 100000 in
theorem wf_Ma_64 : Cond.fieldLink "StreamForge$Matcher" 64 "StreamForge$Pattern" "firstStar" "I" ∈ zT := z_m 417 rfl rfl
set_option maxRecDepth 100000 in
theorem wf_Pr_104 : Cond.fieldLink "StreamForge$PatternReader" 104 "StreamForge$Pattern" "secondStar" "I" ∈ zT := z_m 418 rfl rfl
set_option maxRecDepth 100000 in
theorem wf_Ma_75 : Cond.fieldLink "StreamForge$Matcher" 75 "StreamForge$Pattern" "secondStar" "I" ∈ zT := z_m 419 rfl rfl
set_option maxRecDepth 100000 in
theorem wf_Pr_77 : Cond.fieldLink "StreamForge$PatternReader" 77 "StreamForge$Pattern" "groups" "I" ∈ zT := z_m 420 rfl rfl
set_option maxRecDepth 100000 in
theorem wf_Ma_52 : Cond.fieldLink "StreamForge$Matcher" 52 "StreamForge$Pattern" "groups" "I" ∈ zT := z_m 421 rfl rfl
set_option maxRecDepth 100000 in
theorem wf_Pa_212 : Cond.fieldLink "StreamForge$Parser" 212 "StreamForge$Pattern" "groups" "I" ∈ zT := z_m 422 rfl rfl
set_option maxRecDepth 100000 in
theorem wf_Addr_10 : Cond.fieldLink "StreamForge$Address" 10 "StreamForge$Address" "pattern" "LStreamForge$Pattern;" ∈ zT := z_m 438 rfl rfl
set_option maxRecDepth 100000 in
theorem wf_Pa_150 : Cond.fieldLink "StreamForge$Parser" 150 "StreamForge$Address" "pattern" "LStreamForge$Pattern;" ∈ zT := z_m 439 rfl rfl
set_option maxRecDepth 100000 in
theorem wf_Ed_183 : Cond.fieldLink "StreamForge$Editor" 183 "StreamForge$Address" "pattern" "LStreamForge$Pattern;" ∈ zT := z_m 440 rfl rfl
set_option maxRecDepth 100000 in
theorem wf_Pa_147 : Cond.fieldLink "StreamForge$Parser" 147 "StreamForge$Address" "kind" "I" ∈ zT := z_m 441 rfl rfl
set_option maxRecDepth 100000 in
theorem wf_Ed_173 : Cond.fieldLink "StreamForge$Editor" 173 "StreamForge$Address" "kind" "I" ∈ zT := z_m 442 rfl rfl
set_option maxRecDepth 100000 in
theorem wf_Pa_158 : Cond.fieldLink "StreamForge$Parser" 158 "StreamForge$Address" "number" "I" ∈ zT := z_m 443 rfl rfl
set_option maxRecDepth 100000 in
theorem wf_Ed_176 : Cond.fieldLink "StreamForge$Editor" 176 "StreamForge$Address" "number" "I" ∈ zT := z_m 444 rfl rfl
set_option maxRecDepth 100000 in
theorem wf_Cmd_12 : Cond.fieldLink "StreamForge$Command" 12 "StreamForge$Command" "first" "LStreamForge$Address;" ∈ zT := z_m 454 rfl rfl
set_option maxRecDepth 100000 in
theorem wf_Pa_124 : Cond.fieldLink "StreamForge$Parser" 124 "StreamForge$Command" "first" "LStreamForge$Address;" ∈ zT := z_m 455 rfl rfl
set_option maxRecDepth 100000 in
theorem wf_Ed_153 : Cond.fieldLink "StreamForge$Editor" 153 "StreamForge$Command" "first" "LStreamForge$Address;" ∈ zT := z_m 456 rfl rfl
set_option maxRecDepth 100000 in
theorem wf_Cmd_18 : Cond.fieldLink "StreamForge$Command" 18 "StreamForge$Command" "second" "LStreamForge$Address;" ∈ zT := z_m 457 rfl rfl
set_option maxRecDepth 100000 in
theorem wf_Pa_135 : Cond.fieldLink "StreamForge$Parser" 135 "StreamForge$Command" "second" "LStreamForge$Address;" ∈ zT := z_m 458 rfl rfl
set_option maxRecDepth 100000 in
theorem wf_Ed_161 : Cond.fieldLink "StreamForge$Editor" 161 "StreamForge$Command" "second" "LStreamForge$Address;" ∈ zT := z_m 459 rfl rfl
set_option maxRecDepth 100000 in
theorem wf_Cmd_24 : Cond.fieldLink "StreamForge$Command" 24 "StreamForge$Command" "pattern" "LStreamForge$Pattern;" ∈ zT := z_m 460 rfl rfl
set_option maxRecDepth 100000 in
theorem wf_SF_147 : Cond.fieldLink "StreamForge" 147 "StreamForge$Command" "pattern" "LStreamForge$Pattern;" ∈ zT := z_m 461 rfl rfl
set_option maxRecDepth 100000 in
theorem wf_Pa_202 : Cond.fieldLink "StreamForge$Parser" 202 "StreamForge$Command" "pattern" "LStreamForge$Pattern;" ∈ zT := z_m 462 rfl rfl
set_option maxRecDepth 100000 in
theorem wf_Ed_256 : Cond.fieldLink "StreamForge$Editor" 256 "StreamForge$Command" "pattern" "LStreamForge$Pattern;" ∈ zT := z_m 463 rfl rfl
set_option maxRecDepth 100000 in
theorem wf_Ed_88 : Cond.fieldLink "StreamForge$Editor" 88 "StreamForge$Command" "kind" "I" ∈ zT := z_m 464 rfl rfl
set_option maxRecDepth 100000 in
theorem wf_Pa_161 : Cond.fieldLink "StreamForge$Parser" 161 "StreamForge$Command" "kind" "I" ∈ zT := z_m 465 rfl rfl
set_option maxRecDepth 100000 in
theorem wf_SF_138 : Cond.fieldLink "StreamForge" 138 "StreamForge$Command" "kind" "I" ∈ zT := z_m 466 rfl rfl
set_option maxRecDepth 100000 in
theorem wf_Pa_162 : Cond.fieldLink "StreamForge$Parser" 162 "StreamForge$Command" "at" "I" ∈ zT := z_m 467 rfl rfl
set_option maxRecDepth 100000 in
theorem wf_Cmd_28 : Cond.fieldLink "StreamForge$Command" 28 "StreamForge$Command" "addresses" "I" ∈ zT := z_m 468 rfl rfl
set_option maxRecDepth 100000 in
theorem wf_Pa_132 : Cond.fieldLink "StreamForge$Parser" 132 "StreamForge$Command" "addresses" "I" ∈ zT := z_m 469 rfl rfl
set_option maxRecDepth 100000 in
theorem wf_Ed_150 : Cond.fieldLink "StreamForge$Editor" 150 "StreamForge$Command" "addresses" "I" ∈ zT := z_m 470 rfl rfl
set_option maxRecDepth 100000 in
theorem wf_Cmd_32 : Cond.fieldLink "StreamForge$Command" 32 "StreamForge$Command" "inverted" "Z" ∈ zT := z_m 471 rfl rfl
set_option maxRecDepth 100000 in
theorem wf_Pa_141 : Cond.fieldLink "StreamForge$Parser" 141 "StreamForge$Command" "inverted" "Z" ∈ zT := z_m 472 rfl rfl
set_option maxRecDepth 100000 in
theorem wf_Ed_170 : Cond.fieldLink "StreamForge$Editor" 170 "StreamForge$Command" "inverted" "Z" ∈ zT := z_m 473 rfl rfl
set_option maxRecDepth 100000 in
theorem wf_Ed_93 : Cond.fieldLink "StreamForge$Editor" 93 "StreamForge$Command" "target" "I" ∈ zT := z_m 474 rfl rfl
set_option maxRecDepth 100000 in
theorem wf_Pa_109 : Cond.fieldLink "StreamForge$Parser" 109 "StreamForge$Command" "target" "I" ∈ zT := z_m 475 rfl rfl
set_option maxRecDepth 100000 in
theorem wf_Cmd_36 : Cond.fieldLink "StreamForge$Command" 36 "StreamForge$Command" "label" "I" ∈ zT := z_m 476 rfl rfl
set_option maxRecDepth 100000 in
theorem wf_Pa_187 : Cond.fieldLink "StreamForge$Parser" 187 "StreamForge$Command" "label" "I" ∈ zT := z_m 477 rfl rfl
set_option maxRecDepth 100000 in
theorem wf_Ed_206 : Cond.fieldLink "StreamForge$Editor" 206 "StreamForge$Command" "textFrom" "I" ∈ zT := z_m 478 rfl rfl
set_option maxRecDepth 100000 in
theorem wf_Pa_193 : Cond.fieldLink "StreamForge$Parser" 193 "StreamForge$Command" "textFrom" "I" ∈ zT := z_m 479 rfl rfl
set_option maxRecDepth 100000 in
theorem wf_Ed_209 : Cond.fieldLink "StreamForge$Editor" 209 "StreamForge$Command" "textTo" "I" ∈ zT := z_m 480 rfl rfl
set_option maxRecDepth 100000 in
theorem wf_Pa_199 : Cond.fieldLink "StreamForge$Parser" 199 "StreamForge$Command" "textTo" "I" ∈ zT := z_m 481 rfl rfl
set_option maxRecDepth 100000 in
theorem wf_Pa_232 : Cond.fieldLink "StreamForge$Parser" 232 "StreamForge$Command" "counterpart" "I" ∈ zT := z_m 482 rfl rfl
set_option maxRecDepth 100000 in
theorem wf_Ed_250 : Cond.fieldLink "StreamForge$Editor" 250 "StreamForge$Command" "counterpart" "I" ∈ zT := z_m 483 rfl rfl
set_option maxRecDepth 100000 in
theorem wf_Cmd_39 : Cond.fieldLink "StreamForge$Command" 39 "StreamForge$Command" "all" "Z" ∈ zT := z_m 484 rfl rfl
set_option maxRecDepth 100000 in
theorem wf_Pa_217 : Cond.fieldLink "StreamForge$Parser" 217 "StreamForge$Command" "all" "Z" ∈ zT := z_m 485 rfl rfl
set_option maxRecDepth 100000 in
theorem wf_Ed_253 : Cond.fieldLink "StreamForge$Editor" 253 "StreamForge$Command" "all" "Z" ∈ zT := z_m 486 rfl rfl
set_option maxRecDepth 100000 in
theorem wf_Cmd_42 : Cond.fieldLink "StreamForge$Command" 42 "StreamForge$Command" "print" "Z" ∈ zT := z_m 487 rfl rfl
set_option maxRecDepth 100000 in
theorem wf_Pa_220 : Cond.fieldLink "StreamForge$Parser" 220 "StreamForge$Command" "print" "Z" ∈ zT := z_m 488 rfl rfl
set_option maxRecDepth 100000 in
theorem wf_Ed_276 : Cond.fieldLink "StreamForge$Editor" 276 "StreamForge$Command" "print" "Z" ∈ zT := z_m 489 rfl rfl
set_option maxRecDepth 100000 in
theorem wf_Cmd_45 : Cond.fieldLink "StreamForge$Command" 45 "StreamForge$Command" "digit" "I" ∈ zT := z_m 490 rfl rfl
set_option maxRecDepth 100000 in
theorem wf_Pa_223 : Cond.fieldLink "StreamForge$Parser" 223 "StreamForge$Command" "digit" "I" ∈ zT := z_m 491 rfl rfl
set_option maxRecDepth 100000 in
theorem wf_Ed_108 : Cond.fieldLink "StreamForge$Editor" 108 "StreamForge$Command" "inRange" "Z" ∈ zT := z_m 492 rfl rfl
set_option maxRecDepth 100000 in
theorem wf_Prog_14 : Cond.fieldLink "StreamForge$Program" 14 "StreamForge$Program" "text" "LStreamForge$Row;" ∈ zT := z_m 526 rfl rfl
set_option maxRecDepth 100000 in
theorem wf_Pa_76 : Cond.fieldLink "StreamForge$Parser" 76 "StreamForge$Program" "text" "LStreamForge$Row;" ∈ zT := z_m 527 rfl rfl
set_option maxRecDepth 100000 in
theorem wf_Ed_203 : Cond.fieldLink "StreamForge$Editor" 203 "StreamForge$Program" "text" "LStreamForge$Row;" ∈ zT := z_m 528 rfl rfl
set_option maxRecDepth 100000 in
theorem wf_Prog_23 : Cond.fieldLink "StreamForge$Program" 23 "StreamForge$Program" "items" "LStreamForge$Items;" ∈ zT := z_m 529 rfl rfl
set_option maxRecDepth 100000 in
theorem wf_Pa_94 : Cond.fieldLink "StreamForge$Parser" 94 "StreamForge$Program" "items" "LStreamForge$Items;" ∈ zT := z_m 530 rfl rfl
set_option maxRecDepth 100000 in
theorem wf_SF_143 : Cond.fieldLink "StreamForge" 143 "StreamForge$Program" "items" "LStreamForge$Items;" ∈ zT := z_m 531 rfl rfl
set_option maxRecDepth 100000 in
theorem wf_Ed_179 : Cond.fieldLink "StreamForge$Editor" 179 "StreamForge$Program" "items" "LStreamForge$Items;" ∈ zT := z_m 532 rfl rfl
set_option maxRecDepth 100000 in
theorem wf_Prog_29 : Cond.fieldLink "StreamForge$Program" 29 "StreamForge$Program" "commands" "[LStreamForge$Command;" ∈ zT := z_m 533 rfl rfl
set_option maxRecDepth 100000 in
theorem wf_Ed_76 : Cond.fieldLink "StreamForge$Editor" 76 "StreamForge$Program" "commands" "[LStreamForge$Command;" ∈ zT := z_m 534 rfl rfl
set_option maxRecDepth 100000 in
theorem wf_Pa_105 : Cond.fieldLink "StreamForge$Parser" 105 "StreamForge$Program" "commands" "[LStreamForge$Command;" ∈ zT := z_m 535 rfl rfl
set_option maxRecDepth 100000 in
theorem wf_SF_134 : Cond.fieldLink "StreamForge" 134 "StreamForge$Program" "commands" "[LStreamForge$Command;" ∈ zT := z_m 536 rfl rfl
set_option maxRecDepth 100000 in
theorem wf_Ed_61 : Cond.fieldLink "StreamForge$Editor" 61 "StreamForge$Program" "size" "I" ∈ zT := z_m 537 rfl rfl
set_option maxRecDepth 100000 in
theorem wf_Pa_103 : Cond.fieldLink "StreamForge$Parser" 103 "StreamForge$Program" "size" "I" ∈ zT := z_m 538 rfl rfl
set_option maxRecDepth 100000 in
theorem wf_SF_99 : Cond.fieldLink "StreamForge" 99 "StreamForge$Program" "size" "I" ∈ zT := z_m 539 rfl rfl
set_option maxRecDepth 100000 in
theorem wf_SF_14 : Cond.fieldLink "StreamForge" 14 "StreamForge" "script" "LStreamForge$Row;" ∈ zT := z_m 549 rfl rfl
set_option maxRecDepth 100000 in
theorem wf_SF_18 : Cond.fieldLink "StreamForge" 18 "StreamForge" "lines" "[LStreamForge$Row;" ∈ zT := z_m 550 rfl rfl
set_option maxRecDepth 100000 in
theorem wf_SF_25 : Cond.fieldLink "StreamForge" 25 "StreamForge" "parser" "LStreamForge$Parser;" ∈ zT := z_m 551 rfl rfl
set_option maxRecDepth 100000 in
theorem wf_SF_32 : Cond.fieldLink "StreamForge" 32 "StreamForge" "editor" "LStreamForge$Editor;" ∈ zT := z_m 552 rfl rfl
set_option maxRecDepth 100000 in
theorem wf_SF_39 : Cond.fieldLink "StreamForge" 39 "StreamForge" "matcher" "LStreamForge$Matcher;" ∈ zT := z_m 553 rfl rfl
set_option maxRecDepth 100000 in
theorem wf_SF_85 : Cond.fieldLink "StreamForge" 85 "StreamForge" "lineCount" "I" ∈ zT := z_m 554 rfl rfl
set_option maxRecDepth 100000 in
theorem wf_SF_46 : Cond.fieldLink "StreamForge" 46 "StreamForge" "program" "LStreamForge$Program;" ∈ zT := z_m 555 rfl rfl
set_option maxRecDepth 100000 in
theorem wf_SF_50 : Cond.fieldLink "StreamForge" 50 "StreamForge" "spare" "LStreamForge$Program;" ∈ zT := z_m 556 rfl rfl
set_option maxRecDepth 100000 in
theorem wf_SF_95 : Cond.fieldLink "StreamForge" 95 "StreamForge" "parsed" "Z" ∈ zT := z_m 557 rfl rfl
set_option maxRecDepth 100000 in
theorem wf_SF_53 : Cond.fieldLink "StreamForge" 53 "StreamForge" "refusedAt" "I" ∈ zT := z_m 558 rfl rfl
set_option maxRecDepth 100000 in
theorem wf_Mod_7 : Cond.fieldLink "StreamForgeModel" 7 "StreamForgeModel" "text" "[I" ∈ zT := z_m 1177 rfl rfl
set_option maxRecDepth 100000 in
theorem wf_Mod_13 : Cond.fieldLink "StreamForgeModel" 13 "StreamForgeModel" "lineLength" "[I" ∈ zT := z_m 1178 rfl rfl
set_option maxRecDepth 100000 in
theorem wf_Mod_16 : Cond.fieldLink "StreamForgeModel" 16 "StreamForgeModel" "lines" "[I" ∈ zT := z_m 1179 rfl rfl
set_option maxRecDepth 100000 in
theorem wf_Mod_166 : Cond.fieldLink "StreamForgeModel" 166 "StreamForgeModel" "length" "I" ∈ zT := z_m 1180 rfl rfl
set_option maxRecDepth 100000 in
theorem wf_Mod_169 : Cond.fieldLink "StreamForgeModel" 169 "StreamForgeModel" "lineMany" "I" ∈ zT := z_m 1181 rfl rfl
set_option maxRecDepth 100000 in
theorem wf_Mod_19 : Cond.fieldLink "StreamForgeModel" 19 "StreamForgeModel" "where" "I" ∈ zT := z_m 1182 rfl rfl
set_option maxRecDepth 100000 in
theorem wf_Mod_151 : Cond.fieldLink "StreamForgeModel" 151 "StreamForgeModel" "thrown" "I" ∈ zT := z_m 1183 rfl rfl
set_option maxRecDepth 100000 in
theorem wf_Mod_284 : Cond.fieldLink "StreamForgeModel" 284 "StreamForgeModel" "live" "I" ∈ zT := z_m 1184 rfl rfl
set_option maxRecDepth 100000 in
theorem wf_Mod_293 : Cond.fieldLink "StreamForgeModel" 293 "StreamForgeModel" "parsed" "Z" ∈ zT := z_m 1185 rfl rfl
set_option maxRecDepth 100000 in
theorem wf_Mod_23 : Cond.fieldLink "StreamForgeModel" 23 "StreamForgeModel" "name" "[I" ∈ zT := z_m 1186 rfl rfl
set_option maxRecDepth 100000 in
theorem wf_Mod_26 : Cond.fieldLink "StreamForgeModel" 26 "StreamForgeModel" "one" "[I" ∈ zT := z_m 1187 rfl rfl
set_option maxRecDepth 100000 in
theorem wf_Mod_29 : Cond.fieldLink "StreamForgeModel" 29 "StreamForgeModel" "oneValue" "[I" ∈ zT := z_m 1188 rfl rfl
set_option maxRecDepth 100000 in
theorem wf_Mod_32 : Cond.fieldLink "StreamForgeModel" 32 "StreamForgeModel" "two" "[I" ∈ zT := z_m 1189 rfl rfl
set_option maxRecDepth 100000 in
theorem wf_Mod_35 : Cond.fieldLink "StreamForgeModel" 35 "StreamForgeModel" "twoValue" "[I" ∈ zT := z_m 1190 rfl rfl
set_option maxRecDepth 100000 in
theorem wf_Mod_38 : Cond.fieldLink "StreamForgeModel" 38 "StreamForgeModel" "pattern" "[I" ∈ zT := z_m 1191 rfl rfl
set_option maxRecDepth 100000 in
theorem wf_Mod_41 : Cond.fieldLink "StreamForgeModel" 41 "StreamForgeModel" "from" "[I" ∈ zT := z_m 1192 rfl rfl
set_option maxRecDepth 100000 in
theorem wf_Mod_44 : Cond.fieldLink "StreamForgeModel" 44 "StreamForgeModel" "to" "[I" ∈ zT := z_m 1193 rfl rfl
set_option maxRecDepth 100000 in
theorem wf_Mod_47 : Cond.fieldLink "StreamForgeModel" 47 "StreamForgeModel" "more" "[I" ∈ zT := z_m 1194 rfl rfl
set_option maxRecDepth 100000 in
theorem wf_Mod_50 : Cond.fieldLink "StreamForgeModel" 50 "StreamForgeModel" "goal" "[I" ∈ zT := z_m 1195 rfl rfl
set_option maxRecDepth 100000 in
theorem wf_Mod_53 : Cond.fieldLink "StreamForgeModel" 53 "StreamForgeModel" "which" "[I" ∈ zT := z_m 1196 rfl rfl
set_option maxRecDepth 100000 in
theorem wf_Mod_56 : Cond.fieldLink "StreamForgeModel" 56 "StreamForgeModel" "placeOf" "[I" ∈ zT := z_m 1197 rfl rfl
set_option maxRecDepth 100000 in
theorem wf_Mod_59 : Cond.fieldLink "StreamForgeModel" 59 "StreamForgeModel" "not" "[Z" ∈ zT := z_m 1198 rfl rfl
set_option maxRecDepth 100000 in
theorem wf_Mod_63 : Cond.fieldLink "StreamForgeModel" 63 "StreamForgeModel" "all" "[Z" ∈ zT := z_m 1199 rfl rfl
set_option maxRecDepth 100000 in
theorem wf_Mod_66 : Cond.fieldLink "StreamForgeModel" 66 "StreamForgeModel" "tells" "[Z" ∈ zT := z_m 1200 rfl rfl
set_option maxRecDepth 100000 in
theorem wf_Mod_69 : Cond.fieldLink "StreamForgeModel" 69 "StreamForgeModel" "commands" "[I" ∈ zT := z_m 1201 rfl rfl
set_option maxRecDepth 100000 in
theorem wf_Mod_72 : Cond.fieldLink "StreamForgeModel" 72 "StreamForgeModel" "patterns" "[I" ∈ zT := z_m 1202 rfl rfl
set_option maxRecDepth 100000 in
theorem wf_Mod_75 : Cond.fieldLink "StreamForgeModel" 75 "StreamForgeModel" "items" "[I" ∈ zT := z_m 1203 rfl rfl
set_option maxRecDepth 100000 in
theorem wf_Mod_78 : Cond.fieldLink "StreamForgeModel" 78 "StreamForgeModel" "chars" "[I" ∈ zT := z_m 1204 rfl rfl
set_option maxRecDepth 100000 in
theorem wf_Mod_81 : Cond.fieldLink "StreamForgeModel" 81 "StreamForgeModel" "itemFrom" "[I" ∈ zT := z_m 1205 rfl rfl
set_option maxRecDepth 100000 in
theorem wf_Mod_84 : Cond.fieldLink "StreamForgeModel" 84 "StreamForgeModel" "itemEnd" "[I" ∈ zT := z_m 1206 rfl rfl
set_option maxRecDepth 100000 in
theorem wf_Mod_87 : Cond.fieldLink "StreamForgeModel" 87 "StreamForgeModel" "groups" "[I" ∈ zT := z_m 1207 rfl rfl
set_option maxRecDepth 100000 in
theorem wf_Mod_90 : Cond.fieldLink "StreamForgeModel" 90 "StreamForgeModel" "item" "[I" ∈ zT := z_m 1208 rfl rfl
set_option maxRecDepth 100000 in
theorem wf_Mod_93 : Cond.fieldLink "StreamForgeModel" 93 "StreamForgeModel" "value" "[I" ∈ zT := z_m 1209 rfl rfl
set_option maxRecDepth 100000 in
theorem wf_Mod_96 : Cond.fieldLink "StreamForgeModel" 96 "StreamForgeModel" "store" "[I" ∈ zT := z_m 1210 rfl rfl
set_option maxRecDepth 100000 in
theorem wf_Mod_99 : Cond.fieldLink "StreamForgeModel" 99 "StreamForgeModel" "starred" "[Z" ∈ zT := z_m 1211 rfl rfl
set_option maxRecDepth 100000 in
theorem wf_Mod_102 : Cond.fieldLink "StreamForgeModel" 102 "StreamForgeModel" "atBegin" "[Z" ∈ zT := z_m 1212 rfl rfl
set_option maxRecDepth 100000 in
theorem wf_Mod_105 : Cond.fieldLink "StreamForgeModel" 105 "StreamForgeModel" "atEnd" "[Z" ∈ zT := z_m 1213 rfl rfl
set_option maxRecDepth 100000 in
theorem wf_Mod_108 : Cond.fieldLink "StreamForgeModel" 108 "StreamForgeModel" "low" "[J" ∈ zT := z_m 1214 rfl rfl
set_option maxRecDepth 100000 in
theorem wf_Mod_112 : Cond.fieldLink "StreamForgeModel" 112 "StreamForgeModel" "high" "[J" ∈ zT := z_m 1215 rfl rfl
set_option maxRecDepth 100000 in
theorem wf_Mod_115 : Cond.fieldLink "StreamForgeModel" 115 "StreamForgeModel" "labels" "[I" ∈ zT := z_m 1216 rfl rfl
set_option maxRecDepth 100000 in
theorem wf_Mod_118 : Cond.fieldLink "StreamForgeModel" 118 "StreamForgeModel" "open" "[I" ∈ zT := z_m 1217 rfl rfl
set_option maxRecDepth 100000 in
theorem wf_Mod_176 : Cond.fieldLink "StreamForgeModel" 176 "StreamForgeModel" "at" "I" ∈ zT := z_m 1218 rfl rfl
set_option maxRecDepth 100000 in
theorem wf_Mod_191 : Cond.fieldLink "StreamForgeModel" 191 "StreamForgeModel" "half" "I" ∈ zT := z_m 1219 rfl rfl
set_option maxRecDepth 100000 in
theorem wf_Mod_261 : Cond.fieldLink "StreamForgeModel" 261 "StreamForgeModel" "deep" "I" ∈ zT := z_m 1220 rfl rfl
set_option maxRecDepth 100000 in
theorem wf_Mod_206 : Cond.fieldLink "StreamForgeModel" 206 "StreamForgeModel" "group" "I" ∈ zT := z_m 1221 rfl rfl
set_option maxRecDepth 100000 in
theorem wf_Mod_222 : Cond.fieldLink "StreamForgeModel" 222 "StreamForgeModel" "stars" "I" ∈ zT := z_m 1222 rfl rfl
set_option maxRecDepth 100000 in
theorem wf_Mod_194 : Cond.fieldLink "StreamForgeModel" 194 "StreamForgeModel" "counted" "I" ∈ zT := z_m 1223 rfl rfl
set_option maxRecDepth 100000 in
theorem wf_Mod_234 : Cond.fieldLink "StreamForgeModel" 234 "StreamForgeModel" "number" "I" ∈ zT := z_m 1224 rfl rfl
set_option maxRecDepth 100000 in
theorem wf_Mod_179 : Cond.fieldLink "StreamForgeModel" 179 "StreamForgeModel" "bad" "Z" ∈ zT := z_m 1225 rfl rfl
set_option maxRecDepth 100000 in
theorem wf_Mod_203 : Cond.fieldLink "StreamForgeModel" 203 "StreamForgeModel" "inGroup" "Z" ∈ zT := z_m 1226 rfl rfl
set_option maxRecDepth 100000 in
theorem wf_Mod_197 : Cond.fieldLink "StreamForgeModel" 197 "StreamForgeModel" "may" "Z" ∈ zT := z_m 1227 rfl rfl
set_option maxRecDepth 100000 in
theorem wf_Mod_121 : Cond.fieldLink "StreamForgeModel" 121 "StreamForgeModel" "subject" "[I" ∈ zT := z_m 1228 rfl rfl
set_option maxRecDepth 100000 in
theorem wf_Mod_124 : Cond.fieldLink "StreamForgeModel" 124 "StreamForgeModel" "groupFrom" "[I" ∈ zT := z_m 1229 rfl rfl
set_option maxRecDepth 100000 in
theorem wf_Mod_127 : Cond.fieldLink "StreamForgeModel" 127 "StreamForgeModel" "groupLong" "[I" ∈ zT := z_m 1230 rfl rfl
set_option maxRecDepth 100000 in
theorem wf_Mod_299 : Cond.fieldLink "StreamForgeModel" 299 "StreamForgeModel" "subjectLong" "I" ∈ zT := z_m 1231 rfl rfl
set_option maxRecDepth 100000 in
theorem wf_Mod_296 : Cond.fieldLink "StreamForgeModel" 296 "StreamForgeModel" "stuck" "I" ∈ zT := z_m 1232 rfl rfl
set_option maxRecDepth 100000 in
theorem wf_Mod_313 : Cond.fieldLink "StreamForgeModel" 313 "StreamForgeModel" "foundAt" "I" ∈ zT := z_m 1233 rfl rfl
set_option maxRecDepth 100000 in
theorem wf_Mod_316 : Cond.fieldLink "StreamForgeModel" 316 "StreamForgeModel" "foundEnd" "I" ∈ zT := z_m 1234 rfl rfl
set_option maxRecDepth 100000 in
theorem wf_Mod_130 : Cond.fieldLink "StreamForgeModel" 130 "StreamForgeModel" "space" "[I" ∈ zT := z_m 1235 rfl rfl
set_option maxRecDepth 100000 in
theorem wf_Mod_133 : Cond.fieldLink "StreamForgeModel" 133 "StreamForgeModel" "hold" "[I" ∈ zT := z_m 1236 rfl rfl
set_option maxRecDepth 100000 in
theorem wf_Mod_136 : Cond.fieldLink "StreamForgeModel" 136 "StreamForgeModel" "work" "[I" ∈ zT := z_m 1237 rfl rfl
set_option maxRecDepth 100000 in
theorem wf_Mod_139 : Cond.fieldLink "StreamForgeModel" 139 "StreamForgeModel" "appended" "[I" ∈ zT := z_m 1238 rfl rfl
set_option maxRecDepth 100000 in
theorem wf_Mod_142 : Cond.fieldLink "StreamForgeModel" 142 "StreamForgeModel" "out" "[I" ∈ zT := z_m 1239 rfl rfl
set_option maxRecDepth 100000 in
theorem wf_Mod_145 : Cond.fieldLink "StreamForgeModel" 145 "StreamForgeModel" "began" "[I" ∈ zT := z_m 1240 rfl rfl
set_option maxRecDepth 100000 in
theorem wf_Mod_148 : Cond.fieldLink "StreamForgeModel" 148 "StreamForgeModel" "active" "[Z" ∈ zT := z_m 1241 rfl rfl
set_option maxRecDepth 100000 in
theorem wf_Mod_319 : Cond.fieldLink "StreamForgeModel" 319 "StreamForgeModel" "spaceLong" "I" ∈ zT := z_m 1242 rfl rfl
set_option maxRecDepth 100000 in
theorem wf_Mod_378 : Cond.fieldLink "StreamForgeModel" 378 "StreamForgeModel" "holdLong" "I" ∈ zT := z_m 1243 rfl rfl
set_option maxRecDepth 100000 in
theorem wf_Mod_334 : Cond.fieldLink "StreamForgeModel" 334 "StreamForgeModel" "workLong" "I" ∈ zT := z_m 1244 rfl rfl
set_option maxRecDepth 100000 in
theorem wf_Mod_343 : Cond.fieldLink "StreamForgeModel" 343 "StreamForgeModel" "appendedLong" "I" ∈ zT := z_m 1245 rfl rfl
set_option maxRecDepth 100000 in
theorem wf_Mod_331 : Cond.fieldLink "StreamForgeModel" 331 "StreamForgeModel" "outLong" "I" ∈ zT := z_m 1246 rfl rfl
set_option maxRecDepth 100000 in
theorem wf_Mod_346 : Cond.fieldLink "StreamForgeModel" 346 "StreamForgeModel" "read" "I" ∈ zT := z_m 1247 rfl rfl
set_option maxRecDepth 100000 in
theorem wf_Mod_419 : Cond.fieldLink "StreamForgeModel" 419 "StreamForgeModel" "begun" "I" ∈ zT := z_m 1248 rfl rfl
set_option maxRecDepth 100000 in
theorem wf_Mod_387 : Cond.fieldLink "StreamForgeModel" 387 "StreamForgeModel" "cycles" "I" ∈ zT := z_m 1249 rfl rfl
set_option maxRecDepth 100000 in
theorem wf_Mod_368 : Cond.fieldLink "StreamForgeModel" 368 "StreamForgeModel" "replaced" "I" ∈ zT := z_m 1250 rfl rfl
set_option maxRecDepth 100000 in
theorem wf_Mod_371 : Cond.fieldLink "StreamForgeModel" 371 "StreamForgeModel" "some" "Z" ∈ zT := z_m 1251 rfl rfl
set_option maxRecDepth 100000 in
theorem wf_Mod_352 : Cond.fieldLink "StreamForgeModel" 352 "StreamForgeModel" "ended" "Z" ∈ zT := z_m 1252 rfl rfl
set_option maxRecDepth 100000 in
theorem wf_Mod_328 : Cond.fieldLink "StreamForgeModel" 328 "StreamForgeModel" "over" "Z" ∈ zT := z_m 1253 rfl rfl
set_option maxRecDepth 100000 in
theorem wc_It_29 : Cond.constantLong "StreamForge$Items" 29 (-1) ∈ zT := z_m 815 rfl rfl
set_option maxRecDepth 100000 in
theorem wc_Mod_220 : Cond.constantLong "StreamForgeModel" 220 (-1) ∈ zT := z_m 1492 rfl rfl
set_option maxRecDepth 100000 in
theorem wc_Law_56 : Cond.constantLong "StreamForgeLaw" 56 (4294967295) ∈ zT := z_m 1676 rfl rfl
set_option maxRecDepth 100000 in
theorem wmax_Cmd_48 : Cond.methodLink "StreamForge$Command" 48 Lib.Math.max.name ∈ zT := z_m 1058 rfl rfl
set_option maxRecDepth 100000 in
theorem wmax_s : Cond.static Lib.Math.max.name ∈ zT := z_m 1059 rfl rfl
set_option maxRecDepth 100000 in
theorem wmax_i : Cond.initialized "java/lang/Math" ∈ zT := z_m 140 rfl rfl
set_option maxRecDepth 100000 in
theorem wmax_c : Cond.code Lib.Math.max.name Lib.Math.max.code 2 (some .int) ∈ zT := z_m 1060 rfl rfl
end
section
theorem z_fb {x y : Int32} (h : zB x = some y) : fits .boolean (.int y) = true := by
  rcases zB_s2 h with e | e <;> rw [e] <;> rfl
end
section
/-! methods that return or throw -/
abbrev xE1 : String := "java/lang/IllegalArgumentException"
abbrev xE2 : String := "java/lang/IllegalStateException"
abbrev xE3 : String := "java/lang/IndexOutOfBoundsException"
abbrev xE4 : String := "java/lang/ArithmeticException"
/-- words that don't lie in zT: they are carried as a fact of the state -/
def z_bad : List Cond := [.isRef (.static Bundle.tN "UNASSIGNED_STACK" Bundle.steD), .isRef (.static Bundle.tN "SUPPRESSED_SENTINEL" Bundle.listD), .laysStatic Bundle.tN "UNASSIGNED_STACK" Bundle.steD, .laysStatic Bundle.tN "SUPPRESSED_SENTINEL" Bundle.listD,
  .declares (Bundle.init0 "java/lang/RuntimeException"), .declares (Bundle.init0 "java/lang/Exception"), .declares (Bundle.init0 Bundle.tN), .castable xE1 xE1, .castable xE2 xE2, .castable xE3 xE3, .castable xE4 xE4,
  .not (.castable xE2 xE1), .not (.castable xE3 xE1), .not (.castable xE4 xE1), .not (.castable xE1 xE2), .not (.castable xE3 xE2), .not (.castable xE4 xE2), .not (.castable xE1 xE3), .not (.castable xE2 xE3), .not (.castable xE4 xE3), .not (.castable xE1 xE4), .not (.castable xE2 xE4), .not (.castable xE3 xE4)]
def z_St (B : Nat) (U : State) (H : Heap) : Prop := ∀ (U' : State) (a' : Array Value), U.vm.Alike U'.vm → (∀ q : Nat, q < B → U'.heap[q]? = H[q]?) → ∀ w ∈ z_bad, w.before a' U' = true
theorem z_St.to {B : Nat} {U U1 : State} {H H1 : Heap} (h : z_St B U H) (hv : U.vm.Alike U1.vm) (hH : ∀ q : Nat, q < B → H1[q]? = H[q]?) : z_St B U1 H1 := fun U' a' v' q' => h U' a' (hv.trans v') (fun q hq => (q' q hq).trans (hH q hq))
def zx_O (B : Nat) (r : Option Value ⊕ String) (st : State) (o : Outcome) (t : State) : Prop := match r with
  | .inl v => o = .returned v ∧ ∃ L : List Loc, st.sameButNew ({ t with vm := st.vm } : State) L 0 0 ∧ ∀ z ∈ L, B ≤ z.base
  | .inr E => (∃ (q : Addr) (ce : Cell), o = .threw q ∧ t.heap[q]? = some ce ∧ ce.vm = .none ∧ st.vm.findClass E = some ce.cls) ∧ ∃ L : List Loc, st.sameButNew ({ t with vm := st.vm } : State) L 1 6 ∧ ∀ z ∈ L, B ≤ z.base
def zx_Q (D : va_G) (dA : Nat → ClassId) (B : Nat) (r : Option Value ⊕ String) (h' : z_H) : Array Value → State → Outcome → State → Prop := fun _ st o t => z_G D dA B h' t ∧ st.WarmedH t.vm ∧ va_F (fun q => B ≤ q) st t ∧ zx_O B r st o t
def zx_P (D : va_G) (dA : Nat → ClassId) (B : Nat) (av : List Value) (h : z_H) : Array Value → State → Prop := fun v U => z_P D dA B av h v U ∧ z_St B U U.heap
abbrev zx_rm (fr lo : Nat) : Room := { frames := fr, cells := 1, slots := 6, locals := lo }
def zx_Met (l : Launch) (y : MethodName) (cc : ByteArray) (nL : Nat) (ret : Option FieldType) (fr lo : Nat) (D : va_G) (dA : Nat → ClassId) (B : Nat) (av : List Value) (h : z_H) (r : Option Value ⊕ String) (h' : z_H) : Prop :=
  MetFree l y (headSpec (z_ws y cc nL ret) (zx_rm fr lo)) (zx_P D dA B av h) (fun _ _ _ _ _ => True) (zx_Q D dA B r h')
def zx_MQ (below : List Frame) (D : va_G) (dA : Nat → ClassId) (B : Nat) (r : Option Value ⊕ String) (h' : z_H) (a : Array Value) (s : State) : State → Prop := fun t => ∃ o, t.status = .running ∧ Ended t below o ∧ zx_Q D dA B r h' a s o t
section ZX
variable {p : Program} {l : Launch} {e : Env} {R : Room} {s : State} {m : MethodId} {args : Array Value} {below : List Frame} {meth : Method} {c : Code} {H : Heap} {locs : List Loc} {cells slots : Nat} {Q : State → Prop}
variable {cc cy : ByteArray} {pc nL ny index n fr lo : Nat} {ret ry : Option FieldType} {ls : Array Slot} {rest st0 : List Value} {Ts : List Cond} {own : String} {D : va_G} {dA : Nat → ClassId} {B b : Nat} {h h' : z_H} {y : MethodName} {As : List Value}
/-- a body that returns -/
theorem zx_ret {v : Option Value} {g : JFrame} {a : Array Value} (k : W p l e R s m args below meth c H locs cells slots (MQ below (z_Q D dA B v h') a s 0 0 (fun q => B ≤ q)) g) : W p l e R s m args below meth c H locs cells slots (zx_MQ below D dA B (.inl v) h' a s) g := by
  intro T hT Y
  obtain ⟨t, a1, o, b1, b2, ⟨ho, hG, hF⟩, L, hfe, hL⟩ := k T hT Y
  exact ⟨t, a1, o, b1, b2, hG, hfe.2.1, hF, ho, L, hfe.2.2, hL⟩
/-- a body's beginning -/
theorem zx_of {av : List Value} {r : Option Value ⊕ String} (hy : plainName y.cls = true) (hlen : (lg_sl av).length ≤ ny)
    (body : ∀ (p : Program) (e : Env) (s : State) (m : MethodId) (below : List Frame) (meth : Method) (c : Code) (ls : Array Slot), z_X p s m av.toArray meth c cy ny ry (z_ws y cy ny ry) y.cls D dA B → (∀ x ∈ c.exceptionTable.toList, False) → z_St B s s.heap → z_I D dA B h s.heap s.heap [] → lv_has ls ny (lv_args 0 av) →
      W p l e (zx_rm fr lo) s m av.toArray below meth c s.heap [] 0 0 (zx_MQ below D dA B r h' av.toArray s) (F0 m 0 ls [])) : zx_Met l y cy ny ry fr lo D dA B av h r h' := by
  refine MetFree.of_bodyS (code := cy) (maxLocals := ny) (ret := ry) hy ?_ ?_
  · intro args s m h1 hn
    obtain ⟨meth, c, q1, q2, q3, q4, q5, q6, -, -⟩ := Cond.code_spec hn (atoms_spec (ws := z_ws y cy ny ry) h1 _ List.mem_cons_self)
    exact ⟨meth, c, q1, q2, q3, q4, q5, q6⟩
  · intro p e s m args below meth c s₁ Bd hml hv _
    obtain ⟨⟨rfl, hV, hK, hB⟩, hSt⟩ := hv
    have hl := lv_entry av (n := ny) hlen
    have hx : ∀ x ∈ c.exceptionTable.toList, False := by
      have h9 := Bd.noHandlers (atoms_spec (ws := z_ws y cy ny ry) Bd.pre _ List.mem_cons_self)
      intro x hx
      rw [Array.isEmpty_iff.mp h9] at hx
      cases hx
    have hh : s₁.heap = s.heap := by rw [Bd.state]; rfl
    have K := body p e s m below meth c _ ⟨⟨Bd.exec, Bd.bytes, hml, findClass_of_methodNamed Bd.named, atoms_spec (ws := z_ws y cy ny ry) Bd.pre⟩, fun w hw => List.mem_cons_of_mem _ hw, hK, hB, Bd.notSynchronized, Bd.returns⟩ hx hSt ⟨hV, va_S.rf⟩ hl
    rw [← lg_entry_eq] at K
    obtain ⟨t, a1, o, b1, b2, b3⟩ := K s₁ hh (Stand.of_body Bd)
    exact ⟨t, o, a1, b1, b2, b3⟩
end ZX
end
section
section ZY
variable {p : Program} {l : Launch} {e : Env} {R : Room} {s : State} {m : MethodId} {args : Array Value} {below : List Frame} {meth : Method} {c : Code} {locs : List Loc} {cells slots : Nat}
/-- the point T seen as a beginning: the same invocation, with the room that is left -/
theorem z_again {T : State} (Y : Stand p l e R s m args below meth c T locs cells slots) {Z : Room} (h1 : Z.frames ≤ R.frames) (h2 : Z.locals ≤ R.locals) (h3 : cells + Z.cells ≤ R.cells) (h4 : slots + Z.slots ≤ R.slots) :
    Stand p l e Z ((T.setVm s.vm).setFrames (.invoking m args :: below)) m args below meth c T [] 0 0 := by
  have ht : (T.setVm s.vm).topJava?.isSome := Y.here.top
  have hfr : ((T.setVm s.vm).setFrames (.invoking m args :: below)).frames = .invoking m args :: below := State.frames_setFrames _ (State.cur_lt_of_top ht)
  have hroom : ((T.setVm s.vm).setFrames (.invoking m args :: below)).hasRoom e.platform Z = true := by
    have r0 := Y.room
    have hu : ((T.setVm s.vm).setFrames (.invoking m args :: below)).localsInUse = s.localsInUse :=
      (State.localsInUse_invoking hfr (meth := meth) (c := c) Y.method Y.code).trans (State.localsInUse_invoking Y.frames Y.method Y.code).symm
    have e1 : e.platform.stackLimits (T.setVm s.vm).me = e.platform.stackLimits s.me := Y.limits
    have e2 : (T.setVm s.vm).me.stackBytes = s.me.stackBytes := Y.bytes
    have z1 := Y.heapSize
    have z2 := Y.used
    simp only [State.hasRoom, Bool.and_eq_true, decide_eq_true_eq] at r0 ⊢
    rw [hfr, hu, State.stackLimits_setFrames, State.stackBytes_setFrames, e1, e2]
    rw [Y.frames] at r0
    simp only [List.length_cons] at r0 ⊢
    obtain ⟨⟨⟨⟨a1, a2, a3, a4, a5, a6⟩, a7⟩, a8⟩, a9⟩ := r0
    have b7 : ((T.setVm s.vm).setFrames (.invoking m args :: below)).heap.size = T.heap.size := rfl
    have b8 : ((T.setVm s.vm).setFrames (.invoking m args :: below)).slotsUsed = T.slotsUsed := rfl
    exact ⟨⟨⟨⟨by omega, by omega, by omega, by omega, by omega, a6⟩, by omega⟩, by omega⟩, Y.book⟩
  have hsame : ((T.setVm s.vm).setFrames (.invoking m args :: below)).sameButNew (T.setVm ((T.setVm s.vm).setFrames (.invoking m args :: below)).vm) [] 0 0 := by
    obtain ⟨g, hg⟩ := Option.isSome_iff_exists.mp ht
    obtain ⟨r, hr⟩ := State.topJava?_eq_some.mp hg
    obtain ⟨t, hth, -⟩ := State.frames_cons hr
    have hnil : T.heap.toList.drop T.heap.size = [] := List.drop_eq_nil_of_le (Nat.le_of_eq Array.length_toList)
    refine ⟨?_, Nat.le_refl _, Nat.le_refl _, ?_, ?_, fun a c9 h9 => ⟨c9, h9, rfl, rfl, fun _ _ => rfl⟩⟩
    · show T.setVm s.vm = { ((T.setVm s.vm).setFrames (.invoking m args :: below)).setFrames (T.setVm s.vm).frames with heap := T.heap, slotsUsed := T.slotsUsed }
      rw [State.setFrames_setFrames, State.setFrames_self hth]
      rfl
    · show T.slotsUsed = T.slotsUsed + ((T.heap.toList.drop T.heap.size).map (·.slots.size)).sum
      rw [hnil]; rfl
    · show ((T.heap.toList.drop T.heap.size).map (·.slots.size)).sum ≤ 0
      rw [hnil]; exact Nat.le_refl _
  exact ⟨Y.admits, Y.cas, Y.clock, hfr, hroom, Y.hears, Y.method, Y.code, Y.here, Y.tail, Y.warmed, by rw [State.stackLimits_setFrames]; rfl, by rw [State.stackBytes_setFrames]; rfl, hsame⟩
/-- what lay there lies there still, where nothing was written -/
theorem z_lies {U : State} {k n : Nat} (h : s.sameButNew ({ U with vm := s.vm } : State) [] k n) : s.heap.size ≤ U.heap.size ∧ ∀ q : Nat, q < s.heap.size → U.heap[q]? = s.heap[q]? := by
  obtain ⟨-, h2, -, -, -, h6⟩ := h
  refine ⟨h2, fun q hq => ?_⟩
  obtain ⟨x, e1, e2, -, e4⟩ := h6 q _ (Array.getElem?_eq_getElem hq)
  have es : x.slots = (s.heap[q]).slots := Array.ext_getElem? fun i => e4 i (fun hm => nomatch hm)
  have ex : x = s.heap[q] := by
    rw [es] at e2
    exact e2
  rw [Array.getElem?_eq_getElem hq, ← ex]
  exact e1
theorem z_V.kept {D : va_G} {dA : Nat → ClassId} {B : Nat} {h : z_H} {H H1 : Heap} (hV : z_V D dA B h H) (hq : ∀ q : Nat, q < H.size → H1[q]? = H[q]?) : z_V D dA B h H1 := by
  obtain ⟨L, hP, hD, hL⟩ := hV
  exact ⟨L, fun k q hk => (hP k q hk).kept (hq _ (hP k q hk).lt), hD, hL⟩
end ZY
end
section
abbrev z_nm : List String := ["java/lang/RuntimeException", "java/lang/Exception"]
section ZZ
variable {p : Program} {l : Launch} {e : Env} {R : Room} {s : State} {m : MethodId} {args : Array Value} {below : List Frame} {meth : Method} {c : Code} {H : Heap} {locs : List Loc} {cells slots : Nat} {Q : State → Prop}
variable {cc cy : ByteArray} {pc nL ny index n fr lo : Nat} {ret ry : Option FieldType} {ls : Array Slot} {rest st0 : List Value} {Ts : List Cond} {own : String} {D : va_G} {dA : Nat → ClassId} {B b : Nat} {h h' : z_H} {y : MethodName} {As : List Value}
theorem z_below (X : z_X p s m args meth c cc nL ret Ts own D dA B) (hI : z_I D dA B h s.heap H locs) : ∀ q : Nat, q < B → H[q]? = s.heap[q]? := fun q hq => hI.2.2.1 q (Nat.lt_of_lt_of_le hq X.2.2.2.1) (Nat.not_le.mpr hq)
set_option maxHeartbeats 1000000 in
/-- throw new E() : new, dup, invokespecial, athrow; nothing here catches it -/
theorem zx_throw (X : z_X p s m args meth c cc nL ret Ts own D dA B) (hl : l.stackTraces = false) (hno : ∀ x ∈ c.exceptionTable.toList, False) (hSt : z_St B s s.heap) (hI : z_I D dA B h s.heap H locs) {cls : String} {ik ic : Nat} (hcls : Bundle.fit cls = true)
    (w1 : Cond.classLink own ik cls ∈ zT) (w2 : Cond.initialized cls ∈ zT) (hat : ∀ w ∈ Bundle.ownAtoms0 own ic cls z_nm, w ∈ zT ∨ w ∈ z_bad) (hls : ls.size = nL)
    (d0 : decode cc pc = .ok (.new ik, 3)) (d3 : decode cc (pc + 3) = .ok (.dup, 1)) (d4 : decode cc (pc + 4) = .ok (.invokespecial ic, 3)) (d7 : decode cc (pc + 7) = .ok (.athrow, 1))
    (hR : 5 < R.frames ∧ (rest.map fun v => v.category).sum + 81 ≤ R.locals ∧ 1 ≤ R.cells ∧ 6 ≤ R.slots) : W p l e R s m args below meth c H locs 0 0 (zx_MQ below D dA B (.inr cls) h args s) (F0 m pc ls rest) := by
  intro T hT Y
  have hexec := z_hx X
  have hb := z_hb X
  have htr : e.platform.stackTraces = false := (show e.platform.stackTraces = l.stackTraces by rw [Y.admits.platform]).trans hl
  have V := z_again Y (Z := { frames := R.frames, locals := R.locals, cells := 1, slots := 6 }) (Nat.le_refl _) (Nat.le_refl _) (by have := hR.2.2.1; show 0 + 1 ≤ R.cells; omega) (by have := hR.2.2.2; show 0 + 6 ≤ R.slots; omega)
  obtain ⟨s', hs'⟩ : ∃ z, z = (T.setVm s.vm).setFrames (.invoking m args :: below) := ⟨_, rfl⟩
  rw [← hs'] at V
  have hvm : s'.vm = s.vm := by rw [hs']; rfl
  have hhp : s'.heap = H := by rw [hs']; exact hT
  have hW0 : s.WarmedH s'.vm := by rw [hvm]; exact State.WarmedH.refl s
  have hz : ∀ w ∈ zT, w.before args s' = true := fun w hw => word_at hW0 (z_good hw) (z_w X hw)
  have hbad : ∀ w ∈ z_bad, w.before args s' = true := hSt s' args (by rw [hvm]; exact Vm.Alike.refl s.vm) (fun q hq => by rw [hhp]; exact z_below X hI q hq)
  have hall : ∀ w ∈ Bundle.ownAtoms0 own ic cls z_nm, w.before args s' = true := fun w hw => (hat w hw).elim (hz w) (hbad w)
  have hown' : s'.vm.findClass own = some m.cls := by rw [hvm]; exact X.1.2.2.2.1
  have hins : (Cond.instantiable cls 6).before args s' = true := hall _ (by simp [Bundle.ownAtoms0])
  obtain ⟨vm₁, cX, kX, hfX, hkX, -, -, V1, st1⟩ := V.newCold hexec (own := own) (C := cls) (index := ik) (n := 6) hown' (hz _ w1) hins (hz _ w2) (g := F0 m pc ls rest) rfl (by rw [hb]; exact d0) (Nat.le_refl _) (Nat.le_refl _)
  generalize hT1 : (T.setVm vm₁).pushCell { cls := cX, slots := kX.instanceTypes.map defaultValue, vm := .none } = T1 at V1 st1
  have hcellA : T1.heap[T.heap.size]? = some (freshCell cX kX) := by rw [← hT1]; exact State.heap_pushCell_size _ _
  have d3' : decode c.code (pc + 3) = .ok (.dup, 1) := by rw [hb]; exact d3
  have hcat : (Value.ref T.heap.size).category = 1 := rfl
  obtain ⟨U, hsteps, hrun, hend, hW, hsame, ce, hce, hO⟩ := V1.ctorThrow0 hexec htr (own := own) (cls := cls) (names := z_nm) (ic := ic) hown' hcls (by decide) hall (fun x hx => nomatch hx) hfX hkX hcellA (by rw [hhp, hT]; exact Nat.le_refl _)
    (g := { method := m, pc := pc + 4, locals := ls, stack := .ref T.heap.size :: .ref T.heap.size :: rest, locked := none }) rfl (hls.trans X.1.2.2.1.symm) rfl rfl (rest := rest) rfl
    (by rw [hb]; exact d4) (by rw [hb]; exact d7) (fun x hx => (hno x hx).elim) hR.1 (by have := hR.2.1; simp only [List.map_cons, List.sum_cons, hcat]; show 2 * 0 + _ + (13 * (2 + 1) + 41) ≤ R.locals; omega) X.2.2.2.2.1
  obtain ⟨f1, f2⟩ := z_lies hsame
  rw [hhp] at f1 f2
  have hWs : s.WarmedH U.vm := State.WarmedH.trans hW0 hW
  have hall2 : s.sameButNew ({ U with vm := s.vm } : State) locs 1 6 := by
    subst hs'
    obtain ⟨e1, e2⟩ := hsame
    rw [State.setFrames_setFrames] at e1
    have h2 : (T.setVm s.vm).sameButNew ({ U with vm := s.vm } : State) [] (0 + 1) (0 + 6) := ⟨e1, e2⟩
    have h3 := Y.same.trans h2
    rw [List.append_nil] at h3
    exact h3
  have hBH : B ≤ H.size := Nat.le_trans X.2.2.2.1 hI.2.1
  refine ⟨U, ?_, .threw T.heap.size, hrun, hend, ⟨hI.1.kept f2, va_K.moved hWs.alike X.2.2.1, Nat.le_trans hBH f1⟩, hWs, ⟨Nat.le_trans hI.2.1 f1, fun q hq hn => (f2 q (Nat.lt_of_lt_of_le hq hI.2.1)).trans (hI.2.2.1 q hq hn)⟩, ⟨T.heap.size, ce, rfl, hce, hO.vm, by have h9 := hO.cls; rw [hvm] at h9; exact h9⟩, locs, hall2, hI.2.2.2⟩
  refine st1 _ ?_
  show Steps p.tables e below (T1.setTop { method := m, pc := pc + 3, locals := ls, stack := .ref T.heap.size :: rest, locked := none }) _
  jvm_step V1.here [V1.here.top, hexec, d3', Value.category]
  exact hsteps
end ZZ
end
section
section ZB1
variable {p : Program} {l : Launch} {e : Env} {R : Room} {s : State} {m : MethodId} {args : Array Value} {below : List Frame} {meth : Method} {c : Code} {H : Heap} {locs : List Loc} {cells slots : Nat} {Q : State → Prop}
variable {cc cy : ByteArray} {pc nL ny index n fr lo len : Nat} {ret ry : Option FieldType} {ls : Array Slot} {rest st0 : List Value} {Ts : List Cond} {own : String} {D : va_G} {dA : Nat → ClassId} {B b : Nat} {h h' : z_H} {y : MethodName} {As av : List Value} {r : Option Value ⊕ String}
/-- the state behind a callee: the caller's frames, the callee's heap and tables -/
abbrev zx_to (U s₂ : State) : State := ({ U with heap := s₂.heap, slotsUsed := s₂.slotsUsed } : State).setVm s₂.vm
theorem zx_stand {U s₂ : State} {L : List Loc} {k j : Nat} {g : JFrame} {mk : MethodId} {a : Array Value} (Y : Stand p l e R s m args below meth c U locs cells slots) (hW : U.WarmedH s₂.vm) (hs : (U.calling g mk a).sameButNew ({ s₂ with vm := (U.calling g mk a).vm } : State) L k j) :
    Stand p l e R s m args below meth c (zx_to U s₂) (locs ++ L) (cells + k) (slots + j) ∧ s₂ = ({ (U.calling g mk a).setFrames s₂.frames with heap := s₂.heap, slotsUsed := s₂.slotsUsed } : State).setVm s₂.vm := by
  obtain ⟨e2, q2, q3, q4, q5, q6⟩ := hs
  obtain ⟨g₀, hg0⟩ := Option.isSome_iff_exists.mp Y.here.top
  obtain ⟨r, hr⟩ := State.topJava?_eq_some.mp hg0
  have hsame : U.sameButNew ({ U with heap := s₂.heap, slotsUsed := s₂.slotsUsed } : State) L k j := by
    refine ⟨?_, q2, q3, q4, q5, q6⟩
    obtain ⟨t, ht, -⟩ := State.frames_cons hr
    show ({ U with heap := s₂.heap, slotsUsed := s₂.slotsUsed } : State) = { U.setFrames U.frames with heap := s₂.heap, slotsUsed := s₂.slotsUsed }
    rw [State.setFrames_self ht]
  refine ⟨⟨Y.admits, Y.cas, Y.clock, Y.frames, Y.room, Y.hears, Y.method, Y.code, (Y.here.setHeapUsed s₂.heap s₂.slotsUsed).setVm hW.alike, Y.tail, State.WarmedH.trans Y.warmed hW, Y.limits, Y.bytes, Y.same.trans (hsame.setVm s.vm)⟩, ?_⟩
  have h9 : s₂ = ({ s₂ with vm := (U.calling g mk a).vm } : State).setVm s₂.vm := rfl
  rw [e2] at h9
  exact h9
/-- a callee that returns or throws, begun from a point where this invocation stands -/
theorem zx_back (hM : zx_Met l y cy ny ry fr lo D dA B av h r h') {U : State} (Y : Stand p l e R s m args below meth c U locs cells slots) {g : JFrame} (hg : g.method = m) (hsize : g.locals.size = c.maxLocals) {ig : Instr} (hdg : decode c.code g.pc = .ok (ig, len)) (hW9 : 2 * g.monitorRoom + (g.stack.map fun v => v.category).sum ≤ 8)
    {mk : MethodId} (hn : U.methodNamed? y = some mk) (hP : zx_P D dA B av h av.toArray U) (hz : ∀ w ∈ zT, w.before av.toArray U = true) (w4 : Cond.initialized y.cls ∈ zT) (w5 : Cond.code y cy ny ry ∈ zT) (hR : fr + 1 ≤ R.frames ∧ 8 + (ny + 11) + lo ≤ R.locals) (hcs : cells + 1 ≤ R.cells ∧ slots + 6 ≤ R.slots) :
    (∃ (v : Option Value) (s₂ : State) (L : List Loc), r = .inl v ∧ Stand p l e R s m args below meth c (zx_to U s₂) (locs ++ L) cells slots ∧ (∀ z ∈ L, B ≤ z.base) ∧ z_G D dA B h' s₂ ∧ va_F (fun q => B ≤ q) U s₂ ∧
      Steps p.tables e below (doInvoke e (U.setTop g) [] mk av.toArray).1 ((zx_to U s₂).setTop { g with pc := g.pc + len, stack := v.toList ++ g.stack })) ∨
    (∃ (E : String) (q : Addr) (ce : Cell) (s₂ : State) (L : List Loc), r = .inr E ∧ Stand p l e R s m args below meth c (zx_to U s₂) (locs ++ L) (cells + 1) (slots + 6) ∧ (∀ z ∈ L, B ≤ z.base) ∧ z_G D dA B h' s₂ ∧ va_F (fun q => B ≤ q) U s₂ ∧ s₂.heap[q]? = some ce ∧ ce.vm = .none ∧ U.vm.findClass E = some ce.cls ∧
      Steps p.tables e below (doInvoke e (U.setTop g) [] mk av.toArray).1 (((zx_to U s₂).setTop g).pushFrame (.throwing q))) := by
  obtain ⟨methY, cY, hmY, hcY, -, hlY, -, -, -, -⟩ := Cond.code_spec hn (hz _ w5)
  obtain ⟨kY, hkY, -⟩ := className_of_methodNamed hn
  have hini : kY.init = .initialized := Cond.initialized_spec (findClass_of_methodNamed hn) hkY (hz _ w4)
  have hat : At U g.method c below := by rw [hg]; exact Y.here
  have hpre : (headSpec (z_ws y cy ny ry) (zx_rm fr lo)).pre.before av.toArray U = true := atoms_intro fun w hw => hz w (z_all w5 w hw)
  have happ : (headSpec (z_ws y cy ny ry) (zx_rm fr lo)).appliesLoose y e.platform (U.calling g mk av.toArray) = true :=
    Spec.appliesLoose_calling (g := g) hat hdg hn hkY hini (Y.room_calling (g := g) (R' := (headSpec (z_ws y cy ny ry) (zx_rm fr lo)).room) hsize hmY hcY hR.1 (by rw [hlY]; have h9 := hR.2; show _ + lo ≤ R.locals; omega) hcs.1 hcs.2) hpre
  have hPc : zx_P D dA B av h av.toArray (U.calling g mk av.toArray) := ⟨z_G.blind _ U g mk hP.1, hP.2⟩
  obtain ⟨mid, hmid⟩ := hat.above
  have hfr : (U.setTop g).frames = (.java g :: mid) ++ below := by rw [State.frames_setTop' g hat.top, hmid]; rfl
  obtain ⟨o, s₂, hsteps, -, hend, hq⟩ := Steps.callFree hM p Y.admits Y.cas Y.clock (acts := []) hfr happ hPc trivial
  have hq' : zx_Q D dA B r h' av.toArray (U.calling g mk av.toArray) o s₂ := hq
  obtain ⟨hG, hWm, hF, hO⟩ := hq'
  have hWm' : U.WarmedH s₂.vm := hWm
  rw [State.frames_setTop' g hat.top] at hend
  obtain ⟨g₀, hg0⟩ := Option.isSome_iff_exists.mp hat.top
  obtain ⟨rr, hr⟩ := State.topJava?_eq_some.mp hg0
  have hr' : (zx_to U s₂).frames = .java g₀ :: rr := hr
  cases r with
  | inl v =>
    obtain ⟨rfl, L, hsm, hL⟩ := hO
    obtain ⟨Y', e3⟩ := zx_stand Y hWm' hsm
    obtain ⟨c₂, i₂, len₂, hc₂, hd₂, hf₂⟩ := hend
    have hcc : c₂ = c := by
      have h1 : s₂.code? g.method = U.code? g.method := by
        rw [State.code?_eq, State.code?_eq, hWm'.alike.method?]
      exact Option.some.inj (hc₂.symm.trans (h1.trans hat.code))
    subst hcc
    have hlen : len₂ = len := by rw [hdg] at hd₂; cases hd₂; rfl
    subst hlen
    have hs₂ : s₂ = (zx_to U s₂).setTop { g with pc := g.pc + len₂, stack := v.toList ++ g.stack } := by
      refine e3.trans ?_
      rw [hf₂, State.calling_eq hat.top, State.setFrames_setFrames, State.setTop_of_frames _ hr', hr]
      rfl
    refine Or.inl ⟨v, s₂, L, rfl, Y', hL, hG, hF, ?_⟩
    rw [← hs₂]
    exact hsteps
  | inr E =>
    obtain ⟨⟨q, ce, rfl, hce, hcv, hcl⟩, L, hsm, hL⟩ := hO
    obtain ⟨Y', e3⟩ := zx_stand Y hWm' hsm
    have hf₂ : s₂.frames = .throwing q :: .java g :: U.frames.tail := hend
    have hs₂ : s₂ = ((zx_to U s₂).setTop g).pushFrame (.throwing q) := by
      refine e3.trans ?_
      rw [hf₂, State.calling_eq hat.top, State.setFrames_setFrames, State.pushFrame, State.frames_setTop _ hr', State.setTop_of_frames _ hr', State.setFrames_setFrames, hr]
      rfl
    refine Or.inr ⟨E, q, ce, s₂, L, rfl, Y', hL, hG, hF, hce, hcv, hcl, ?_⟩
    rw [← hs₂]
    exact hsteps
/-- q is being thrown over the frame g -/
def zx_T (p : Program) (l : Launch) (e : Env) (R : Room) (s : State) (m : MethodId) (args : Array Value) (below : List Frame) (meth : Method) (c : Code) (H : Heap) (locs : List Loc) (cells slots : Nat) (Q : State → Prop) (g : JFrame) (q : Addr) : Prop :=
  ∀ T : State, T.heap = H → Stand p l e R s m args below meth c T locs cells slots → ∃ t, Steps p.tables e below ((T.setTop g).pushFrame (.throwing q)) t ∧ Q t
theorem zx_in {U s₂ : State} {L : List Loc} (hU : U.heap = H) (hI : z_I D dA B h s.heap H locs) (hG : z_G D dA B h' s₂) (hF : va_F (fun q => B ≤ q) U s₂) (hL : ∀ z ∈ L, B ≤ z.base) : z_I D dA B h' s.heap (zx_to U s₂).heap (locs ++ L) := by
  obtain ⟨hz, hk⟩ := hF
  rw [hU] at hz hk
  refine ⟨hG.1, Nat.le_trans hI.2.1 hz, fun q hq hn => ?_, fun x hx => ?_⟩
  · show s₂.heap[q]? = _
    rw [hk q (Nat.lt_of_lt_of_le hq hI.2.1) hn]
    exact hI.2.2.1 q hq hn
  · rcases List.mem_append.mp hx with h9 | h9
    · exact hI.2.2.2 x h9
    · exact hL x h9
theorem zx_callV (X : z_X p s m args meth c cc nL ret Ts own D dA B) (hSt : z_St B s s.heap) (hI : z_I D dA B h s.heap H locs) {ci : Nat} {q : vw_C} {u : Unit} (hO : gO h b ci = some u) (hM : zx_Met l y cy ny ry fr lo D dA B (.ref b :: As) h r h') (hc : zcl[ci]? = some q) (hq : q.1 = y.cls) (w1 : Cond.methodLink own index y ∈ zT) (w : z_yV y cy ny ry n) (hn : As.length = n) (hls : ls.size = nL) (hst : st0 = As.reverse ++ .ref b :: rest) (hro : (rest.map fun v => v.category).sum ≤ 8)
    (hR : fr + 1 ≤ R.frames ∧ 8 + (ny + 11) + lo ≤ R.locals) (hcs : cells + 1 ≤ R.cells ∧ slots + 6 ≤ R.slots) (hdg : decode cc pc = .ok (.invokevirtual index, 3))
    (kr : ∀ v : Option Value, r = .inl v → ∀ (H1 : Heap) (locs1 : List Loc), z_I D dA B h' s.heap H1 locs1 → W p l e R s m args below meth c H1 locs1 cells slots Q (F0 m (pc + 3) ls (v.toList ++ rest)))
    (kt : ∀ E : String, r = .inr E → ∀ (H1 : Heap) (locs1 : List Loc) (q : Addr) (ce : Cell), z_I D dA B h' s.heap H1 locs1 → H1[q]? = some ce → ce.vm = .none → s.vm.findClass E = some ce.cls → zx_T p l e R s m args below meth c H1 locs1 (cells + 1) (slots + 6) Q (F0 m pc ls rest) q) : W p l e R s m args below meth c H locs cells slots Q (F0 m pc ls st0) := by
  obtain ⟨w2, w3, w4, w5, w6, w7, w8⟩ := w
  obtain ⟨fs, he⟩ := gO_s hO
  obtain ⟨ws, q0, hPw, hD, hS, hq0, -⟩ := hI.rd he
  obtain ⟨cellB, hcB, hoB, hclB⟩ := va_recv X.2.2.1 hPw hc hq0
  rw [hq] at hclB
  intro T hT Y
  obtain ⟨mk, methM, hnamed, hmethM, hstM, habM⟩ := Cond.instanceMethod_spec (z_w X w2)
  obtain ⟨methM', cM, hmethM', -, -, -, -, -, -, hsigM⟩ := Cond.code_spec hnamed (z_w X w5)
  cases hmethM.symm.trans hmethM'
  obtain ⟨c2, r2, m2, q1, q2, q3, q4, kP, hkP, hkPi⟩ := Cond.selects_spec (z_w X w3)
  cases hclB.symm.trans q1
  cases (State.methodFound?_of_named hnamed ⟨w6, w7⟩).symm.trans q2
  cases hnamed.symm.trans q3
  have hselP : selectMethod e.platform s.vm cellB.cls mk = .method mk := by rw [Launch.admits_selectMethod Y.admits]; exact q4
  have hlen : As.length = methM.sig.parameters.length := by
    rw [hsigM] at w8
    exact hn.trans (Option.some.inj w8).symm
  obtain ⟨vm₁, Y₁, hstep₁⟩ := Y.invokevirtual (z_hx X) X.1.2.2.2.1 (z_w X w1) hnamed hmethM hstM hkP hkPi ⟨w6, w7⟩ (a := b) (cell := cellB) (by rw [hT]; exact hcB)
    (fun z h9 => by rw [h9] at hoB; cases hoB) hselP hmethM habM hkP hkPi (g := F0 m pc ls st0) rfl (argsL := As) (rest := rest) hlen hst (by rw [z_hb X]; exact hdg)
  have hU : (T.setVm vm₁).heap = H := hT
  have hP1 : zx_P D dA B (.ref b :: As) h (Value.ref b :: As).toArray (T.setVm vm₁) := ⟨z_pre X hI _ _ hU Y₁.warmed, hSt.to Y₁.warmed.alike (fun q hq => by rw [hU]; exact z_below X hI q hq)⟩
  rcases zx_back hM Y₁ (g := F0 m pc ls rest) rfl (hls.trans X.1.2.2.1.symm) (by rw [z_hb X]; exact hdg) (lv_room hro) (Y₁.named hnamed) hP1 (fun w hw => word_at Y₁.warmed (z_good hw) (z_w X hw)) w4 w5 hR hcs with ⟨v, s₂, L, er, Y', hL, hG, hF, st⟩ | ⟨E, q9, ce, s₂, L, er, Y', hL, hG, hF, hce, hcv, hcl, st⟩
  · obtain ⟨t, a1, b1⟩ := kr v er _ _ (zx_in hU hI hG hF hL) _ rfl Y'
    exact ⟨t, hstep₁ _ fun acts => by rw [doInvoke_state]; exact st.trans a1, b1⟩
  · have hcl' : s.vm.findClass E = some ce.cls := by
      have h9 := hcl
      rw [Y₁.warmed.alike.findClass] at h9
      exact h9
    obtain ⟨t, a1, b1⟩ := kt E er _ _ q9 ce (zx_in hU hI hG hF hL) hce hcv hcl' _ rfl Y'
    exact ⟨t, hstep₁ _ fun acts => by rw [doInvoke_state]; exact st.trans a1, b1⟩
/-- not caught here: it goes on to the caller -/
theorem zx_out {E : String} {ce : Cell} {q : Addr} (X : z_X p s m args meth c cc nL ret Ts own D dA B) (hno : ∀ x ∈ c.exceptionTable.toList, False) (hI : z_I D dA B h s.heap H locs) (hce : H[q]? = some ce) (hcv : ce.vm = .none) (hcl : s.vm.findClass E = some ce.cls) : zx_T p l e R s m args below meth c H locs (0 + 1) (0 + 6) (zx_MQ below D dA B (.inr E) h args s) (F0 m pc ls rest) q := by
  intro T hT Y
  obtain ⟨st1, hrun, hend, hW, hsm⟩ := Y.leaveThrown q (g := F0 m pc ls rest) rfl rfl rfl (fun x hx => (hno x hx).elim) X.2.2.2.2.1
  refine ⟨_, st1, .threw q, hrun, hend, ⟨?_, va_K.moved hW.alike X.2.2.1, ?_⟩, hW, ⟨?_, ?_⟩, ⟨q, ce, rfl, ?_, hcv, hcl⟩, locs, hsm, hI.2.2.2⟩
  · show z_V D dA B h T.heap
    rw [hT]; exact hI.1
  · show B ≤ T.heap.size
    rw [hT]; exact Nat.le_trans X.2.2.2.1 hI.2.1
  · show s.heap.size ≤ T.heap.size
    rw [hT]; exact hI.2.1
  · intro q1 h1 h2
    show T.heap[q1]? = _
    rw [hT]; exact hI.2.2.1 q1 h1 h2
  · show T.heap[q]? = _
    rw [hT]; exact hce
end ZB1
def zx_ri (r : Int32 ⊕ String) : Option Value ⊕ String := match r with
  | .inl x => .inl (some (.int x))
  | .inr E => .inr E
def zx_rv (r : Unit ⊕ String) : Option Value ⊕ String := match r with
  | .inl _ => .inl none
  | .inr E => .inr E
def zx_k {α β : Type} (r : (α ⊕ String) × z_H) (k : α → z_H → Option ((β ⊕ String) × z_H)) : Option ((β ⊕ String) × z_H) := match r.1 with
  | .inl x => k x r.2
  | .inr E => some (.inr E, r.2)
theorem zx_kl {α β : Type} {x : α} {h : z_H} {k : α → z_H → Option ((β ⊕ String) × z_H)} {y : (β ⊕ String) × z_H} (e : zx_k (.inl x, h) k = some y) : k x h = some y := e
theorem zx_kr {α β : Type} {E : String} {h : z_H} {k : α → z_H → Option ((β ⊕ String) × z_H)} {y : (β ⊕ String) × z_H} (e : zx_k (.inr E, h) k = some y) : ((.inr E : β ⊕ String), h) = y := Option.some.inj e
def z_pk (i : Nat) : Option Cond := if i < 5000 then lw_tbl[i]? else z_bad[i - 5000]?
theorem z_msb {L : List Cond} (ps : List Nat) (hp : L = ps.filterMap z_pk) (hg : ps.all (fun i => decide (5000 ≤ i) || (lw_tbl[i]?).all goodWord) = true) : ∀ w ∈ L, w ∈ zT ∨ w ∈ z_bad := by
  intro w hw
  rw [hp] at hw
  obtain ⟨i, hi, h1⟩ := List.mem_filterMap.mp hw
  have h2 := List.all_eq_true.mp hg i hi
  unfold z_pk at h1
  split at h1
  · next h3 =>
    left
    simp only [Bool.or_eq_true, decide_eq_true_eq] at h2
    rcases h2 with h2 | h2
    · omega
    · rw [h1] at h2
      exact z_m i h1 h2
  · right
    exact List.mem_of_getElem? h1
theorem xf1 : Bundle.fit xE1 = true := by decide +kernel
theorem xf2 : Bundle.fit xE2 = true := by decide +kernel
theorem xf3 : Bundle.fit xE3 = true := by decide +kernel
theorem xf4 : Bundle.fit xE4 = true := by decide +kernel
end
section
/-! methods with a table of handlers: they return; what was thrown to them costs a cell -/
def zw_ws (y : MethodName) (cc : ByteArray) (n : Nat) (ret : Option FieldType) (hh : List (Nat × Nat × Nat × Nat)) : List Cond := .codeWith y cc n ret hh :: zT
def zw_Q (D : va_G) (dA : Nat → ClassId) (B : Nat) (r : Option Value) (h' : z_H) : Array Value → State → Outcome → State → Prop := fun _ st o t => o = .returned r ∧ z_G D dA B h' t ∧ st.WarmedH t.vm ∧ va_F (fun q => B ≤ q) st t ∧ ∃ L : List Loc, st.sameButNew ({ t with vm := st.vm } : State) L 1 6 ∧ ∀ z ∈ L, B ≤ z.base
def zw_Met (l : Launch) (y : MethodName) (cc : ByteArray) (nL : Nat) (ret : Option FieldType) (hh : List (Nat × Nat × Nat × Nat)) (fr lo : Nat) (D : va_G) (dA : Nat → ClassId) (B : Nat) (av : List Value) (h : z_H) (r : Option Value) (h' : z_H) : Prop :=
  MetFree l y (headSpec (zw_ws y cc nL ret hh) (zx_rm fr lo)) (zx_P D dA B av h) (fun _ _ _ _ _ => True) (zw_Q D dA B r h')
def zw_MQ (below : List Frame) (D : va_G) (dA : Nat → ClassId) (B : Nat) (r : Option Value) (h' : z_H) (a : Array Value) (s : State) : State → Prop := fun t => ∃ o, t.status = .running ∧ Ended t below o ∧ zw_Q D dA B r h' a s o t
def zw_row (x : ExceptionTableEntry) : Nat × Nat × Nat × Nat := (x.startPc, x.endPc, x.handlerPc, x.catchType)
section ZW
variable {p : Program} {l : Launch} {e : Env} {R : Room} {s : State} {m : MethodId} {args : Array Value} {below : List Frame} {meth : Method} {c : Code} {H : Heap} {locs : List Loc} {cells slots : Nat} {Q : State → Prop}
variable {cc cy : ByteArray} {pc nL ny index n fr lo len : Nat} {ret ry : Option FieldType} {ls : Array Slot} {rest st0 : List Value} {Ts : List Cond} {own : String} {D : va_G} {dA : Nat → ClassId} {B b : Nat} {h h' : z_H} {y : MethodName} {As av : List Value} {r : Option Value} {hh : List (Nat × Nat × Nat × Nat)}
theorem zw_ret {v : Option Value} {g : JFrame} {a : Array Value} (hc : cells ≤ 1) (hs : slots ≤ 6) (k : W p l e R s m args below meth c H locs cells slots (MQ below (z_Q D dA B v h') a s cells slots (fun q => B ≤ q)) g) : W p l e R s m args below meth c H locs cells slots (zw_MQ below D dA B v h' a s) g := by
  intro T hT Y
  obtain ⟨t, a1, o, b1, b2, ⟨ho, hG, hF⟩, L, hfe, hL⟩ := k T hT Y
  exact ⟨t, a1, o, b1, b2, ho, hG, hfe.2.1, hF, L, hfe.2.2.mono hc hs, hL⟩
theorem zw_of (hy : plainName y.cls = true) (hlen : (lg_sl av).length ≤ ny)
    (body : ∀ (p : Program) (e : Env) (s : State) (m : MethodId) (below : List Frame) (meth : Method) (c : Code) (ls : Array Slot), z_X p s m av.toArray meth c cy ny ry (zw_ws y cy ny ry hh) y.cls D dA B → c.exceptionTable.toList.map zw_row = hh → z_St B s s.heap → z_I D dA B h s.heap s.heap [] → lv_has ls ny (lv_args 0 av) →
      W p l e (zx_rm fr lo) s m av.toArray below meth c s.heap [] 0 0 (zw_MQ below D dA B r h' av.toArray s) (F0 m 0 ls [])) : zw_Met l y cy ny ry hh fr lo D dA B av h r h' := by
  refine MetFree.of_bodyS (code := cy) (maxLocals := ny) (ret := ry) hy ?_ ?_
  · intro args s m h1 hn
    obtain ⟨m9, meth, c, q0, q1, q2, q3, q4, q5, q6, q7, q8⟩ := Cond.codeWith_spec (atoms_spec (ws := zw_ws y cy ny ry hh) h1 _ List.mem_cons_self)
    cases Option.some.inj (q0.symm.trans hn)
    exact ⟨meth, c, q1, q2, q3, q4, q6, q7⟩
  · intro p e s m args below meth c s₁ Bd hml hv _
    obtain ⟨⟨rfl, hV, hK, hB⟩, hSt⟩ := hv
    have hl := lv_entry av (n := ny) hlen
    have hh9 : c.exceptionTable.toList.map zw_row = hh := by
      obtain ⟨m9, meth9, c9, q0, q1, q2, q3, q4, q5, q6, q7, q8⟩ := Cond.codeWith_spec (atoms_spec (ws := zw_ws y cy ny ry hh) Bd.pre _ List.mem_cons_self)
      cases Option.some.inj (q0.symm.trans Bd.named)
      cases Option.some.inj (q1.symm.trans Bd.method)
      cases Option.some.inj (q2.symm.trans (Stand.of_body Bd).code)
      exact q5
    have hhp : s₁.heap = s.heap := by rw [Bd.state]; rfl
    have K := body p e s m below meth c _ ⟨⟨Bd.exec, Bd.bytes, hml, findClass_of_methodNamed Bd.named, atoms_spec (ws := zw_ws y cy ny ry hh) Bd.pre⟩, fun w hw => List.mem_cons_of_mem _ hw, hK, hB, Bd.notSynchronized, Bd.returns⟩ hh9 hSt ⟨hV, va_S.rf⟩ hl
    rw [← lg_entry_eq] at K
    obtain ⟨t, a1, o, b1, b2, b3⟩ := K s₁ hhp (Stand.of_body Bd)
    exact ⟨t, o, a1, b1, b2, b3⟩
/-- caught: the first row that covers pc and names E; the rows before it name classes that E isn't -/
theorem zw_catch {E : String} {ce : Cell} {q : Addr} (X : z_X p s m args meth c cc nL ret Ts own D dA B) (hSt : z_St B s s.heap) (hh9 : c.exceptionTable.toList.map zw_row = hh) (pre : List (Nat × Nat × Nat × Nat)) (a b hp ct : Nat) (suf : List (Nat × Nat × Nat × Nat)) (hs : hh = pre ++ (a, b, hp, ct) :: suf)
    (hpass : ∀ z ∈ pre, z.2.2.2 ≠ 0 ∧ ∃ nm : String, Cond.classLink own z.2.2.2 nm ∈ zT ∧ Cond.not (.castable E nm) ∈ z_bad) (hcov : a ≤ pc ∧ pc < b) (h0 : ct ≠ 0) (hlink : Cond.classLink own ct E ∈ zT) (hcast : Cond.castable E E ∈ z_bad) (hce : H[q]? = some ce) (hcv : ce.vm = .none) (hcl : s.vm.findClass E = some ce.cls)
    (kk : W p l e R s m args below meth c H locs cells slots Q (F0 m hp ls [.ref q])) : zx_T p l e R s m args below meth c H locs cells slots Q (F0 m pc ls rest) q := by
  intro T hT Y
  have hbad : ∀ w ∈ z_bad, w.before args s = true := hSt s args (Vm.Alike.refl s.vm) (fun _ _ => rfl)
  have hpl : e.platform.magicAccessors = ({} : Platform).magicAccessors := by rw [Y.admits.platform]
  rw [hs] at hh9
  obtain ⟨P1, P2, e1, e2, e3⟩ := List.map_eq_append_iff.mp hh9
  obtain ⟨x, S1, e4, e5, e6⟩ := List.map_eq_cons_iff.mp e3
  subst e4
  have g1 : x.startPc = a := congrArg (fun z => z.1) e5
  have g2 : x.endPc = b := congrArg (fun z => z.2.1) e5
  have g3 : x.handlerPc = hp := congrArg (fun z => z.2.2.1) e5
  have g4 : x.catchType = ct := congrArg (fun z => z.2.2.2) e5
  obtain ⟨c3, c4, hc3, hc4, hasg⟩ := Cond.castable_spec (hbad _ hcast)
  cases Option.some.inj (hc3.symm.trans hcl)
  have hx : covers x pc = true := by
    unfold covers
    rw [g1, g2]
    simp [hcov.1, hcov.2]
  obtain ⟨vm', Y', st⟩ := Y.thenCaughtThrough q (g := F0 m pc ls rest) rfl (Steps.refl _) (by rw [hT]; exact hce) (by rw [hcv]; rfl) (by obtain ⟨k9, h9, -⟩ := Vm.findClass_spec hcl; exact ⟨k9, h9⟩) P1 x S1 e1
    (fun z hz => by
      have hz2 : zw_row z ∈ pre := by rw [← e2]; exact List.mem_map.mpr ⟨z, hz, rfl⟩
      obtain ⟨k1, nm, k2, k3⟩ := hpass _ hz2
      exact RowPassed.of_words hpl X.1.2.2.2.1 k1 (z_w X k2) hcl (hbad _ k3))
    hx (Y.catches_of_link X.1.2.2.2.1 (by rw [g4]; exact h0) (by rw [g4]; exact z_w X hlink) hc4 hasg).1
  rw [g3] at st
  obtain ⟨t, a1, b1⟩ := kk (T.setVm vm') hT Y'
  exact ⟨t, st.trans a1, b1⟩
end ZW
end
section
section ZWC
variable {p : Program} {l : Launch} {e : Env} {R : Room} {s : State} {m : MethodId} {args : Array Value} {below : List Frame} {meth : Method} {c : Code} {H : Heap} {locs : List Loc} {cells slots : Nat} {Q : State → Prop}
variable {cc cy : ByteArray} {pc nL ny index n fr lo len : Nat} {ret ry : Option FieldType} {ls : Array Slot} {rest st0 : List Value} {Ts : List Cond} {own : String} {D : va_G} {dA : Nat → ClassId} {B b : Nat} {h h' : z_H} {y : MethodName} {As av : List Value} {r : Option Value} {hh : List (Nat × Nat × Nat × Nat)}
/-- what the tables say of a static method with handlers -/
def z_yW (y : MethodName) (cy : ByteArray) (ny : Nat) (ry : Option FieldType) (hh : List (Nat × Nat × Nat × Nat)) (n : Nat) : Prop :=
  Cond.static y ∈ zT ∧ Cond.initialized y.cls ∈ zT ∧ Cond.codeWith y cy ny ry hh ∈ zT ∧ y.cls ≠ "java/lang/invoke/MethodHandle" ∧ y.cls ≠ "java/lang/invoke/VarHandle" ∧ (parseMethodDescriptor y.desc).map (fun d => d.parameters.length) = some n
theorem zw_callS (X : z_X p s m args meth c cc nL ret Ts own D dA B) (hSt : z_St B s s.heap) (hI : z_I D dA B h s.heap H locs) (hM : zw_Met l y cy ny ry hh fr lo D dA B As h r h') (w1 : Cond.methodLink own index y ∈ zT) (w : z_yW y cy ny ry hh n) (hn : As.length = n) (hls : ls.size = nL) (hst : st0 = As.reverse ++ rest) (hro : (rest.map fun v => v.category).sum ≤ 8)
    (hR : fr + 1 ≤ R.frames ∧ 8 + (ny + 11) + lo ≤ R.locals) (hcs : cells + 1 ≤ R.cells ∧ slots + 6 ≤ R.slots) (hdg : decode cc pc = .ok (.invokestatic index, 3))
    (kk : ∀ (H1 : Heap) (locs1 : List Loc), z_I D dA B h' s.heap H1 locs1 → W p l e R s m args below meth c H1 locs1 (cells + 1) (slots + 6) Q (F0 m (pc + 3) ls (r.toList ++ rest))) : W p l e R s m args below meth c H locs cells slots Q (F0 m pc ls st0) := by
  obtain ⟨w2, w4, w5, w6, w7, w8⟩ := w
  intro T hT Y
  obtain ⟨mk, methM, cM, hnamed, hmethM, hcM, hbM, hlM, -, -, -, hsigM⟩ := Cond.codeWith_spec (z_w X w5)
  have hstatic : methM.isStatic = true := Cond.static_spec hnamed hmethM (z_w X w2)
  obtain ⟨kP, hkP, -⟩ := className_of_methodNamed hnamed
  have hinitP : kP.init = .initialized := Cond.initialized_spec (findClass_of_methodNamed hnamed) hkP (z_w X w4)
  have hlen : As.length = methM.sig.parameters.length := by
    rw [hsigM] at w8
    exact hn.trans (Option.some.inj w8).symm
  obtain ⟨vm₁, Y₁, hstep₁⟩ := Y.invokestatic (z_hx X) X.1.2.2.2.1 (z_w X w1) hnamed hmethM hstatic hkP hinitP ⟨w6, w7⟩ (g := F0 m pc ls st0) rfl (argsL := As) (rest := rest) hlen hst (by rw [z_hb X]; exact hdg)
  have hU : (T.setVm vm₁).heap = H := hT
  have hz : ∀ w ∈ zT, w.before As.toArray (T.setVm vm₁) = true := fun w hw => word_at Y₁.warmed (z_good hw) (z_w X hw)
  have hP1 : zx_P D dA B As h As.toArray (T.setVm vm₁) := ⟨z_pre X hI _ _ hU Y₁.warmed, hSt.to Y₁.warmed.alike (fun q hq => by rw [hU]; exact z_below X hI q hq)⟩
  have hn1 := Y₁.named hnamed
  obtain ⟨m9, methY, cY, hn9, hmY, hcY, -, hlY, -, -, -, -⟩ := Cond.codeWith_spec (hz _ w5)
  cases Option.some.inj (hn9.symm.trans hn1)
  obtain ⟨kY, hkY, -⟩ := className_of_methodNamed hn1
  have hini : kY.init = .initialized := Cond.initialized_spec (findClass_of_methodNamed hn1) hkY (hz _ w4)
  obtain ⟨g, hg⟩ : ∃ z, z = F0 m pc ls rest := ⟨_, rfl⟩
  have hgm : g.method = m := by rw [hg]
  have hat : At (T.setVm vm₁) g.method c below := by rw [hgm]; exact Y₁.here
  have hdg' : decode c.code g.pc = .ok (.invokestatic index, 3) := by rw [hg, z_hb X]; exact hdg
  have hpre : (headSpec (zw_ws y cy ny ry hh) (zx_rm fr lo)).pre.before As.toArray (T.setVm vm₁) = true := atoms_intro fun w hw => (List.mem_cons.mp hw).elim (fun e9 => by rw [e9]; exact hz _ w5) (hz w)
  have hro' : 2 * g.monitorRoom + (g.stack.map fun v => v.category).sum ≤ 8 := by rw [hg]; exact lv_room hro
  have happ : (headSpec (zw_ws y cy ny ry hh) (zx_rm fr lo)).appliesLoose y e.platform ((T.setVm vm₁).calling g mk As.toArray) = true :=
    Spec.appliesLoose_calling (g := g) hat hdg' hn1 hkY hini (Y₁.room_calling (g := g) (R' := (headSpec (zw_ws y cy ny ry hh) (zx_rm fr lo)).room) (by rw [hg]; exact hls.trans X.1.2.2.1.symm) hmY hcY hR.1 (by rw [hlY]; have h9 := hR.2; show _ + lo ≤ R.locals; omega) hcs.1 hcs.2) hpre
  have hPc : zx_P D dA B As h As.toArray ((T.setVm vm₁).calling g mk As.toArray) := ⟨z_G.blind _ _ g mk hP1.1, hP1.2⟩
  obtain ⟨mid, hmid⟩ := hat.above
  have hfr : ((T.setVm vm₁).setTop g).frames = (.java g :: mid) ++ below := by rw [State.frames_setTop' g hat.top, hmid]; rfl
  obtain ⟨o, s₂, hsteps, -, hend, hq⟩ := Steps.callFree hM p Y₁.admits Y₁.cas Y₁.clock (acts := []) hfr happ hPc trivial
  have hq' : zw_Q D dA B r h' As.toArray ((T.setVm vm₁).calling g mk As.toArray) o s₂ := hq
  obtain ⟨rfl, hG, hWm, hF, L, hsm, hL⟩ := hq'
  have hWm' : (T.setVm vm₁).WarmedH s₂.vm := hWm
  rw [State.frames_setTop' g hat.top] at hend
  obtain ⟨g₀, hg0⟩ := Option.isSome_iff_exists.mp hat.top
  obtain ⟨rr, hr⟩ := State.topJava?_eq_some.mp hg0
  have hr' : (zx_to (T.setVm vm₁) s₂).frames = .java g₀ :: rr := hr
  obtain ⟨Y', e3⟩ := zx_stand Y₁ hWm' hsm
  obtain ⟨c₂, i₂, len₂, hc₂, hd₂, hf₂⟩ := hend
  have hcc : c₂ = c := by
    have h1 : s₂.code? g.method = (T.setVm vm₁).code? g.method := by
      rw [State.code?_eq, State.code?_eq, hWm'.alike.method?]
    exact Option.some.inj (hc₂.symm.trans (h1.trans hat.code))
  subst hcc
  have hlen2 : len₂ = 3 := by rw [hdg'] at hd₂; cases hd₂; rfl
  subst hlen2
  have hs₂ : s₂ = (zx_to (T.setVm vm₁) s₂).setTop { g with pc := g.pc + 3, stack := r.toList ++ g.stack } := by
    refine e3.trans ?_
    rw [hf₂, State.calling_eq hat.top, State.setFrames_setFrames, State.setTop_of_frames _ hr', hr]
    rfl
  obtain ⟨t, a1, b1⟩ := kk _ _ (zx_in hU hI hG hF hL) _ rfl Y'
  refine ⟨t, hstep₁ _ fun acts => ?_, b1⟩
  rw [doInvoke_state]
  subst hg
  rw [hs₂] at hsteps
  exact hsteps.trans a1
end ZWC
def zw_k {α β : Type} (r : (α ⊕ String) × z_H) (k : α → z_H → Option β) (x : String → z_H → Option β) : Option β := match r.1 with
  | .inl v => k v r.2
  | .inr E => x E r.2
theorem zw_kl {α β : Type} {v : α} {h : z_H} {k : α → z_H → Option β} {x : String → z_H → Option β} {y : β} (e : zw_k (.inl v, h) k x = some y) : k v h = some y := e
theorem zw_kr {α β : Type} {E : String} {h : z_H} {k : α → z_H → Option β} {x : String → z_H → Option β} {y : β} (e : zw_k (.inr E, h) k x = some y) : x E h = some y := e
end
section
/-! making: the new cell's address is the heap's size -/
section ZA
variable {p : Program} {l : Launch} {e : Env} {R : Room} {s : State} {m : MethodId} {args : Array Value} {below : List Frame} {meth : Method} {c : Code} {H : Heap} {locs : List Loc} {cells slots : Nat} {Q : State → Prop}
variable {cc cy : ByteArray} {pc nL ny index n fr lo : Nat} {ret ry : Option FieldType} {ls : Array Slot} {rest st0 : List Value} {Ts : List Cond} {own : String} {D : va_G} {dA : Nat → ClassId} {B b a : Nat} {h h' : z_H} {y : MethodName} {As : List Value} {H0 : Heap}
theorem z_push {H1 : Heap} {x : z_E} (hI : z_I D dA B h H0 H locs) (hB : B ≤ H0.size) (hn : H.size = n) (hc : va_at D zcl (n, z_cv dA (some x)) H1) (hz : H1.size = n + 1) (ho : ∀ q, q < n → H1[q]? = H[q]?) : z_I D dA B (z_up h n x) H0 H1 locs := by
  subst hn
  obtain ⟨⟨L, hP, hD, hL⟩, hS1, hS2, hS3⟩ := hI
  have hfr : H.size ∉ L := va_pl_fresh (X := []) hP (Nat.le_refl _)
  have hw : z_wl dA L h ++ [(H.size, z_cv dA (some x))] = z_wl dA (L ++ [H.size]) (z_up h H.size x) := by
    refine (va_pl_push (f := fun a => z_cv dA (h a)) (e := z_cv dA (some x)) hfr).trans (va_pl_congr (fun q => ?_))
    unfold va_up z_up
    by_cases hq : q = H.size
    · simp [hq]
    · simp [hq]
  have hP1 : va_P D zcl (z_wl dA L h ++ [(H.size, z_cv dA (some x))]) H1 := (hP.kept (fun k q hk => ho q.1 ((hP k q hk).lt))).app (fun k q hk => by
    have hk1 : k < 1 := (List.getElem?_eq_some_iff.mp hk).1
    rw [show k = 0 by omega] at hk
    cases hk
    exact hc)
  have hD1 := hD.push (e := z_cv dA (some x)) hP rfl (Nat.le_trans hB hS1)
  rw [hw] at hP1 hD1
  refine ⟨⟨L ++ [H.size], hP1, hD1, fun q hq => ?_⟩, by omega, fun q hq hn => (ho q (Nat.lt_of_lt_of_le hq hS1)).trans (hS2 q hq hn), hS3⟩
  unfold z_up at hq
  by_cases h9 : q = H.size
  · rw [h9]; simp
  · rw [if_neg h9] at hq
    exact List.mem_append_left _ (hL q hq)
theorem z_new (X : z_X p s m args meth c cc nL ret Ts own D dA B) (hI : z_I D dA B h s.heap H locs) (hn : H.size = n) {ci N : Nat} {C : String} {T : u_T} {ty0 : Nat → FieldType} {fs : List Value} (hin : ∀ w ∈ u_ws C T N, w ∈ zT) (hty : ∀ k, k < N → parseFieldDescriptor (T k).2.2.1 = some (ty0 k)) (hc : zcl[ci]? = some (C, T, N)) (w1 : Cond.classLink own index C ∈ zT) (w2 : Cond.instantiable C N ∈ zT) (w3 : Cond.initialized C ∈ zT) (hfs : ∀ j, j < N → defaultValue (ty0 j) = vp_V fs j)
    (hcs : cells + 1 ≤ R.cells ∧ slots + N ≤ R.slots) (hdg : decode cc pc = .ok (.new index, 3))
    (kk : ∀ H1 : Heap, z_I D dA B (z_up h n (.inr (ci, fs))) s.heap H1 locs → H1.size = n + 1 → W p l e R s m args below meth c H1 locs (cells + 1) (slots + N) Q (F0 m (pc + 3) ls (.ref n :: rest))) : W p l e R s m args below meth c H locs cells slots Q (F0 m pc ls rest) := by
  have hKn := X.2.2.1.1 ci _ hc
  refine W.newcK (z_hx X) (z_hb X) X.1.2.2.2.1 (z_w X w1) (z_w X w2) (z_w X w3) rfl hdg hcs.1 hcs.2 hKn.2.1 hn fun H1 kC hkC e1 z1 o1 => ?_
  exact kk H1 (z_push hI X.2.2.2.1 hn ⟨_, hc, (u_born ty0 (fun w hw => z_w X hw) hin hKn hkC e1 hty).to hfs⟩ z1 o1) z1
theorem z_newa (X : z_X p s m args meth c cc nL ret Ts own D dA B) (hI : z_I D dA B h s.heap H locs) (hn : H.size = n) {at9 : ArrayType} {t N : Nat} {ty : FieldType} {a0 : vp_A} {k : Int32} (hty : newarray.typeOf at9 = ty) (ht : (z_ty dA)[t]? = some (dA t, ty)) (hob : ∀ C, ty ≠ .object C) (w1 : Cond.arrayClass ty ∈ zT) (ha : ∀ cA : ClassId, vp_cell cA a0 = arrV cA N (fun _ => defaultValue ty)) (hk : ¬ k < 0) (hN : k.toNatClampNeg = N) (hby : N * componentBytes ty ≤ 536870912)
    (hcs : cells + 1 ≤ R.cells ∧ slots + N ≤ R.slots) (hdg : decode cc pc = .ok (.newarray at9, 2))
    (kk : ∀ H1 : Heap, z_I D dA B (z_up h n (.inl (t, a0))) s.heap H1 locs → H1.size = n + 1 → W p l e R s m args below meth c H1 locs (cells + 1) (slots + N) Q (F0 m (pc + 2) ls (.ref n :: rest))) : W p l e R s m args below meth c H locs cells slots Q (F0 m pc ls (.int k :: rest)) := by
  subst hty
  refine va_newaK (z_hx X) (z_hb X) (z_w X w1) rfl hdg rfl hk hN hby hcs.1 hcs.2 hn fun H1 cA e1 z1 o1 hAr hNm => ?_
  have hra : s.vm.findClass ("[" ++ (newarray.typeOf at9).toString) = some (dA t) := by
    have h9 := (X.2.2.1.2 t _ ht).2
    unfold va_RA at h9
    split at h9
    · next C hC => exact absurd hC (hob C)
    · exact h9
  have hcA : cA = dA t := Option.some.inj (hNm.symm.trans hra)
  subst hcA
  exact kk H1 (z_push hI X.2.2.2.1 hn (show H1[n]? = some (vp_cell (dA t) a0) by rw [ha]; exact e1) z1 o1) z1
end ZA
end
section
set_option maxRecDepth 100000 in
theorem wl_Law_13 : Cond.classLink "StreamForgeLaw" 13 xE1 ∈ zT := z_m 587 rfl rfl
set_option maxRecDepth 100000 in
theorem wl_Law_15 : Cond.classLink "StreamForgeLaw" 15 xE2 ∈ zT := z_m 588 rfl rfl
set_option maxRecDepth 100000 in
theorem wl_Law_35 : Cond.classLink "StreamForgeLaw" 35 xE3 ∈ zT := z_m 930 rfl rfl
set_option maxRecDepth 100000 in
theorem wl_Law_37 : Cond.classLink "StreamForgeLaw" 37 xE4 ∈ zT := z_m 931 rfl rfl
set_option maxRecDepth 100000 in
theorem yi_Law_script : z_yW y_Law_script method_3_code 5 (some .int) [(0, 9, 12, 13), (0, 9, 16, 15)] 3 := ⟨z_m 585 rfl rfl, z_m 119 rfl rfl, z_m 586 rfl rfl, nc1_Law, nc2_Law, by decide +kernel⟩
set_option maxRecDepth 100000 in
theorem yi_Law_clear : z_yW y_Law_clear method_4_code 4 (some .int) [(0, 9, 12, 13)] 3 := ⟨z_m 693 rfl rfl, z_m 119 rfl rfl, z_m 694 rfl rfl, nc1_Law, nc2_Law, by decide +kernel⟩
set_option maxRecDepth 100000 in
theorem yi_Law_parse : z_yW y_Law_parse method_5_code 3 (some .int) [(0, 8, 11, 13)] 2 := ⟨z_m 704 rfl rfl, z_m 119 rfl rfl, z_m 705 rfl rfl, nc1_Law, nc2_Law, by decide +kernel⟩
set_option maxRecDepth 100000 in
theorem yi_Law_line : z_yW y_Law_line method_6_code 7 (some .int) [(0, 11, 14, 13), (0, 11, 18, 15)] 4 := ⟨z_m 914 rfl rfl, z_m 119 rfl rfl, z_m 915 rfl rfl, nc1_Law, nc2_Law, by decide +kernel⟩
set_option maxRecDepth 100000 in
theorem yi_Law_more : z_yW y_Law_more method_7_code 5 (some .int) [(0, 9, 12, 13), (0, 9, 16, 15)] 3 := ⟨z_m 921 rfl rfl, z_m 119 rfl rfl, z_m 922 rfl rfl, nc1_Law, nc2_Law, by decide +kernel⟩
set_option maxRecDepth 100000 in
theorem yi_Law_run : z_yW y_Law_run method_8_code 3 (some .int) [(0, 8, 11, 15), (0, 8, 14, 35), (0, 8, 17, 37)] 2 := ⟨z_m 928 rfl rfl, z_m 119 rfl rfl, z_m 929 rfl rfl, nc1_Law, nc2_Law, by decide +kernel⟩
set_option maxRecDepth 100000 in
theorem yi_Law_out : z_yW y_Law_out method_9_code 4 (some .int) [(0, 9, 12, 35)] 3 := ⟨z_m 1136 rfl rfl, z_m 119 rfl rfl, z_m 1137 rfl rfl, nc1_Law, nc2_Law, by decide +kernel⟩
set_option maxRecDepth 100000 in
theorem yi_Law_ran : z_yW y_Law_ran method_10_code 4 (some .int) [(0, 9, 12, 13)] 3 := ⟨z_m 1146 rfl rfl, z_m 119 rfl rfl, z_m 1147 rfl rfl, nc1_Law, nc2_Law, by decide +kernel⟩
set_option maxRecDepth 100000 in
theorem yi_Law_match : z_yW y_Law_match method_11_code 6 (some .int) [(0, 12, 15, 13), (0, 12, 19, 35), (0, 12, 23, 15)] 5 := ⟨z_m 1153 rfl rfl, z_m 119 rfl rfl, z_m 1154 rfl rfl, nc1_Law, nc2_Law, by decide +kernel⟩
set_option maxRecDepth 100000 in
theorem yi_Law_count : z_yW y_Law_count method_12_code 4 (some .int) [(0, 9, 12, 13)] 3 := ⟨z_m 1165 rfl rfl, z_m 119 rfl rfl, z_m 1166 rfl rfl, nc1_Law, nc2_Law, by decide +kernel⟩
set_option maxRecDepth 100000 in
theorem wl_SF_61 : Cond.classLink "StreamForge" 61 xE1 ∈ zT := z_m 599 rfl rfl
set_option maxRecDepth 100000 in
theorem at_SF_63 : ∀ w ∈ Bundle.ownAtoms0 "StreamForge" 63 xE1 z_nm, w ∈ zT ∨ w ∈ z_bad := z_msb [133, 621, 630, 635, 638, 640, 622, 623, 147, 148, 624, 629, 636, 652, 611, 653, 613, 654, 615, 625, 5002, 627, 5003, 617, 642, 643, 644, 645, 5004, 645, 646, 647, 648, 5005, 648, 649, 650, 622, 5006, 641, 600, 5007, 608, 609, 610, 612, 614, 616, 5000, 5001, 651, 619, 618] rfl rfl
set_option maxRecDepth 100000 in
theorem wl_SF_72 : Cond.classLink "StreamForge" 72 xE2 ∈ zT := z_m 670 rfl rfl
set_option maxRecDepth 100000 in
theorem at_SF_74 : ∀ w ∈ Bundle.ownAtoms0 "StreamForge" 74 xE2 z_nm, w ∈ zT ∨ w ∈ z_bad := z_msb [133, 621, 630, 635, 638, 640, 622, 623, 147, 148, 624, 629, 636, 652, 611, 653, 613, 654, 615, 625, 5002, 627, 5003, 617, 680, 681, 682, 645, 5004, 645, 646, 647, 648, 5005, 648, 649, 650, 622, 5006, 679, 671, 5008, 673, 633, 674, 675, 676, 677, 5000, 5001, 651, 619, 678] rfl rfl
set_option maxRecDepth 100000 in
theorem wl_SF_113 : Cond.classLink "StreamForge" 113 xE3 ∈ zT := z_m 1143 rfl rfl
set_option maxRecDepth 100000 in
theorem at_SF_115 : ∀ w ∈ Bundle.ownAtoms0 "StreamForge" 115 xE3 z_nm, w ∈ zT ∨ w ∈ z_bad := z_msb [133, 621, 630, 635, 638, 640, 622, 623, 147, 148, 624, 629, 636, 652, 611, 653, 613, 654, 615, 625, 5002, 627, 5003, 617, 977, 978, 979, 645, 5004, 645, 646, 647, 648, 5005, 648, 649, 650, 622, 5006, 1144, 968, 5009, 970, 634, 971, 972, 973, 974, 5000, 5001, 651, 619, 975] rfl rfl
set_option maxRecDepth 100000 in
theorem wl_Ed_73 : Cond.classLink "StreamForge$Editor" 73 xE4 ∈ zT := z_m 987 rfl rfl
set_option maxRecDepth 100000 in
theorem at_Ed_75 : ∀ w ∈ Bundle.ownAtoms0 "StreamForge$Editor" 75 xE4 z_nm, w ∈ zT ∨ w ∈ z_bad := z_msb [133, 621, 630, 635, 638, 640, 622, 623, 147, 148, 624, 629, 636, 652, 611, 653, 613, 654, 615, 625, 5002, 627, 5003, 617, 997, 998, 999, 645, 5004, 645, 646, 647, 648, 5005, 648, 649, 650, 622, 5006, 996, 988, 5010, 990, 632, 991, 992, 993, 994, 5000, 5001, 651, 619, 995] rfl rfl
set_option maxRecDepth 100000 in
theorem wl_Ed_140 : Cond.classLink "StreamForge$Editor" 140 xE3 ∈ zT := z_m 967 rfl rfl
set_option maxRecDepth 100000 in
theorem at_Ed_142 : ∀ w ∈ Bundle.ownAtoms0 "StreamForge$Editor" 142 xE3 z_nm, w ∈ zT ∨ w ∈ z_bad := z_msb [133, 621, 630, 635, 638, 640, 622, 623, 147, 148, 624, 629, 636, 652, 611, 653, 613, 654, 615, 625, 5002, 627, 5003, 617, 977, 978, 979, 645, 5004, 645, 646, 647, 648, 5005, 648, 649, 650, 622, 5006, 976, 968, 5009, 970, 634, 971, 972, 973, 974, 5000, 5001, 651, 619, 975] rfl rfl
set_option maxRecDepth 100000 in
theorem wi_x1 : Cond.initialized xE1 ∈ zT := z_m 136 rfl rfl
set_option maxRecDepth 100000 in
theorem wi_x2 : Cond.initialized xE2 ∈ zT := z_m 137 rfl rfl
set_option maxRecDepth 100000 in
theorem wi_x3 : Cond.initialized xE3 ∈ zT := z_m 138 rfl rfl
set_option maxRecDepth 100000 in
theorem wi_x4 : Cond.initialized xE4 ∈ zT := z_m 139 rfl rfl
end
section
def z_nest : List (String × Nat × MethodName × String) := [("StreamForge", 24, ⟨"StreamForge$Parser", "<init>", "()V"⟩, "StreamForge"), ("StreamForge$Parser", 11, ⟨"StreamForge$Cursor", "<init>", "()V"⟩, "StreamForge"), ("StreamForge", 31, ⟨"StreamForge$Editor", "<init>", "()V"⟩, "StreamForge"), ("StreamForge$Editor", 31, ⟨"StreamForge$Matcher", "<init>", "()V"⟩, "StreamForge"), ("StreamForge", 38, ⟨"StreamForge$Matcher", "<init>", "()V"⟩, "StreamForge"), ("StreamForge$Program", 22, ⟨"StreamForge$Items", "<init>", "()V"⟩, "StreamForge"), ("StreamForge$Program", 33, ⟨"StreamForge$Command", "<init>", "()V"⟩, "StreamForge"), ("StreamForge$Command", 11, ⟨"StreamForge$Address", "<init>", "()V"⟩, "StreamForge"), ("StreamForge$Address", 9, ⟨"StreamForge$Pattern", "<init>", "()V"⟩, "StreamForge"), ("StreamForge$Command", 23, ⟨"StreamForge$Pattern", "<init>", "()V"⟩, "StreamForge")]
end
section
/-! constructors: from a heap of n cells to one of n + mc -/
def zn_F (U : State) : Prop := (∀ q ∈ z_nest, va_Nw (.methodLinkNest q.1 q.2.1 q.2.2.1 q.2.2.2) U) ∧ va_AO "StreamForge$Row" U ∧ va_AO "StreamForge$Command" U
theorem zn_F.warm {s U : State} (hW : s.WarmedH U.vm) (h : zn_F s) : zn_F U := ⟨fun q hq => va_Nw.warmM hW (h.1 q hq), va_AO.moved hW.alike h.2.1, va_AO.moved hW.alike h.2.2⟩
def zn_P (D : va_G) (dA : Nat → ClassId) (B : Nat) (av : List Value) (h : z_H) (n : Nat) : Array Value → State → Prop := fun v U => z_P D dA B av h v U ∧ U.heap.size = n ∧ zn_F U
def zn_Q (D : va_G) (dA : Nat → ClassId) (B : Nat) (h' : z_H) (n' : Nat) : Array Value → State → Outcome → State → Prop := fun _ st oc t => oc = .returned none ∧ z_G D dA B h' t ∧ va_F (fun q => B ≤ q) st t ∧ t.heap.size = n'
abbrev zn_rm (fr lo mc ms : Nat) : Room := { frames := fr, cells := mc, slots := ms, locals := lo }
def zn_Met (l : Launch) (y : MethodName) (cc : ByteArray) (nL : Nat) (fr lo mc ms : Nat) (D : va_G) (dA : Nat → ClassId) (B : Nat) (av : List Value) (h : z_H) (n : Nat) (h' : z_H) : Prop :=
  Met l y (z_ws y cc nL none) (zn_rm fr lo mc ms) (zn_P D dA B av h n) (zn_Q D dA B h' (n + mc)) mc ms (fun q => B ≤ q)
theorem zn_blind {D : va_G} {dA : Nat → ClassId} {B n : Nat} {av : List Value} {h : z_H} : FrameBlind (zn_P D dA B av h n) := by
  intro a U g mk hq
  exact ⟨z_G.blind a U g mk hq.1, hq.2.1, fun q hq9 => va_Nw.same (u := U) rfl rfl (hq.2.2.1 q hq9), va_AO.moved (u := U) (Vm.Alike.refl U.vm) hq.2.2.2.1, va_AO.moved (u := U) (Vm.Alike.refl U.vm) hq.2.2.2.2⟩
section ZN
variable {p : Program} {l : Launch} {e : Env} {R : Room} {s : State} {m : MethodId} {args : Array Value} {below : List Frame} {meth : Method} {c : Code} {H : Heap} {locs : List Loc} {cells slots : Nat} {Q : State → Prop}
variable {cc cy : ByteArray} {pc nL ny index n k fr lo mc ms : Nat} {ret ry : Option FieldType} {ls : Array Slot} {rest st0 : List Value} {Ts : List Cond} {own host : String} {D : va_G} {dA : Nat → ClassId} {B b a : Nat} {h h' : z_H} {y : MethodName} {As av : List Value}
theorem zn_of (hy : plainName y.cls = true) (hlen : (lg_sl av).length ≤ ny)
    (body : ∀ (p : Program) (e : Env) (s : State) (m : MethodId) (below : List Frame) (meth : Method) (c : Code) (ls : Array Slot), z_X p s m av.toArray meth c cy ny none (z_ws y cy ny none) y.cls D dA B → meth.name = y.name → zn_F s → s.heap.size = n → z_I D dA B h s.heap s.heap [] → lv_has ls ny (lv_args 0 av) →
      W p l e (zn_rm fr lo mc ms) s m av.toArray below meth c s.heap [] 0 0 (MQ below (zn_Q D dA B h' (n + mc)) av.toArray s mc ms (fun q => B ≤ q)) (F0 m 0 ls [])) : zn_Met l y cy ny fr lo mc ms D dA B av h n h' := by
  refine Met.ofW (cc := cy) (maxL := ny) (ret := none) hy rfl ?_
  intro p e s m args below meth c s₁ Bd hml hv
  obtain ⟨⟨rfl, hV, hK, hB⟩, hn, hF⟩ := hv
  have hl := lv_entry av (n := ny) hlen
  rw [lg_entry_eq]
  exact body p e s m below meth c _ ⟨⟨Bd.exec, Bd.bytes, hml, findClass_of_methodNamed Bd.named, atoms_spec (ws := z_ws y cy ny none) Bd.pre⟩, fun w hw => List.mem_cons_of_mem _ hw, hK, hB, Bd.notSynchronized, Bd.returns⟩ (name_of_methodNamed Bd.named Bd.method).1 hF hn ⟨hV, va_S.rf⟩ hl
theorem zn_vret (X : z_X p s m args meth c cc nL none Ts own D dA B) (hI : z_I D dA B h s.heap H locs) (hn : H.size = k) (hdg : decode cc pc = .ok (.return_, 1)) : W p l e R s m args below meth c H locs cells slots (MQ below (zn_Q D dA B h k) args s cells slots (fun q => B ≤ q)) (F0 m pc ls []) :=
  W.vret (z_hx X) (z_hb X) X.2.2.2.2.2 (fun t ht hW => by
    obtain ⟨q1, q2, q3⟩ := z_end (r := none) X hI t ht hW
    exact ⟨q1, q2, q3, by rw [ht]; exact hn⟩) hI.2.2.2 hdg X.2.2.2.2.1
/-- a final field, in the constructor of its class -/
theorem zn_putF (X : z_X p s m args meth c cc nL ret Ts own D dA B) (hname : meth.name = "<init>") (hI : z_I D dA B h s.heap H locs) {ci k N index : Nat} {C : String} {T : u_T} {ty0 : Nat → FieldType} {v : Value} {h1 : z_H} (hv : sF h a ci k v = some h1) (hin : ∀ w ∈ u_ws C T N, w ∈ zT) (hty : ∀ k, k < N → parseFieldDescriptor (T k).2.2.1 = some (ty0 k)) (hnm : ∀ a, a < N → ∀ b, b < N → a ≠ b → (T a).2.1 ≠ (T b).2.1) (hc : zcl[ci]? = some (C, T, N)) (hk : k < N) (hl : Cond.fieldLink own index (T k).1 (T k).2.1 (T k).2.2.1 ∈ zT) (hfin : (T k).2.2.2 = true) (hdecl : (T k).1 = own) (hn : narrow (ty0 k) v = v) (hfit : fits (ty0 k) v = true) (hdg : decode cc pc = .ok (.putfield index, 3))
    (kk : ∀ (H1 : Heap) (locs1 : List Loc), z_I D dA B h1 s.heap H1 locs1 → W p l e R s m args below meth c H1 locs1 cells slots Q (F0 m (pc + 3) ls rest)) : W p l e R s m args below meth c H locs cells slots Q (F0 m pc ls (v :: .ref a :: rest)) := by
  obtain ⟨fs, he, hkl, rfl⟩ := sF_s hv
  obtain ⟨ws, q0, hP, hD, hS, hq, hu⟩ := hI.rd he
  exact va_putF (z_hx X) (z_hb X) (Ts := Ts) X.1.2.2.2.2 (fun w hw => X.2.1 w (hin w hw)) ty0 hty hnm X.1.2.2.2.1 X.2.2.1 hP hD hS q0 hq hc k hk (z_w X hl) (fun _ h9 => h9) hfin hname hdecl (hty k hk) hn hfit hkl hdg (fun H1 l1 p1 d1 s1 => kk H1 l1 (hu (.inr (ci, fs.set k v)) H1 l1 p1 d1 s1))
/-- the heap's size, out of the room that was used and the last cell that was made -/
theorem z_size {g : JFrame} (hI : z_I D dA B h s.heap H locs) (hn : n = s.heap.size + cells) (hlast : n = s.heap.size ∨ (h (n - 1)).isSome = true) (kk : H.size = n → W p l e R s m args below meth c H locs cells slots Q g) : W p l e R s m args below meth c H locs cells slots Q g := by
  intro T hT Y
  have h1 := Y.heapSize
  rw [hT] at h1
  have h2 := hI.2.1
  refine kk ?_ T hT Y
  rcases hlast with h3 | h3
  · omega
  · obtain ⟨x, hx⟩ := Option.isSome_iff_exists.mp h3
    obtain ⟨ws, q0, hP, -, -, hq, -⟩ := hI.rd hx
    have h4 : n - 1 < H.size := (hP q0 _ hq).lt
    omega
theorem z_anew (X : z_X p s m args meth c cc nL ret Ts own D dA B) (hI : z_I D dA B h s.heap H locs) (hn : H.size = n) {t N : Nat} {C : String} {v : Int32} (ht : (z_ty dA)[t]? = some (dA t, .object C)) (w1 : Cond.classLink own index C ∈ zT) (hAO : va_AO C s) (hk : ¬ v < 0) (hN : v.toNatClampNeg = N) (hby : N * 4 ≤ 536870912)
    (hcs : cells + 1 ≤ R.cells ∧ slots + N ≤ R.slots) (hdg : decode cc pc = .ok (.anewarray index, 3))
    (kk : ∀ H1 : Heap, z_I D dA B (z_up h n (.inl (t, N, .inr (.inr (.inr (.inr (fun _ => none))))))) s.heap H1 locs → H1.size = n + 1 → W p l e R s m args below meth c H1 locs (cells + 1) (slots + N) Q (F0 m (pc + 3) ls (.ref n :: rest))) : W p l e R s m args below meth c H locs cells slots Q (F0 m pc ls (.int v :: rest)) := by
  subst hN
  refine W.anew (z_hx X) (z_hb X) X.1.2.2.2.1 (z_w X w1) (va_AO.use hAO) rfl hdg rfl hk hby hcs.1 hcs.2 fun cA kA comp f1 f2 f3 f4 => ?_
  have hra := (X.2.2.1.2 t _ ht).2
  obtain ⟨kB, comp2, b1, b2, b3, b4⟩ : ∃ (kA : Class) (comp : ClassId), s.vm.classes[dA t]? = some kA ∧ kA.kind = .array comp (.object C) ∧ s.vm.findClass C = some comp ∧ s.vm.findClass ("[" ++ (FieldType.object C).toString) = some (dA t) := hra
  have hcA : cA = dA t := Option.some.inj (f1.symm.trans b4)
  subst hcA
  generalize hH1 : H.push ({ cls := dA t, slots := Array.replicate v.toNatClampNeg .null, vm := .none } : Cell) = H1
  subst hn
  have z1 : H1.size = H.size + 1 := by rw [← hH1, Array.size_push]
  have e1 : H1[H.size]? = some (arrV (dA t) v.toNatClampNeg (fun _ => .null)) := by rw [← hH1, Array.getElem?_push_size, ← arrV_new]
  have o1 : ∀ q : Nat, q < H.size → H1[q]? = H[q]? := fun q hq => by rw [← hH1, Array.getElem?_push, if_neg (Nat.ne_of_lt hq)]
  exact kk H1 (z_push hI X.2.2.2.1 rfl (show H1[H.size]? = some (vp_cell (dA t) _) from e1) z1 o1) z1
end ZN
end
section
def uR (h : z_H) (a t : Nat) (i : Int32) (v ci : Nat) : Option z_H := match h a, h v with
  | some (.inl (t', n, .inr (.inr (.inr (.inr f))))), some (.inr o) => if t' = t ∧ o.1 = ci ∧ ¬ (i < 0 ∨ n ≤ i.toNatClampNeg) then some (z_up h a (.inl (t, n, .inr (.inr (.inr (.inr (va_up f i.toNatClampNeg (some v)))))))) else none
  | _, _ => none
theorem uR_s {h h' : z_H} {a t v ci : Nat} {i : Int32} (e : uR h a t i v ci = some h') : ∃ n f fs, h a = some (.inl (t, n, .inr (.inr (.inr (.inr f))))) ∧ h v = some (.inr (ci, fs)) ∧ vp_in i n ∧ h' = z_up h a (.inl (t, n, .inr (.inr (.inr (.inr (va_up f i.toNatClampNeg (some v))))))) := by
  unfold uR at e
  split at e
  · next t' n f o h1 h2 =>
    split at e
    · next q =>
      cases e
      exact ⟨n, f, o.2, by rw [h1, q.1], by rw [h2, ← q.2.1], q.2.2, rfl⟩
    · cases e
  · cases e
section ZI
variable {p : Program} {l : Launch} {e : Env} {R : Room} {s : State} {m : MethodId} {args : Array Value} {below : List Frame} {meth : Method} {c : Code} {H : Heap} {locs : List Loc} {cells slots : Nat} {Q : State → Prop}
variable {cc cy : ByteArray} {pc nL ny index n k fr lo mc ms : Nat} {ret ry : Option FieldType} {ls : Array Slot} {rest st0 : List Value} {Ts : List Cond} {own host : String} {D : va_G} {dA : Nat → ClassId} {B b a : Nat} {h h' : z_H} {y : MethodName} {As av : List Value}
theorem z_aast (X : z_X p s m args meth c cc nL ret Ts own D dA B) (hI : z_I D dA B h s.heap H locs) {t ci v : Nat} {r : vw_C} {i : Int32} {h1 : z_H} (hv : uR h a t i v ci = some h1) (ht : (z_ty dA)[t]? = some (dA t, .object r.1)) (hc : zcl[ci]? = some r) (hdg : decode cc pc = .ok (.aastore, 1))
    (kk : ∀ (H1 : Heap) (locs1 : List Loc), z_I D dA B h1 s.heap H1 locs1 → W p l e R s m args below meth c H1 locs1 cells slots Q (F0 m (pc + 1) ls rest)) : W p l e R s m args below meth c H locs cells slots Q (F0 m pc ls (.ref v :: .int i :: .ref a :: rest)) := by
  obtain ⟨N, f, fs, he, hev, hin, rfl⟩ := uR_s hv
  obtain ⟨⟨L, hP, hD, hL⟩, hS⟩ := hI
  have hav : v ∈ L := hL v (by rw [hev]; rfl)
  obtain ⟨qk, hqk⟩ := va_pl_get (X := []) (f := fun a => z_cv dA (h a)) hav
  have ha : a ∈ L := hL a (by rw [he]; rfl)
  obtain ⟨q0, hq0⟩ := va_pl_get (X := []) (f := fun a => z_cv dA (h a)) ha
  have e1 : (z_wl dA L h)[q0]? = some (a, .inl (dA t, N, .inr (.inr (.inr (.inr f))))) := (show (z_wl dA L h)[q0]? = some (a, z_cv dA (h a)) from hq0).trans (by rw [he]; rfl)
  have e2 : (z_wl dA L h)[qk]? = some (v, .inr (ci, fs)) := (show (z_wl dA L h)[qk]? = some (v, z_cv dA (h v)) from hqk).trans (by rw [hev]; rfl)
  refine va_astq (z_hx X) (z_hb X) X.2.2.1 hP hD hS q0 t qk ci e1 ht e2 hc hin hdg (fun H1 l1 p1 d1 s1 => ?_)
  refine kk H1 l1 ⟨?_, s1⟩
  have hs := va_pl_set (A := fun q => B ≤ q) (X := []) (f := fun a => z_cv dA (h a)) (e := z_cv dA (some (.inl (t, N, .inr (.inr (.inr (.inr (va_up f i.toNatClampNeg (some v))))))))) hD ha hq0
  have hs2 : (z_wl dA L h).set q0 (a, .inl (dA t, N, .inr (.inr (.inr (.inr (va_up f i.toNatClampNeg (some v))))))) = z_wl dA L (z_up h a (.inl (t, N, .inr (.inr (.inr (.inr (va_up f i.toNatClampNeg (some v)))))))) := by
    refine (show (z_wl dA L h).set q0 _ = va_pl L (va_up (fun a => z_cv dA (h a)) a _) from hs).trans (va_pl_congr (fun q => ?_))
    unfold va_up z_up
    by_cases hq : q = a
    · simp [hq]
    · simp [hq]
  rw [hs2] at p1 d1
  refine ⟨L, p1, d1, fun q hq => ?_⟩
  by_cases h9 : q = a
  · rw [h9]; exact ha
  · unfold z_up at hq
    rw [if_neg h9] at hq
    exact hL q hq
theorem zn_run {a : Array Value} (hI : z_I D dA B h s.heap H locs) (hr : va_Run p l e R s m args below meth c H locs cells slots mc ms (F0 m pc ls st0) rest (zn_Q D dA B h' k a) (fun q => B ≤ q))
    (kk : ∀ (H1 : Heap) (locs1 : List Loc), z_I D dA B h' s.heap H1 locs1 → H1.size = k → W p l e R s m args below meth c H1 locs1 (cells + mc) (slots + ms) Q (F0 m (pc + 3) ls rest)) : W p l e R s m args below meth c H locs cells slots Q (F0 m pc ls st0) := by
  intro T hT Y
  obtain ⟨v, st₀, t, T', L, h0, Y', hL, e1, e2, ⟨hv, hG, ⟨hz, hk⟩, hsz⟩, st⟩ := hr T hT Y
  cases hv
  rw [h0] at hz hk
  obtain ⟨hV, hS1, hS2, hS3⟩ := hI
  obtain ⟨t2, a1, b1⟩ := kk T'.heap (locs ++ L) ⟨by rw [e1]; exact hG.1, Nat.le_trans hS1 (by rw [e1]; exact hz), fun q hq hn => by
    rw [e1, hk q (Nat.lt_of_lt_of_le hq hS1) hn]; exact hS2 q hq hn, fun x hx => by
    rcases List.mem_append.mp hx with h9 | h9
    · exact hS3 x h9
    · exact hL x h9⟩ (by rw [e1]; exact hsz) T' rfl Y'
  exact ⟨t2, st t2 a1, b1⟩
theorem zn_pre (X : z_X p s m args meth c cc nL ret Ts own D dA B) (hF : zn_F s) (hI : z_I D dA B h s.heap H locs) (hn : H.size = n) (av : List Value) : ∀ U : State, U.heap = H → s.WarmedH U.vm → zn_P D dA B av h n av.toArray U := fun U hU hW => ⟨z_pre X hI av U hU hW, by rw [hU]; exact hn, hF.warm hW⟩
def z_yI (y : MethodName) (cy : ByteArray) (ny : Nat) (j : Nat) : Prop :=
  Cond.instanceMethod y ∈ zT ∧ Cond.initialized y.cls ∈ zT ∧ Cond.code y cy ny none ∈ zT ∧ y.name = "<init>" ∧ y.cls ≠ "java/lang/invoke/MethodHandle" ∧ y.cls ≠ "java/lang/invoke/VarHandle" ∧ (parseMethodDescriptor y.desc).map (fun d => d.parameters.length) = some j
theorem zn_callI {j : Nat} (X : z_X p s m args meth c cc nL ret Ts own D dA B) (hF : zn_F s) (hI : z_I D dA B h s.heap H locs) (hn : H.size = n) (hM : zn_Met l y cy ny fr lo mc ms D dA B (.ref b :: As) h n h') (w1 : Cond.methodLink own index y ∈ zT) (w : z_yI y cy ny j) (hj : As.length = j) (hls : ls.size = nL) (hst : st0 = As.reverse ++ .ref b :: rest) (hro : (rest.map fun v => v.category).sum ≤ 8)
    (hR : fr + 1 ≤ R.frames ∧ 8 + (ny + 11) + lo ≤ R.locals) (hcs : cells + mc ≤ R.cells ∧ slots + ms ≤ R.slots) (hdg : decode cc pc = .ok (.invokespecial index, 3))
    (kk : ∀ (H1 : Heap) (locs1 : List Loc), z_I D dA B h' s.heap H1 locs1 → H1.size = n + mc → W p l e R s m args below meth c H1 locs1 (cells + mc) (slots + ms) Q (F0 m (pc + 3) ls rest)) : W p l e R s m args below meth c H locs cells slots Q (F0 m pc ls st0) := by
  obtain ⟨w2, w4, w5, w6, w7, w8, w9⟩ := w
  exact zn_run hI (va_runI (As := As) (rest := rest) X.1 hM (cwI j X.1.2.2.2.2 (z_good2 X (z_all w5)) rfl rfl rfl (z_w X w4) (z_w X w1) (z_w X w2) w6 ⟨w7, w8, w9⟩ hR) ⟨zn_blind, zn_pre X hF hI hn _⟩ rfl hj hls hst (lv_room hro) hdg hcs) kk
theorem zn_callN {j : Nat} (X : z_X p s m args meth c cc nL ret Ts own D dA B) (hF : zn_F s) (hI : z_I D dA B h s.heap H locs) (hn : H.size = n) (hM : zn_Met l y cy ny fr lo mc ms D dA B (.ref b :: As) h n h') (w1 : (own, index, y, host) ∈ z_nest) (w : z_yI y cy ny j) (hj : As.length = j) (hls : ls.size = nL) (hst : st0 = As.reverse ++ .ref b :: rest) (hro : (rest.map fun v => v.category).sum ≤ 8)
    (hR : fr + 1 ≤ R.frames ∧ 8 + (ny + 11) + lo ≤ R.locals) (hcs : cells + mc ≤ R.cells ∧ slots + ms ≤ R.slots) (hdg : decode cc pc = .ok (.invokespecial index, 3))
    (kk : ∀ (H1 : Heap) (locs1 : List Loc), z_I D dA B h' s.heap H1 locs1 → H1.size = n + mc → W p l e R s m args below meth c H1 locs1 (cells + mc) (slots + ms) Q (F0 m (pc + 3) ls rest)) : W p l e R s m args below meth c H locs cells slots Q (F0 m pc ls st0) := by
  obtain ⟨w2, w4, w5, w6, w7, w8, w9⟩ := w
  exact zn_run hI (va_runIN (As := As) (rest := rest) X.1 hM ⟨va_cnB j X.1.2.2.2.2 (z_good2 X (z_all w5)) rfl rfl rfl (hF.1 _ w1) (z_w X w4) ⟨w7, w8, w9⟩ hR, w6, z_w X w2⟩ ⟨zn_blind, zn_pre X hF hI hn _⟩ rfl hj hls hst (lv_room hro) hdg hcs) kk
end ZI
end
section
/-! the law's entry: the words that are carried -/
theorem z_isRef {C n d : String} {A : Nat → Prop} {s : State} {args : Array Value} (h : va_Zq C n d A s s.heap) : (Cond.isRef (.static C n d)).before args s = true := by
  have key : ∀ v : Value, va_Z C n d v A s s.heap → (v = .null ∨ ∃ t, v = .ref t) → (Cond.isRef (.static C n d)).before args s = true := by
    intro v hv hr
    obtain ⟨cf, kf, fi, f, a, cell, h1, h2, h3, h4, h5, h6, h7, -⟩ := hv
    have he : (Term.static C n d).eval args s none [] s = some v := by
      simp [Term.eval, State.fieldNamed?, h1, h2, h4, h5, h6, h7]
    simp only [Cond.before, Cond.holds, Cond.value, he]
    rcases hr with rfl | ⟨t, rfl⟩ <;> rfl
  rcases h with h | ⟨t, h⟩
  · exact key _ h (Or.inl rfl)
  · exact key _ h (Or.inr ⟨t, rfl⟩)
theorem z_lays {C n d : String} {s U : State} {a a' : Array Value} (h : (Cond.laysStatic C n d).before a s = true) (hv : s.vm.Alike U.vm) (hH : ∀ q : Nat, q < s.heap.size → U.heap[q]? = s.heap[q]?) : (Cond.laysStatic C n d).before a' U = true := by
  obtain ⟨c, k, i, f, q, cell, h1, h2, h3, h4, h5, h6, h7, h8, h9⟩ := Cond.laysStatic_spec h
  obtain ⟨k', hi', he⟩ := State.fieldFound?_setVm hv h2
  exact Cond.laysStatic_of (by rw [hv.findClass]; exact h1) hi' h3 (by rw [he]; exact h4) (by rw [hH q (Array.getElem?_eq_some_iff.mp h5).1]; exact h5) h6 h7 h8 (by rw [he]; exact h9)
theorem z_cast1 {C T : String} {s U : State} {a a' : Array Value} (h : (Cond.castable C T).before a s = true) (hv : s.vm.Alike U.vm) : (Cond.castable C T).before a' U = true := va_tabs rfl (rfl : (s.setVm U.vm).vm = U.vm) (by rw [Cond.castable_setVm hv]; exact h)
theorem z_decl1 {x : MethodName} {s U : State} {a a' : Array Value} (h : (Cond.declares x).before a s = true) (hv : s.vm.Alike U.vm) : (Cond.declares x).before a' U = true := va_tabs rfl (rfl : (s.setVm U.vm).vm = U.vm) (by rw [Cond.declares_setVm hv]; exact h)
theorem z_ncast {C T : String} {s U : State} {a a' : Array Value} (h : (Cond.not (.castable C T)).before a s = true) (hv : s.vm.Alike U.vm) : (Cond.not (.castable C T)).before a' U = true := by
  simp only [Cond.before, Cond.holds, Cond.value, hv.findClass, hv.assignable] at h ⊢
  exact h
set_option maxRecDepth 100000 in
set_option maxHeartbeats 4000000 in
theorem z_St_start {s : State} {a : Array Value} (hts : ∀ w ∈ lw_tbl, w.before a s = true) (hgv : (Jvm.Cond.and given_1 narrow_1).before a s = true) : z_St s.heap.size s s.heap := by
  have hs := flat_of_before _ hgv
  intro U a' hv hH
  have hA : ∀ q : Nat, q < s.heap.size → ¬ (fun q => s.heap.size ≤ q) q := fun q hq => Nat.not_le.mpr hq
  have hini : (Cond.initialized Bundle.tN).before a s = true := hts _ (List.mem_of_getElem? (i := 133) rfl)
  have lU : (Cond.laysStatic Bundle.tN "UNASSIGNED_STACK" Bundle.steD).before a s = true := hts _ (List.mem_of_getElem? (i := 626) rfl)
  have lN : (Cond.laysStatic Bundle.tN "SUPPRESSED_SENTINEL" Bundle.listD).before a s = true := hts _ (List.mem_of_getElem? (i := 628) rfl)
  have iU : (Cond.isRef (.static Bundle.tN "UNASSIGNED_STACK" Bundle.steD)).before a s = true := hs _ (by decide +kernel)
  have iN : (Cond.isRef (.static Bundle.tN "SUPPRESSED_SENTINEL" Bundle.listD)).before a s = true := hs _ (by decide +kernel)
  have zU := (va_Zq.moved hv (va_Zqof (A := fun q => s.heap.size ≤ q) lU hini iU hA)).kept (H1 := U.heap) (fun q h1 _ => hH q h1)
  have zN := (va_Zq.moved hv (va_Zqof (A := fun q => s.heap.size ≤ q) lN hini iN hA)).kept (H1 := U.heap) (fun q h1 _ => hH q h1)
  simp only [z_bad, List.forall_mem_cons, List.not_mem_nil, false_implies, implies_true, and_true]
  refine ⟨z_isRef zU, z_isRef zN, z_lays lU hv hH, z_lays lN hv hH, z_decl1 (hts _ (List.mem_of_getElem? (i := 602) rfl)) hv, z_decl1 (hts _ (List.mem_of_getElem? (i := 604) rfl)) hv, z_decl1 (hts _ (List.mem_of_getElem? (i := 606) rfl)) hv, z_cast1 (hts _ (List.mem_of_getElem? (i := 601) rfl)) hv, z_cast1 (hts _ (List.mem_of_getElem? (i := 672) rfl)) hv, z_cast1 (hts _ (List.mem_of_getElem? (i := 969) rfl)) hv, z_cast1 (hts _ (List.mem_of_getElem? (i := 989) rfl)) hv, z_ncast (hs _ (by decide +kernel)) hv, z_ncast (hs _ (by decide +kernel)) hv, z_ncast (hs _ (by decide +kernel)) hv, z_ncast (hs _ (by decide +kernel)) hv, z_ncast (hs _ (by decide +kernel)) hv, z_ncast (hs _ (by decide +kernel)) hv, z_ncast (hs _ (by decide +kernel)) hv, z_ncast (hs _ (by decide +kernel)) hv, z_ncast (hs _ (by decide +kernel)) hv, z_ncast (hs _ (by decide +kernel)) hv, z_ncast (hs _ (by decide +kernel)) hv, z_ncast (hs _ (by decide +kernel)) hv⟩
end
