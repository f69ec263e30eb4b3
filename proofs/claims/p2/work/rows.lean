section
-- ===== PART A: goes FIRST, ahead of the names: the tables' words, and 'selects' of the private methods out of them =====
/-- a private method of a class that the tables say can be made, by its rows of tables_1 -/
def lw_okq (q : MethodName × Nat) : Prop := (q.1.cls ≠ "java/lang/invoke/MethodHandle" ∧ q.1.cls ≠ "java/lang/invoke/VarHandle") ∧ Cond.instantiable q.1.cls q.2 ∈ tables_1 ∧ Cond.privateMethod q.1 ∈ tables_1 ∧ Cond.instanceMethod q.1 ∈ tables_1
theorem lw_p0 : lw_okq (⟨"java/lang/Throwable", "fillInStackTrace", "(I)Ljava/lang/Throwable;"⟩, 6) := ⟨⟨by decide +kernel, by decide +kernel⟩, List.mem_of_getElem? (i := 520) (by decide +kernel), List.mem_of_getElem? (i := 518) (by decide +kernel), List.mem_of_getElem? (i := 519) (by decide +kernel)⟩
theorem lw_p1 : lw_okq (⟨"StreamForge$Parser", "begin", "(LStreamForge$Row;LStreamForge$Program;)V"⟩, 7) := ⟨⟨by decide +kernel, by decide +kernel⟩, List.mem_of_getElem? (i := 54) (by decide +kernel), List.mem_of_getElem? (i := 596) (by decide +kernel), List.mem_of_getElem? (i := 597) (by decide +kernel)⟩
theorem lw_p2 : lw_okq (⟨"StreamForge$Parser", "closeBlock", "()Z"⟩, 7) := ⟨⟨by decide +kernel, by decide +kernel⟩, List.mem_of_getElem? (i := 54) (by decide +kernel), List.mem_of_getElem? (i := 609) (by decide +kernel), List.mem_of_getElem? (i := 610) (by decide +kernel)⟩
theorem lw_p3 : lw_okq (⟨"StreamForge$Parser", "beginCommand", "()Z"⟩, 7) := ⟨⟨by decide +kernel, by decide +kernel⟩, List.mem_of_getElem? (i := 54) (by decide +kernel), List.mem_of_getElem? (i := 617) (by decide +kernel), List.mem_of_getElem? (i := 618) (by decide +kernel)⟩
theorem lw_p4 : lw_okq (⟨"StreamForge$Parser", "readAddresses", "()Z"⟩, 7) := ⟨⟨by decide +kernel, by decide +kernel⟩, List.mem_of_getElem? (i := 54) (by decide +kernel), List.mem_of_getElem? (i := 625) (by decide +kernel), List.mem_of_getElem? (i := 626) (by decide +kernel)⟩
theorem lw_p5 : lw_okq (⟨"StreamForge$Parser", "readAddress", "(LStreamForge$Address;)Z"⟩, 7) := ⟨⟨by decide +kernel, by decide +kernel⟩, List.mem_of_getElem? (i := 54) (by decide +kernel), List.mem_of_getElem? (i := 632) (by decide +kernel), List.mem_of_getElem? (i := 633) (by decide +kernel)⟩
theorem lw_p6 : lw_okq (⟨"StreamForge$PatternReader", "begin", "(LStreamForge$Pattern;LStreamForge$Items;)V"⟩, 7) := ⟨⟨by decide +kernel, by decide +kernel⟩, List.mem_of_getElem? (i := 80) (by decide +kernel), List.mem_of_getElem? (i := 640) (by decide +kernel), List.mem_of_getElem? (i := 641) (by decide +kernel)⟩
theorem lw_p7 : lw_okq (⟨"StreamForge$PatternReader", "readStar", "()Z"⟩, 7) := ⟨⟨by decide +kernel, by decide +kernel⟩, List.mem_of_getElem? (i := 80) (by decide +kernel), List.mem_of_getElem? (i := 645) (by decide +kernel), List.mem_of_getElem? (i := 646) (by decide +kernel)⟩
theorem lw_p8 : lw_okq (⟨"StreamForge$PatternReader", "readEscape", "()Z"⟩, 7) := ⟨⟨by decide +kernel, by decide +kernel⟩, List.mem_of_getElem? (i := 80) (by decide +kernel), List.mem_of_getElem? (i := 650) (by decide +kernel), List.mem_of_getElem? (i := 651) (by decide +kernel)⟩
theorem lw_p9 : lw_okq (⟨"StreamForge$PatternReader", "mayEscape", "()Z"⟩, 7) := ⟨⟨by decide +kernel, by decide +kernel⟩, List.mem_of_getElem? (i := 80) (by decide +kernel), List.mem_of_getElem? (i := 654) (by decide +kernel), List.mem_of_getElem? (i := 655) (by decide +kernel)⟩
theorem lw_p10 : lw_okq (⟨"StreamForge$PatternReader", "openGroup", "()Z"⟩, 7) := ⟨⟨by decide +kernel, by decide +kernel⟩, List.mem_of_getElem? (i := 80) (by decide +kernel), List.mem_of_getElem? (i := 658) (by decide +kernel), List.mem_of_getElem? (i := 659) (by decide +kernel)⟩
theorem lw_p11 : lw_okq (⟨"StreamForge$PatternReader", "closeGroup", "()Z"⟩, 7) := ⟨⟨by decide +kernel, by decide +kernel⟩, List.mem_of_getElem? (i := 80) (by decide +kernel), List.mem_of_getElem? (i := 666) (by decide +kernel), List.mem_of_getElem? (i := 667) (by decide +kernel)⟩
theorem lw_p12 : lw_okq (⟨"StreamForge$PatternReader", "readSame", "(I)Z"⟩, 7) := ⟨⟨by decide +kernel, by decide +kernel⟩, List.mem_of_getElem? (i := 80) (by decide +kernel), List.mem_of_getElem? (i := 670) (by decide +kernel), List.mem_of_getElem? (i := 671) (by decide +kernel)⟩
theorem lw_p13 : lw_okq (⟨"StreamForge$PatternReader", "addOne", "()Z"⟩, 7) := ⟨⟨by decide +kernel, by decide +kernel⟩, List.mem_of_getElem? (i := 80) (by decide +kernel), List.mem_of_getElem? (i := 674) (by decide +kernel), List.mem_of_getElem? (i := 675) (by decide +kernel)⟩
theorem lw_p14 : lw_okq (⟨"StreamForge$PatternReader", "readSet", "()Z"⟩, 7) := ⟨⟨by decide +kernel, by decide +kernel⟩, List.mem_of_getElem? (i := 80) (by decide +kernel), List.mem_of_getElem? (i := 682) (by decide +kernel), List.mem_of_getElem? (i := 683) (by decide +kernel)⟩
theorem lw_p15 : lw_okq (⟨"StreamForge$PatternReader", "readRange", "()Z"⟩, 7) := ⟨⟨by decide +kernel, by decide +kernel⟩, List.mem_of_getElem? (i := 80) (by decide +kernel), List.mem_of_getElem? (i := 686) (by decide +kernel), List.mem_of_getElem? (i := 687) (by decide +kernel)⟩
def lw_privs_1 : List (MethodName × Nat) := [(⟨"java/lang/Throwable", "fillInStackTrace", "(I)Ljava/lang/Throwable;"⟩, 6), (⟨"StreamForge$Parser", "begin", "(LStreamForge$Row;LStreamForge$Program;)V"⟩, 7), (⟨"StreamForge$Parser", "closeBlock", "()Z"⟩, 7), (⟨"StreamForge$Parser", "beginCommand", "()Z"⟩, 7), (⟨"StreamForge$Parser", "readAddresses", "()Z"⟩, 7), (⟨"StreamForge$Parser", "readAddress", "(LStreamForge$Address;)Z"⟩, 7), (⟨"StreamForge$PatternReader", "begin", "(LStreamForge$Pattern;LStreamForge$Items;)V"⟩, 7), (⟨"StreamForge$PatternReader", "readStar", "()Z"⟩, 7), (⟨"StreamForge$PatternReader", "readEscape", "()Z"⟩, 7), (⟨"StreamForge$PatternReader", "mayEscape", "()Z"⟩, 7), (⟨"StreamForge$PatternReader", "openGroup", "()Z"⟩, 7), (⟨"StreamForge$PatternReader", "closeGroup", "()Z"⟩, 7), (⟨"StreamForge$PatternReader", "readSame", "(I)Z"⟩, 7), (⟨"StreamForge$PatternReader", "addOne", "()Z"⟩, 7), (⟨"StreamForge$PatternReader", "readSet", "()Z"⟩, 7), (⟨"StreamForge$PatternReader", "readRange", "()Z"⟩, 7)]
theorem lw_r1 : ∀ q ∈ lw_privs_1, lw_okq q := List.forall_mem_cons.mpr ⟨lw_p0, List.forall_mem_cons.mpr ⟨lw_p1, List.forall_mem_cons.mpr ⟨lw_p2, List.forall_mem_cons.mpr ⟨lw_p3, List.forall_mem_cons.mpr ⟨lw_p4, List.forall_mem_cons.mpr ⟨lw_p5, List.forall_mem_cons.mpr ⟨lw_p6, List.forall_mem_cons.mpr ⟨lw_p7, List.forall_mem_cons.mpr ⟨lw_p8, List.forall_mem_cons.mpr ⟨lw_p9, List.forall_mem_cons.mpr ⟨lw_p10, List.forall_mem_cons.mpr ⟨lw_p11, List.forall_mem_cons.mpr ⟨lw_p12, List.forall_mem_cons.mpr ⟨lw_p13, List.forall_mem_cons.mpr ⟨lw_p14, List.forall_mem_cons.mpr ⟨lw_p15, fun _ h => absurd h List.not_mem_nil⟩⟩⟩⟩⟩⟩⟩⟩⟩⟩⟩⟩⟩⟩⟩⟩
theorem lw_p16 : lw_okq (⟨"StreamForge$PatternReader", "mayEnd", "()Z"⟩, 7) := ⟨⟨by decide +kernel, by decide +kernel⟩, List.mem_of_getElem? (i := 80) (by decide +kernel), List.mem_of_getElem? (i := 704) (by decide +kernel), List.mem_of_getElem? (i := 705) (by decide +kernel)⟩
theorem lw_p17 : lw_okq (⟨"StreamForge$PatternReader", "readEnd", "()Z"⟩, 7) := ⟨⟨by decide +kernel, by decide +kernel⟩, List.mem_of_getElem? (i := 80) (by decide +kernel), List.mem_of_getElem? (i := 708) (by decide +kernel), List.mem_of_getElem? (i := 709) (by decide +kernel)⟩
theorem lw_p18 : lw_okq (⟨"StreamForge$PatternReader", "readPlain", "()Z"⟩, 7) := ⟨⟨by decide +kernel, by decide +kernel⟩, List.mem_of_getElem? (i := 80) (by decide +kernel), List.mem_of_getElem? (i := 712) (by decide +kernel), List.mem_of_getElem? (i := 713) (by decide +kernel)⟩
theorem lw_p19 : lw_okq (⟨"StreamForge$PatternReader", "finish", "()V"⟩, 7) := ⟨⟨by decide +kernel, by decide +kernel⟩, List.mem_of_getElem? (i := 80) (by decide +kernel), List.mem_of_getElem? (i := 716) (by decide +kernel), List.mem_of_getElem? (i := 717) (by decide +kernel)⟩
theorem lw_p20 : lw_okq (⟨"StreamForge$Parser", "passBlanks", "()V"⟩, 7) := ⟨⟨by decide +kernel, by decide +kernel⟩, List.mem_of_getElem? (i := 54) (by decide +kernel), List.mem_of_getElem? (i := 720) (by decide +kernel), List.mem_of_getElem? (i := 721) (by decide +kernel)⟩
theorem lw_p21 : lw_okq (⟨"StreamForge$Parser", "readAction", "()Z"⟩, 7) := ⟨⟨by decide +kernel, by decide +kernel⟩, List.mem_of_getElem? (i := 54) (by decide +kernel), List.mem_of_getElem? (i := 724) (by decide +kernel), List.mem_of_getElem? (i := 725) (by decide +kernel)⟩
theorem lw_p22 : lw_okq (⟨"StreamForge$Parser", "openBlock", "()Z"⟩, 7) := ⟨⟨by decide +kernel, by decide +kernel⟩, List.mem_of_getElem? (i := 54) (by decide +kernel), List.mem_of_getElem? (i := 728) (by decide +kernel), List.mem_of_getElem? (i := 729) (by decide +kernel)⟩
theorem lw_p23 : lw_okq (⟨"StreamForge$Parser", "placeLabel", "()Z"⟩, 7) := ⟨⟨by decide +kernel, by decide +kernel⟩, List.mem_of_getElem? (i := 54) (by decide +kernel), List.mem_of_getElem? (i := 732) (by decide +kernel), List.mem_of_getElem? (i := 733) (by decide +kernel)⟩
theorem lw_p24 : lw_okq (⟨"StreamForge$Parser", "endCommand", "()Z"⟩, 7) := ⟨⟨by decide +kernel, by decide +kernel⟩, List.mem_of_getElem? (i := 54) (by decide +kernel), List.mem_of_getElem? (i := 739) (by decide +kernel), List.mem_of_getElem? (i := 740) (by decide +kernel)⟩
theorem lw_p25 : lw_okq (⟨"StreamForge$Parser", "readBranch", "()Z"⟩, 7) := ⟨⟨by decide +kernel, by decide +kernel⟩, List.mem_of_getElem? (i := 54) (by decide +kernel), List.mem_of_getElem? (i := 743) (by decide +kernel), List.mem_of_getElem? (i := 744) (by decide +kernel)⟩
theorem lw_p26 : lw_okq (⟨"StreamForge$Parser", "readSubstitution", "()Z"⟩, 7) := ⟨⟨by decide +kernel, by decide +kernel⟩, List.mem_of_getElem? (i := 54) (by decide +kernel), List.mem_of_getElem? (i := 747) (by decide +kernel), List.mem_of_getElem? (i := 748) (by decide +kernel)⟩
theorem lw_p27 : lw_okq (⟨"StreamForge$Parser", "readReplacement", "()Z"⟩, 7) := ⟨⟨by decide +kernel, by decide +kernel⟩, List.mem_of_getElem? (i := 54) (by decide +kernel), List.mem_of_getElem? (i := 752) (by decide +kernel), List.mem_of_getElem? (i := 753) (by decide +kernel)⟩
theorem lw_p28 : lw_okq (⟨"StreamForge$Parser", "mayFollowBackslash", "(I)Z"⟩, 7) := ⟨⟨by decide +kernel, by decide +kernel⟩, List.mem_of_getElem? (i := 54) (by decide +kernel), List.mem_of_getElem? (i := 756) (by decide +kernel), List.mem_of_getElem? (i := 757) (by decide +kernel)⟩
theorem lw_p29 : lw_okq (⟨"StreamForge$Parser", "readFlags", "()Z"⟩, 7) := ⟨⟨by decide +kernel, by decide +kernel⟩, List.mem_of_getElem? (i := 54) (by decide +kernel), List.mem_of_getElem? (i := 760) (by decide +kernel), List.mem_of_getElem? (i := 761) (by decide +kernel)⟩
theorem lw_p30 : lw_okq (⟨"StreamForge$Parser", "readExchange", "()Z"⟩, 7) := ⟨⟨by decide +kernel, by decide +kernel⟩, List.mem_of_getElem? (i := 54) (by decide +kernel), List.mem_of_getElem? (i := 764) (by decide +kernel), List.mem_of_getElem? (i := 765) (by decide +kernel)⟩
theorem lw_p31 : lw_okq (⟨"StreamForge$Parser", "wasExchanged", "(I)Z"⟩, 7) := ⟨⟨by decide +kernel, by decide +kernel⟩, List.mem_of_getElem? (i := 54) (by decide +kernel), List.mem_of_getElem? (i := 771) (by decide +kernel), List.mem_of_getElem? (i := 772) (by decide +kernel)⟩
def lw_privs_2 : List (MethodName × Nat) := [(⟨"StreamForge$PatternReader", "mayEnd", "()Z"⟩, 7), (⟨"StreamForge$PatternReader", "readEnd", "()Z"⟩, 7), (⟨"StreamForge$PatternReader", "readPlain", "()Z"⟩, 7), (⟨"StreamForge$PatternReader", "finish", "()V"⟩, 7), (⟨"StreamForge$Parser", "passBlanks", "()V"⟩, 7), (⟨"StreamForge$Parser", "readAction", "()Z"⟩, 7), (⟨"StreamForge$Parser", "openBlock", "()Z"⟩, 7), (⟨"StreamForge$Parser", "placeLabel", "()Z"⟩, 7), (⟨"StreamForge$Parser", "endCommand", "()Z"⟩, 7), (⟨"StreamForge$Parser", "readBranch", "()Z"⟩, 7), (⟨"StreamForge$Parser", "readSubstitution", "()Z"⟩, 7), (⟨"StreamForge$Parser", "readReplacement", "()Z"⟩, 7), (⟨"StreamForge$Parser", "mayFollowBackslash", "(I)Z"⟩, 7), (⟨"StreamForge$Parser", "readFlags", "()Z"⟩, 7), (⟨"StreamForge$Parser", "readExchange", "()Z"⟩, 7), (⟨"StreamForge$Parser", "wasExchanged", "(I)Z"⟩, 7)]
theorem lw_r2 : ∀ q ∈ lw_privs_2, lw_okq q := List.forall_mem_cons.mpr ⟨lw_p16, List.forall_mem_cons.mpr ⟨lw_p17, List.forall_mem_cons.mpr ⟨lw_p18, List.forall_mem_cons.mpr ⟨lw_p19, List.forall_mem_cons.mpr ⟨lw_p20, List.forall_mem_cons.mpr ⟨lw_p21, List.forall_mem_cons.mpr ⟨lw_p22, List.forall_mem_cons.mpr ⟨lw_p23, List.forall_mem_cons.mpr ⟨lw_p24, List.forall_mem_cons.mpr ⟨lw_p25, List.forall_mem_cons.mpr ⟨lw_p26, List.forall_mem_cons.mpr ⟨lw_p27, List.forall_mem_cons.mpr ⟨lw_p28, List.forall_mem_cons.mpr ⟨lw_p29, List.forall_mem_cons.mpr ⟨lw_p30, List.forall_mem_cons.mpr ⟨lw_p31, fun _ h => absurd h List.not_mem_nil⟩⟩⟩⟩⟩⟩⟩⟩⟩⟩⟩⟩⟩⟩⟩⟩
theorem lw_p32 : lw_okq (⟨"StreamForge$Parser", "readText", "()Z"⟩, 7) := ⟨⟨by decide +kernel, by decide +kernel⟩, List.mem_of_getElem? (i := 54) (by decide +kernel), List.mem_of_getElem? (i := 779) (by decide +kernel), List.mem_of_getElem? (i := 780) (by decide +kernel)⟩
theorem lw_p33 : lw_okq (⟨"StreamForge$Parser", "joinLabels", "()Z"⟩, 7) := ⟨⟨by decide +kernel, by decide +kernel⟩, List.mem_of_getElem? (i := 54) (by decide +kernel), List.mem_of_getElem? (i := 787) (by decide +kernel), List.mem_of_getElem? (i := 788) (by decide +kernel)⟩
theorem lw_p34 : lw_okq (⟨"StreamForge$Editor", "begin", "()V"⟩, 17) := ⟨⟨by decide +kernel, by decide +kernel⟩, List.mem_of_getElem? (i := 131) (by decide +kernel), List.mem_of_getElem? (i := 822) (by decide +kernel), List.mem_of_getElem? (i := 823) (by decide +kernel)⟩
theorem lw_p35 : lw_okq (⟨"StreamForge$Editor", "beginLine", "()V"⟩, 17) := ⟨⟨by decide +kernel, by decide +kernel⟩, List.mem_of_getElem? (i := 131) (by decide +kernel), List.mem_of_getElem? (i := 827) (by decide +kernel), List.mem_of_getElem? (i := 828) (by decide +kernel)⟩
theorem lw_p36 : lw_okq (⟨"StreamForge$Editor", "readLine", "()V"⟩, 17) := ⟨⟨by decide +kernel, by decide +kernel⟩, List.mem_of_getElem? (i := 131) (by decide +kernel), List.mem_of_getElem? (i := 831) (by decide +kernel), List.mem_of_getElem? (i := 832) (by decide +kernel)⟩
theorem lw_p37 : lw_okq (⟨"StreamForge$Editor", "beginCycle", "()V"⟩, 17) := ⟨⟨by decide +kernel, by decide +kernel⟩, List.mem_of_getElem? (i := 131) (by decide +kernel), List.mem_of_getElem? (i := 836) (by decide +kernel), List.mem_of_getElem? (i := 837) (by decide +kernel)⟩
theorem lw_p38 : lw_okq (⟨"StreamForge$Editor", "endCycle", "(Z)V"⟩, 17) := ⟨⟨by decide +kernel, by decide +kernel⟩, List.mem_of_getElem? (i := 131) (by decide +kernel), List.mem_of_getElem? (i := 840) (by decide +kernel), List.mem_of_getElem? (i := 841) (by decide +kernel)⟩
theorem lw_p39 : lw_okq (⟨"StreamForge$Editor", "tell", "(LStreamForge$Row;II)V"⟩, 17) := ⟨⟨by decide +kernel, by decide +kernel⟩, List.mem_of_getElem? (i := 131) (by decide +kernel), List.mem_of_getElem? (i := 844) (by decide +kernel), List.mem_of_getElem? (i := 845) (by decide +kernel)⟩
theorem lw_p40 : lw_okq (⟨"StreamForge$Editor", "tellAppended", "()V"⟩, 17) := ⟨⟨by decide +kernel, by decide +kernel⟩, List.mem_of_getElem? (i := 131) (by decide +kernel), List.mem_of_getElem? (i := 865) (by decide +kernel), List.mem_of_getElem? (i := 866) (by decide +kernel)⟩
theorem lw_p41 : lw_okq (⟨"StreamForge$Editor", "isDone", "(LStreamForge$Command;)Z"⟩, 17) := ⟨⟨by decide +kernel, by decide +kernel⟩, List.mem_of_getElem? (i := 131) (by decide +kernel), List.mem_of_getElem? (i := 884) (by decide +kernel), List.mem_of_getElem? (i := 885) (by decide +kernel)⟩
theorem lw_p42 : lw_okq (⟨"StreamForge$Editor", "fits", "(LStreamForge$Address;)Z"⟩, 17) := ⟨⟨by decide +kernel, by decide +kernel⟩, List.mem_of_getElem? (i := 131) (by decide +kernel), List.mem_of_getElem? (i := 888) (by decide +kernel), List.mem_of_getElem? (i := 889) (by decide +kernel)⟩
theorem lw_p43 : lw_okq (⟨"StreamForge$Matcher", "findLongest", "(I)Z"⟩, 9) := ⟨⟨by decide +kernel, by decide +kernel⟩, List.mem_of_getElem? (i := 139) (by decide +kernel), List.mem_of_getElem? (i := 896) (by decide +kernel), List.mem_of_getElem? (i := 897) (by decide +kernel)⟩
theorem lw_p44 : lw_okq (⟨"StreamForge$Matcher", "walk", "(III)I"⟩, 9) := ⟨⟨by decide +kernel, by decide +kernel⟩, List.mem_of_getElem? (i := 139) (by decide +kernel), List.mem_of_getElem? (i := 900) (by decide +kernel), List.mem_of_getElem? (i := 901) (by decide +kernel)⟩
theorem lw_p45 : lw_okq (⟨"StreamForge$Matcher", "standsAgain", "(II)Z"⟩, 9) := ⟨⟨by decide +kernel, by decide +kernel⟩, List.mem_of_getElem? (i := 139) (by decide +kernel), List.mem_of_getElem? (i := 904) (by decide +kernel), List.mem_of_getElem? (i := 905) (by decide +kernel)⟩
theorem lw_p46 : lw_okq (⟨"StreamForge$Matcher", "repeats", "(II)Z"⟩, 9) := ⟨⟨by decide +kernel, by decide +kernel⟩, List.mem_of_getElem? (i := 139) (by decide +kernel), List.mem_of_getElem? (i := 912) (by decide +kernel), List.mem_of_getElem? (i := 913) (by decide +kernel)⟩
theorem lw_p47 : lw_okq (⟨"StreamForge$Matcher", "keepIfLongest", "(II)V"⟩, 9) := ⟨⟨by decide +kernel, by decide +kernel⟩, List.mem_of_getElem? (i := 139) (by decide +kernel), List.mem_of_getElem? (i := 916) (by decide +kernel), List.mem_of_getElem? (i := 917) (by decide +kernel)⟩
def lw_privs_3 : List (MethodName × Nat) := [(⟨"StreamForge$Parser", "readText", "()Z"⟩, 7), (⟨"StreamForge$Parser", "joinLabels", "()Z"⟩, 7), (⟨"StreamForge$Editor", "begin", "()V"⟩, 17), (⟨"StreamForge$Editor", "beginLine", "()V"⟩, 17), (⟨"StreamForge$Editor", "readLine", "()V"⟩, 17), (⟨"StreamForge$Editor", "beginCycle", "()V"⟩, 17), (⟨"StreamForge$Editor", "endCycle", "(Z)V"⟩, 17), (⟨"StreamForge$Editor", "tell", "(LStreamForge$Row;II)V"⟩, 17), (⟨"StreamForge$Editor", "tellAppended", "()V"⟩, 17), (⟨"StreamForge$Editor", "isDone", "(LStreamForge$Command;)Z"⟩, 17), (⟨"StreamForge$Editor", "fits", "(LStreamForge$Address;)Z"⟩, 17), (⟨"StreamForge$Matcher", "findLongest", "(I)Z"⟩, 9), (⟨"StreamForge$Matcher", "walk", "(III)I"⟩, 9), (⟨"StreamForge$Matcher", "standsAgain", "(II)Z"⟩, 9), (⟨"StreamForge$Matcher", "repeats", "(II)Z"⟩, 9), (⟨"StreamForge$Matcher", "keepIfLongest", "(II)V"⟩, 9)]
theorem lw_r3 : ∀ q ∈ lw_privs_3, lw_okq q := List.forall_mem_cons.mpr ⟨lw_p32, List.forall_mem_cons.mpr ⟨lw_p33, List.forall_mem_cons.mpr ⟨lw_p34, List.forall_mem_cons.mpr ⟨lw_p35, List.forall_mem_cons.mpr ⟨lw_p36, List.forall_mem_cons.mpr ⟨lw_p37, List.forall_mem_cons.mpr ⟨lw_p38, List.forall_mem_cons.mpr ⟨lw_p39, List.forall_mem_cons.mpr ⟨lw_p40, List.forall_mem_cons.mpr ⟨lw_p41, List.forall_mem_cons.mpr ⟨lw_p42, List.forall_mem_cons.mpr ⟨lw_p43, List.forall_mem_cons.mpr ⟨lw_p44, List.forall_mem_cons.mpr ⟨lw_p45, List.forall_mem_cons.mpr ⟨lw_p46, List.forall_mem_cons.mpr ⟨lw_p47, fun _ h => absurd h List.not_mem_nil⟩⟩⟩⟩⟩⟩⟩⟩⟩⟩⟩⟩⟩⟩⟩⟩
theorem lw_p48 : lw_okq (⟨"StreamForge$Editor", "isReached", "(LStreamForge$Address;)Z"⟩, 17) := ⟨⟨by decide +kernel, by decide +kernel⟩, List.mem_of_getElem? (i := 131) (by decide +kernel), List.mem_of_getElem? (i := 920) (by decide +kernel), List.mem_of_getElem? (i := 921) (by decide +kernel)⟩
theorem lw_p49 : lw_okq (⟨"StreamForge$Editor", "perform", "(LStreamForge$Command;)V"⟩, 17) := ⟨⟨by decide +kernel, by decide +kernel⟩, List.mem_of_getElem? (i := 131) (by decide +kernel), List.mem_of_getElem? (i := 924) (by decide +kernel), List.mem_of_getElem? (i := 925) (by decide +kernel)⟩
theorem lw_p50 : lw_okq (⟨"StreamForge$Editor", "branchIfReplaced", "(LStreamForge$Command;)V"⟩, 17) := ⟨⟨by decide +kernel, by decide +kernel⟩, List.mem_of_getElem? (i := 131) (by decide +kernel), List.mem_of_getElem? (i := 928) (by decide +kernel), List.mem_of_getElem? (i := 929) (by decide +kernel)⟩
theorem lw_p51 : lw_okq (⟨"StreamForge$Editor", "substitute", "(LStreamForge$Command;)V"⟩, 17) := ⟨⟨by decide +kernel, by decide +kernel⟩, List.mem_of_getElem? (i := 131) (by decide +kernel), List.mem_of_getElem? (i := 932) (by decide +kernel), List.mem_of_getElem? (i := 933) (by decide +kernel)⟩
theorem lw_p52 : lw_okq (⟨"StreamForge$Editor", "draftPart", "(II)V"⟩, 17) := ⟨⟨by decide +kernel, by decide +kernel⟩, List.mem_of_getElem? (i := 131) (by decide +kernel), List.mem_of_getElem? (i := 943) (by decide +kernel), List.mem_of_getElem? (i := 944) (by decide +kernel)⟩
theorem lw_p53 : lw_okq (⟨"StreamForge$Editor", "draftReplacement", "(LStreamForge$Command;)V"⟩, 17) := ⟨⟨by decide +kernel, by decide +kernel⟩, List.mem_of_getElem? (i := 131) (by decide +kernel), List.mem_of_getElem? (i := 947) (by decide +kernel), List.mem_of_getElem? (i := 948) (by decide +kernel)⟩
theorem lw_p54 : lw_okq (⟨"StreamForge$Editor", "draftCharacter", "(I)V"⟩, 17) := ⟨⟨by decide +kernel, by decide +kernel⟩, List.mem_of_getElem? (i := 131) (by decide +kernel), List.mem_of_getElem? (i := 960) (by decide +kernel), List.mem_of_getElem? (i := 961) (by decide +kernel)⟩
theorem lw_p55 : lw_okq (⟨"StreamForge$Editor", "takeDraft", "(LStreamForge$Command;I)V"⟩, 17) := ⟨⟨by decide +kernel, by decide +kernel⟩, List.mem_of_getElem? (i := 131) (by decide +kernel), List.mem_of_getElem? (i := 964) (by decide +kernel), List.mem_of_getElem? (i := 965) (by decide +kernel)⟩
theorem lw_p56 : lw_okq (⟨"StreamForge$Editor", "exchange", "(LStreamForge$Command;)V"⟩, 17) := ⟨⟨by decide +kernel, by decide +kernel⟩, List.mem_of_getElem? (i := 131) (by decide +kernel), List.mem_of_getElem? (i := 968) (by decide +kernel), List.mem_of_getElem? (i := 969) (by decide +kernel)⟩
theorem lw_p57 : lw_okq (⟨"StreamForge$Editor", "append", "(LStreamForge$Command;)V"⟩, 17) := ⟨⟨by decide +kernel, by decide +kernel⟩, List.mem_of_getElem? (i := 131) (by decide +kernel), List.mem_of_getElem? (i := 972) (by decide +kernel), List.mem_of_getElem? (i := 973) (by decide +kernel)⟩
theorem lw_p58 : lw_okq (⟨"StreamForge$Editor", "change", "(LStreamForge$Command;)V"⟩, 17) := ⟨⟨by decide +kernel, by decide +kernel⟩, List.mem_of_getElem? (i := 131) (by decide +kernel), List.mem_of_getElem? (i := 976) (by decide +kernel), List.mem_of_getElem? (i := 977) (by decide +kernel)⟩
theorem lw_p59 : lw_okq (⟨"StreamForge$Editor", "deleteFirst", "()V"⟩, 17) := ⟨⟨by decide +kernel, by decide +kernel⟩, List.mem_of_getElem? (i := 131) (by decide +kernel), List.mem_of_getElem? (i := 980) (by decide +kernel), List.mem_of_getElem? (i := 981) (by decide +kernel)⟩
theorem lw_p60 : lw_okq (⟨"StreamForge$Editor", "replaceByNext", "()V"⟩, 17) := ⟨⟨by decide +kernel, by decide +kernel⟩, List.mem_of_getElem? (i := 131) (by decide +kernel), List.mem_of_getElem? (i := 989) (by decide +kernel), List.mem_of_getElem? (i := 990) (by decide +kernel)⟩
theorem lw_p61 : lw_okq (⟨"StreamForge$Editor", "quit", "()V"⟩, 17) := ⟨⟨by decide +kernel, by decide +kernel⟩, List.mem_of_getElem? (i := 131) (by decide +kernel), List.mem_of_getElem? (i := 993) (by decide +kernel), List.mem_of_getElem? (i := 994) (by decide +kernel)⟩
theorem lw_p62 : lw_okq (⟨"StreamForge$Editor", "joinNext", "()V"⟩, 17) := ⟨⟨by decide +kernel, by decide +kernel⟩, List.mem_of_getElem? (i := 131) (by decide +kernel), List.mem_of_getElem? (i := 997) (by decide +kernel), List.mem_of_getElem? (i := 998) (by decide +kernel)⟩
theorem lw_p63 : lw_okq (⟨"StreamForge$Editor", "copy", "(LStreamForge$Row;LStreamForge$Row;)V"⟩, 17) := ⟨⟨by decide +kernel, by decide +kernel⟩, List.mem_of_getElem? (i := 131) (by decide +kernel), List.mem_of_getElem? (i := 1001) (by decide +kernel), List.mem_of_getElem? (i := 1002) (by decide +kernel)⟩
def lw_privs_4 : List (MethodName × Nat) := [(⟨"StreamForge$Editor", "isReached", "(LStreamForge$Address;)Z"⟩, 17), (⟨"StreamForge$Editor", "perform", "(LStreamForge$Command;)V"⟩, 17), (⟨"StreamForge$Editor", "branchIfReplaced", "(LStreamForge$Command;)V"⟩, 17), (⟨"StreamForge$Editor", "substitute", "(LStreamForge$Command;)V"⟩, 17), (⟨"StreamForge$Editor", "draftPart", "(II)V"⟩, 17), (⟨"StreamForge$Editor", "draftReplacement", "(LStreamForge$Command;)V"⟩, 17), (⟨"StreamForge$Editor", "draftCharacter", "(I)V"⟩, 17), (⟨"StreamForge$Editor", "takeDraft", "(LStreamForge$Command;I)V"⟩, 17), (⟨"StreamForge$Editor", "exchange", "(LStreamForge$Command;)V"⟩, 17), (⟨"StreamForge$Editor", "append", "(LStreamForge$Command;)V"⟩, 17), (⟨"StreamForge$Editor", "change", "(LStreamForge$Command;)V"⟩, 17), (⟨"StreamForge$Editor", "deleteFirst", "()V"⟩, 17), (⟨"StreamForge$Editor", "replaceByNext", "()V"⟩, 17), (⟨"StreamForge$Editor", "quit", "()V"⟩, 17), (⟨"StreamForge$Editor", "joinNext", "()V"⟩, 17), (⟨"StreamForge$Editor", "copy", "(LStreamForge$Row;LStreamForge$Row;)V"⟩, 17)]
theorem lw_r4 : ∀ q ∈ lw_privs_4, lw_okq q := List.forall_mem_cons.mpr ⟨lw_p48, List.forall_mem_cons.mpr ⟨lw_p49, List.forall_mem_cons.mpr ⟨lw_p50, List.forall_mem_cons.mpr ⟨lw_p51, List.forall_mem_cons.mpr ⟨lw_p52, List.forall_mem_cons.mpr ⟨lw_p53, List.forall_mem_cons.mpr ⟨lw_p54, List.forall_mem_cons.mpr ⟨lw_p55, List.forall_mem_cons.mpr ⟨lw_p56, List.forall_mem_cons.mpr ⟨lw_p57, List.forall_mem_cons.mpr ⟨lw_p58, List.forall_mem_cons.mpr ⟨lw_p59, List.forall_mem_cons.mpr ⟨lw_p60, List.forall_mem_cons.mpr ⟨lw_p61, List.forall_mem_cons.mpr ⟨lw_p62, List.forall_mem_cons.mpr ⟨lw_p63, fun _ h => absurd h List.not_mem_nil⟩⟩⟩⟩⟩⟩⟩⟩⟩⟩⟩⟩⟩⟩⟩⟩
theorem lw_p64 : lw_okq (⟨"StreamForge$Editor", "join", "(LStreamForge$Row;LStreamForge$Row;)V"⟩, 17) := ⟨⟨by decide +kernel, by decide +kernel⟩, List.mem_of_getElem? (i := 131) (by decide +kernel), List.mem_of_getElem? (i := 1005) (by decide +kernel), List.mem_of_getElem? (i := 1006) (by decide +kernel)⟩
theorem lw_p65 : lw_okq (⟨"StreamForge$Editor", "swap", "()V"⟩, 17) := ⟨⟨by decide +kernel, by decide +kernel⟩, List.mem_of_getElem? (i := 131) (by decide +kernel), List.mem_of_getElem? (i := 1009) (by decide +kernel), List.mem_of_getElem? (i := 1010) (by decide +kernel)⟩
theorem lw_p66 : lw_okq (⟨"StreamForge$Editor", "tellNumber", "()V"⟩, 17) := ⟨⟨by decide +kernel, by decide +kernel⟩, List.mem_of_getElem? (i := 131) (by decide +kernel), List.mem_of_getElem? (i := 1013) (by decide +kernel), List.mem_of_getElem? (i := 1014) (by decide +kernel)⟩
theorem lw_p67 : lw_okq (⟨"StreamForgeModel", "fail", "(I)I"⟩, 77) := ⟨⟨by decide +kernel, by decide +kernel⟩, List.mem_of_getElem? (i := 1053) (by decide +kernel), List.mem_of_getElem? (i := 1306) (by decide +kernel), List.mem_of_getElem? (i := 1307) (by decide +kernel)⟩
theorem lw_p68 : lw_okq (⟨"StreamForgeModel", "addTo", "(IJ)V"⟩, 77) := ⟨⟨by decide +kernel, by decide +kernel⟩, List.mem_of_getElem? (i := 1053) (by decide +kernel), List.mem_of_getElem? (i := 1318) (by decide +kernel), List.mem_of_getElem? (i := 1319) (by decide +kernel)⟩
theorem lw_p69 : lw_okq (⟨"StreamForgeModel", "wrong", "(I)V"⟩, 77) := ⟨⟨by decide +kernel, by decide +kernel⟩, List.mem_of_getElem? (i := 1053) (by decide +kernel), List.mem_of_getElem? (i := 1330) (by decide +kernel), List.mem_of_getElem? (i := 1331) (by decide +kernel)⟩
theorem lw_p70 : lw_okq (⟨"StreamForgeModel", "command", "()V"⟩, 77) := ⟨⟨by decide +kernel, by decide +kernel⟩, List.mem_of_getElem? (i := 1053) (by decide +kernel), List.mem_of_getElem? (i := 1334) (by decide +kernel), List.mem_of_getElem? (i := 1335) (by decide +kernel)⟩
theorem lw_p71 : lw_okq (⟨"StreamForgeModel", "address", "()I"⟩, 77) := ⟨⟨by decide +kernel, by decide +kernel⟩, List.mem_of_getElem? (i := 1053) (by decide +kernel), List.mem_of_getElem? (i := 1338) (by decide +kernel), List.mem_of_getElem? (i := 1339) (by decide +kernel)⟩
theorem lw_p72 : lw_okq (⟨"StreamForgeModel", "here", "()I"⟩, 77) := ⟨⟨by decide +kernel, by decide +kernel⟩, List.mem_of_getElem? (i := 1053) (by decide +kernel), List.mem_of_getElem? (i := 1342) (by decide +kernel), List.mem_of_getElem? (i := 1343) (by decide +kernel)⟩
theorem lw_p73 : lw_okq (⟨"StreamForgeModel", "readPattern", "()I"⟩, 77) := ⟨⟨by decide +kernel, by decide +kernel⟩, List.mem_of_getElem? (i := 1053) (by decide +kernel), List.mem_of_getElem? (i := 1346) (by decide +kernel), List.mem_of_getElem? (i := 1347) (by decide +kernel)⟩
theorem lw_p74 : lw_okq (⟨"StreamForgeModel", "behind", "()I"⟩, 77) := ⟨⟨by decide +kernel, by decide +kernel⟩, List.mem_of_getElem? (i := 1053) (by decide +kernel), List.mem_of_getElem? (i := 1350) (by decide +kernel), List.mem_of_getElem? (i := 1351) (by decide +kernel)⟩
theorem lw_p75 : lw_okq (⟨"StreamForgeModel", "escaped", "(I)V"⟩, 77) := ⟨⟨by decide +kernel, by decide +kernel⟩, List.mem_of_getElem? (i := 1053) (by decide +kernel), List.mem_of_getElem? (i := 1354) (by decide +kernel), List.mem_of_getElem? (i := 1355) (by decide +kernel)⟩
theorem lw_p76 : lw_okq (⟨"StreamForgeModel", "addItem", "(III)V"⟩, 77) := ⟨⟨by decide +kernel, by decide +kernel⟩, List.mem_of_getElem? (i := 1053) (by decide +kernel), List.mem_of_getElem? (i := 1358) (by decide +kernel), List.mem_of_getElem? (i := 1359) (by decide +kernel)⟩
theorem lw_p77 : lw_okq (⟨"StreamForgeModel", "set", "(I)V"⟩, 77) := ⟨⟨by decide +kernel, by decide +kernel⟩, List.mem_of_getElem? (i := 1053) (by decide +kernel), List.mem_of_getElem? (i := 1362) (by decide +kernel), List.mem_of_getElem? (i := 1363) (by decide +kernel)⟩
theorem lw_p78 : lw_okq (⟨"StreamForgeModel", "isMember", "()Z"⟩, 77) := ⟨⟨by decide +kernel, by decide +kernel⟩, List.mem_of_getElem? (i := 1053) (by decide +kernel), List.mem_of_getElem? (i := 1366) (by decide +kernel), List.mem_of_getElem? (i := 1367) (by decide +kernel)⟩
theorem lw_p79 : lw_okq (⟨"StreamForgeModel", "put", "(III)V"⟩, 77) := ⟨⟨by decide +kernel, by decide +kernel⟩, List.mem_of_getElem? (i := 1053) (by decide +kernel), List.mem_of_getElem? (i := 1370) (by decide +kernel), List.mem_of_getElem? (i := 1371) (by decide +kernel)⟩
def lw_privs_5 : List (MethodName × Nat) := [(⟨"StreamForge$Editor", "join", "(LStreamForge$Row;LStreamForge$Row;)V"⟩, 17), (⟨"StreamForge$Editor", "swap", "()V"⟩, 17), (⟨"StreamForge$Editor", "tellNumber", "()V"⟩, 17), (⟨"StreamForgeModel", "fail", "(I)I"⟩, 77), (⟨"StreamForgeModel", "addTo", "(IJ)V"⟩, 77), (⟨"StreamForgeModel", "wrong", "(I)V"⟩, 77), (⟨"StreamForgeModel", "command", "()V"⟩, 77), (⟨"StreamForgeModel", "address", "()I"⟩, 77), (⟨"StreamForgeModel", "here", "()I"⟩, 77), (⟨"StreamForgeModel", "readPattern", "()I"⟩, 77), (⟨"StreamForgeModel", "behind", "()I"⟩, 77), (⟨"StreamForgeModel", "escaped", "(I)V"⟩, 77), (⟨"StreamForgeModel", "addItem", "(III)V"⟩, 77), (⟨"StreamForgeModel", "set", "(I)V"⟩, 77), (⟨"StreamForgeModel", "isMember", "()Z"⟩, 77), (⟨"StreamForgeModel", "put", "(III)V"⟩, 77)]
theorem lw_r5 : ∀ q ∈ lw_privs_5, lw_okq q := List.forall_mem_cons.mpr ⟨lw_p64, List.forall_mem_cons.mpr ⟨lw_p65, List.forall_mem_cons.mpr ⟨lw_p66, List.forall_mem_cons.mpr ⟨lw_p67, List.forall_mem_cons.mpr ⟨lw_p68, List.forall_mem_cons.mpr ⟨lw_p69, List.forall_mem_cons.mpr ⟨lw_p70, List.forall_mem_cons.mpr ⟨lw_p71, List.forall_mem_cons.mpr ⟨lw_p72, List.forall_mem_cons.mpr ⟨lw_p73, List.forall_mem_cons.mpr ⟨lw_p74, List.forall_mem_cons.mpr ⟨lw_p75, List.forall_mem_cons.mpr ⟨lw_p76, List.forall_mem_cons.mpr ⟨lw_p77, List.forall_mem_cons.mpr ⟨lw_p78, List.forall_mem_cons.mpr ⟨lw_p79, fun _ h => absurd h List.not_mem_nil⟩⟩⟩⟩⟩⟩⟩⟩⟩⟩⟩⟩⟩⟩⟩⟩
theorem lw_p80 : lw_okq (⟨"StreamForgeModel", "star", "()V"⟩, 77) := ⟨⟨by decide +kernel, by decide +kernel⟩, List.mem_of_getElem? (i := 1053) (by decide +kernel), List.mem_of_getElem? (i := 1375) (by decide +kernel), List.mem_of_getElem? (i := 1376) (by decide +kernel)⟩
theorem lw_p81 : lw_okq (⟨"StreamForgeModel", "blanks", "()V"⟩, 77) := ⟨⟨by decide +kernel, by decide +kernel⟩, List.mem_of_getElem? (i := 1053) (by decide +kernel), List.mem_of_getElem? (i := 1379) (by decide +kernel), List.mem_of_getElem? (i := 1380) (by decide +kernel)⟩
theorem lw_p82 : lw_okq (⟨"StreamForgeModel", "label", "(IZ)V"⟩, 77) := ⟨⟨by decide +kernel, by decide +kernel⟩, List.mem_of_getElem? (i := 1053) (by decide +kernel), List.mem_of_getElem? (i := 1383) (by decide +kernel), List.mem_of_getElem? (i := 1384) (by decide +kernel)⟩
theorem lw_p83 : lw_okq (⟨"StreamForgeModel", "closed", "()V"⟩, 77) := ⟨⟨by decide +kernel, by decide +kernel⟩, List.mem_of_getElem? (i := 1053) (by decide +kernel), List.mem_of_getElem? (i := 1387) (by decide +kernel), List.mem_of_getElem? (i := 1388) (by decide +kernel)⟩
theorem lw_p84 : lw_okq (⟨"StreamForgeModel", "branch", "(I)V"⟩, 77) := ⟨⟨by decide +kernel, by decide +kernel⟩, List.mem_of_getElem? (i := 1053) (by decide +kernel), List.mem_of_getElem? (i := 1391) (by decide +kernel), List.mem_of_getElem? (i := 1392) (by decide +kernel)⟩
theorem lw_p85 : lw_okq (⟨"StreamForgeModel", "substitute", "(I)V"⟩, 77) := ⟨⟨by decide +kernel, by decide +kernel⟩, List.mem_of_getElem? (i := 1053) (by decide +kernel), List.mem_of_getElem? (i := 1395) (by decide +kernel), List.mem_of_getElem? (i := 1396) (by decide +kernel)⟩
theorem lw_p86 : lw_okq (⟨"StreamForgeModel", "expect", "(I)V"⟩, 77) := ⟨⟨by decide +kernel, by decide +kernel⟩, List.mem_of_getElem? (i := 1053) (by decide +kernel), List.mem_of_getElem? (i := 1399) (by decide +kernel), List.mem_of_getElem? (i := 1400) (by decide +kernel)⟩
theorem lw_p87 : lw_okq (⟨"StreamForgeModel", "replacement", "(I)V"⟩, 77) := ⟨⟨by decide +kernel, by decide +kernel⟩, List.mem_of_getElem? (i := 1053) (by decide +kernel), List.mem_of_getElem? (i := 1403) (by decide +kernel), List.mem_of_getElem? (i := 1404) (by decide +kernel)⟩
theorem lw_p88 : lw_okq (⟨"StreamForgeModel", "stored", "()I"⟩, 77) := ⟨⟨by decide +kernel, by decide +kernel⟩, List.mem_of_getElem? (i := 1053) (by decide +kernel), List.mem_of_getElem? (i := 1407) (by decide +kernel), List.mem_of_getElem? (i := 1408) (by decide +kernel)⟩
theorem lw_p89 : lw_okq (⟨"StreamForgeModel", "keep", "(I)V"⟩, 77) := ⟨⟨by decide +kernel, by decide +kernel⟩, List.mem_of_getElem? (i := 1053) (by decide +kernel), List.mem_of_getElem? (i := 1411) (by decide +kernel), List.mem_of_getElem? (i := 1412) (by decide +kernel)⟩
theorem lw_p90 : lw_okq (⟨"StreamForgeModel", "exchange", "(I)V"⟩, 77) := ⟨⟨by decide +kernel, by decide +kernel⟩, List.mem_of_getElem? (i := 1053) (by decide +kernel), List.mem_of_getElem? (i := 1415) (by decide +kernel), List.mem_of_getElem? (i := 1416) (by decide +kernel)⟩
theorem lw_p91 : lw_okq (⟨"StreamForgeModel", "readText", "(I)V"⟩, 77) := ⟨⟨by decide +kernel, by decide +kernel⟩, List.mem_of_getElem? (i := 1053) (by decide +kernel), List.mem_of_getElem? (i := 1419) (by decide +kernel), List.mem_of_getElem? (i := 1420) (by decide +kernel)⟩
theorem lw_p92 : lw_okq (⟨"StreamForgeModel", "goals", "()V"⟩, 77) := ⟨⟨by decide +kernel, by decide +kernel⟩, List.mem_of_getElem? (i := 1053) (by decide +kernel), List.mem_of_getElem? (i := 1426) (by decide +kernel), List.mem_of_getElem? (i := 1427) (by decide +kernel)⟩
theorem lw_p93 : lw_okq (⟨"StreamForgeModel", "takeLine", "(I)V"⟩, 77) := ⟨⟨by decide +kernel, by decide +kernel⟩, List.mem_of_getElem? (i := 1053) (by decide +kernel), List.mem_of_getElem? (i := 1438) (by decide +kernel), List.mem_of_getElem? (i := 1439) (by decide +kernel)⟩
theorem lw_p94 : lw_okq (⟨"StreamForgeModel", "find", "(II)Z"⟩, 77) := ⟨⟨by decide +kernel, by decide +kernel⟩, List.mem_of_getElem? (i := 1053) (by decide +kernel), List.mem_of_getElem? (i := 1442) (by decide +kernel), List.mem_of_getElem? (i := 1443) (by decide +kernel)⟩
theorem lw_p95 : lw_okq (⟨"StreamForgeModel", "starsOf", "(I)I"⟩, 77) := ⟨⟨by decide +kernel, by decide +kernel⟩, List.mem_of_getElem? (i := 1053) (by decide +kernel), List.mem_of_getElem? (i := 1446) (by decide +kernel), List.mem_of_getElem? (i := 1447) (by decide +kernel)⟩
def lw_privs_6 : List (MethodName × Nat) := [(⟨"StreamForgeModel", "star", "()V"⟩, 77), (⟨"StreamForgeModel", "blanks", "()V"⟩, 77), (⟨"StreamForgeModel", "label", "(IZ)V"⟩, 77), (⟨"StreamForgeModel", "closed", "()V"⟩, 77), (⟨"StreamForgeModel", "branch", "(I)V"⟩, 77), (⟨"StreamForgeModel", "substitute", "(I)V"⟩, 77), (⟨"StreamForgeModel", "expect", "(I)V"⟩, 77), (⟨"StreamForgeModel", "replacement", "(I)V"⟩, 77), (⟨"StreamForgeModel", "stored", "()I"⟩, 77), (⟨"StreamForgeModel", "keep", "(I)V"⟩, 77), (⟨"StreamForgeModel", "exchange", "(I)V"⟩, 77), (⟨"StreamForgeModel", "readText", "(I)V"⟩, 77), (⟨"StreamForgeModel", "goals", "()V"⟩, 77), (⟨"StreamForgeModel", "takeLine", "(I)V"⟩, 77), (⟨"StreamForgeModel", "find", "(II)Z"⟩, 77), (⟨"StreamForgeModel", "starsOf", "(I)I"⟩, 77)]
theorem lw_r6 : ∀ q ∈ lw_privs_6, lw_okq q := List.forall_mem_cons.mpr ⟨lw_p80, List.forall_mem_cons.mpr ⟨lw_p81, List.forall_mem_cons.mpr ⟨lw_p82, List.forall_mem_cons.mpr ⟨lw_p83, List.forall_mem_cons.mpr ⟨lw_p84, List.forall_mem_cons.mpr ⟨lw_p85, List.forall_mem_cons.mpr ⟨lw_p86, List.forall_mem_cons.mpr ⟨lw_p87, List.forall_mem_cons.mpr ⟨lw_p88, List.forall_mem_cons.mpr ⟨lw_p89, List.forall_mem_cons.mpr ⟨lw_p90, List.forall_mem_cons.mpr ⟨lw_p91, List.forall_mem_cons.mpr ⟨lw_p92, List.forall_mem_cons.mpr ⟨lw_p93, List.forall_mem_cons.mpr ⟨lw_p94, List.forall_mem_cons.mpr ⟨lw_p95, fun _ h => absurd h List.not_mem_nil⟩⟩⟩⟩⟩⟩⟩⟩⟩⟩⟩⟩⟩⟩⟩⟩
theorem lw_p96 : lw_okq (⟨"StreamForgeModel", "way", "(IIII)I"⟩, 77) := ⟨⟨by decide +kernel, by decide +kernel⟩, List.mem_of_getElem? (i := 1053) (by decide +kernel), List.mem_of_getElem? (i := 1450) (by decide +kernel), List.mem_of_getElem? (i := 1451) (by decide +kernel)⟩
theorem lw_p97 : lw_okq (⟨"StreamForgeModel", "fits", "(II)Z"⟩, 77) := ⟨⟨by decide +kernel, by decide +kernel⟩, List.mem_of_getElem? (i := 1053) (by decide +kernel), List.mem_of_getElem? (i := 1454) (by decide +kernel), List.mem_of_getElem? (i := 1455) (by decide +kernel)⟩
theorem lw_p98 : lw_okq (⟨"StreamForgeModel", "readLine", "()V"⟩, 77) := ⟨⟨by decide +kernel, by decide +kernel⟩, List.mem_of_getElem? (i := 1053) (by decide +kernel), List.mem_of_getElem? (i := 1462) (by decide +kernel), List.mem_of_getElem? (i := 1463) (by decide +kernel)⟩
theorem lw_p99 : lw_okq (⟨"StreamForgeModel", "endCycle", "(Z)I"⟩, 77) := ⟨⟨by decide +kernel, by decide +kernel⟩, List.mem_of_getElem? (i := 1053) (by decide +kernel), List.mem_of_getElem? (i := 1466) (by decide +kernel), List.mem_of_getElem? (i := 1467) (by decide +kernel)⟩
theorem lw_p100 : lw_okq (⟨"StreamForgeModel", "tellSpace", "(Z)Z"⟩, 77) := ⟨⟨by decide +kernel, by decide +kernel⟩, List.mem_of_getElem? (i := 1053) (by decide +kernel), List.mem_of_getElem? (i := 1470) (by decide +kernel), List.mem_of_getElem? (i := 1471) (by decide +kernel)⟩
theorem lw_p101 : lw_okq (⟨"StreamForgeModel", "tell", "()Z"⟩, 77) := ⟨⟨by decide +kernel, by decide +kernel⟩, List.mem_of_getElem? (i := 1053) (by decide +kernel), List.mem_of_getElem? (i := 1474) (by decide +kernel), List.mem_of_getElem? (i := 1475) (by decide +kernel)⟩
theorem lw_p102 : lw_okq (⟨"StreamForgeModel", "full", "()Z"⟩, 77) := ⟨⟨by decide +kernel, by decide +kernel⟩, List.mem_of_getElem? (i := 1053) (by decide +kernel), List.mem_of_getElem? (i := 1478) (by decide +kernel), List.mem_of_getElem? (i := 1479) (by decide +kernel)⟩
theorem lw_p103 : lw_okq (⟨"StreamForgeModel", "tellAppended", "()Z"⟩, 77) := ⟨⟨by decide +kernel, by decide +kernel⟩, List.mem_of_getElem? (i := 1053) (by decide +kernel), List.mem_of_getElem? (i := 1482) (by decide +kernel), List.mem_of_getElem? (i := 1483) (by decide +kernel)⟩
theorem lw_p104 : lw_okq (⟨"StreamForgeModel", "isDone", "(I)Z"⟩, 77) := ⟨⟨by decide +kernel, by decide +kernel⟩, List.mem_of_getElem? (i := 1053) (by decide +kernel), List.mem_of_getElem? (i := 1486) (by decide +kernel), List.mem_of_getElem? (i := 1487) (by decide +kernel)⟩
theorem lw_p105 : lw_okq (⟨"StreamForgeModel", "fitsAddress", "(II)Z"⟩, 77) := ⟨⟨by decide +kernel, by decide +kernel⟩, List.mem_of_getElem? (i := 1053) (by decide +kernel), List.mem_of_getElem? (i := 1490) (by decide +kernel), List.mem_of_getElem? (i := 1491) (by decide +kernel)⟩
theorem lw_p106 : lw_okq (⟨"StreamForgeModel", "takeSpace", "()V"⟩, 77) := ⟨⟨by decide +kernel, by decide +kernel⟩, List.mem_of_getElem? (i := 1053) (by decide +kernel), List.mem_of_getElem? (i := 1494) (by decide +kernel), List.mem_of_getElem? (i := 1495) (by decide +kernel)⟩
theorem lw_p107 : lw_okq (⟨"StreamForgeModel", "perform", "(II)I"⟩, 77) := ⟨⟨by decide +kernel, by decide +kernel⟩, List.mem_of_getElem? (i := 1053) (by decide +kernel), List.mem_of_getElem? (i := 1498) (by decide +kernel), List.mem_of_getElem? (i := 1499) (by decide +kernel)⟩
theorem lw_p108 : lw_okq (⟨"StreamForgeModel", "substituted", "(I)Z"⟩, 77) := ⟨⟨by decide +kernel, by decide +kernel⟩, List.mem_of_getElem? (i := 1053) (by decide +kernel), List.mem_of_getElem? (i := 1502) (by decide +kernel), List.mem_of_getElem? (i := 1503) (by decide +kernel)⟩
theorem lw_p109 : lw_okq (⟨"StreamForgeModel", "copyOf", "(II)V"⟩, 77) := ⟨⟨by decide +kernel, by decide +kernel⟩, List.mem_of_getElem? (i := 1053) (by decide +kernel), List.mem_of_getElem? (i := 1506) (by decide +kernel), List.mem_of_getElem? (i := 1507) (by decide +kernel)⟩
theorem lw_p110 : lw_okq (⟨"StreamForgeModel", "add", "(I)V"⟩, 77) := ⟨⟨by decide +kernel, by decide +kernel⟩, List.mem_of_getElem? (i := 1053) (by decide +kernel), List.mem_of_getElem? (i := 1510) (by decide +kernel), List.mem_of_getElem? (i := 1511) (by decide +kernel)⟩
theorem lw_p111 : lw_okq (⟨"StreamForgeModel", "addReplacement", "(I)V"⟩, 77) := ⟨⟨by decide +kernel, by decide +kernel⟩, List.mem_of_getElem? (i := 1053) (by decide +kernel), List.mem_of_getElem? (i := 1514) (by decide +kernel), List.mem_of_getElem? (i := 1515) (by decide +kernel)⟩
def lw_privs_7 : List (MethodName × Nat) := [(⟨"StreamForgeModel", "way", "(IIII)I"⟩, 77), (⟨"StreamForgeModel", "fits", "(II)Z"⟩, 77), (⟨"StreamForgeModel", "readLine", "()V"⟩, 77), (⟨"StreamForgeModel", "endCycle", "(Z)I"⟩, 77), (⟨"StreamForgeModel", "tellSpace", "(Z)Z"⟩, 77), (⟨"StreamForgeModel", "tell", "()Z"⟩, 77), (⟨"StreamForgeModel", "full", "()Z"⟩, 77), (⟨"StreamForgeModel", "tellAppended", "()Z"⟩, 77), (⟨"StreamForgeModel", "isDone", "(I)Z"⟩, 77), (⟨"StreamForgeModel", "fitsAddress", "(II)Z"⟩, 77), (⟨"StreamForgeModel", "takeSpace", "()V"⟩, 77), (⟨"StreamForgeModel", "perform", "(II)I"⟩, 77), (⟨"StreamForgeModel", "substituted", "(I)Z"⟩, 77), (⟨"StreamForgeModel", "copyOf", "(II)V"⟩, 77), (⟨"StreamForgeModel", "add", "(I)V"⟩, 77), (⟨"StreamForgeModel", "addReplacement", "(I)V"⟩, 77)]
theorem lw_r7 : ∀ q ∈ lw_privs_7, lw_okq q := List.forall_mem_cons.mpr ⟨lw_p96, List.forall_mem_cons.mpr ⟨lw_p97, List.forall_mem_cons.mpr ⟨lw_p98, List.forall_mem_cons.mpr ⟨lw_p99, List.forall_mem_cons.mpr ⟨lw_p100, List.forall_mem_cons.mpr ⟨lw_p101, List.forall_mem_cons.mpr ⟨lw_p102, List.forall_mem_cons.mpr ⟨lw_p103, List.forall_mem_cons.mpr ⟨lw_p104, List.forall_mem_cons.mpr ⟨lw_p105, List.forall_mem_cons.mpr ⟨lw_p106, List.forall_mem_cons.mpr ⟨lw_p107, List.forall_mem_cons.mpr ⟨lw_p108, List.forall_mem_cons.mpr ⟨lw_p109, List.forall_mem_cons.mpr ⟨lw_p110, List.forall_mem_cons.mpr ⟨lw_p111, fun _ h => absurd h List.not_mem_nil⟩⟩⟩⟩⟩⟩⟩⟩⟩⟩⟩⟩⟩⟩⟩⟩
theorem lw_p112 : lw_okq (⟨"StreamForgeModel", "exchanged", "(I)V"⟩, 77) := ⟨⟨by decide +kernel, by decide +kernel⟩, List.mem_of_getElem? (i := 1053) (by decide +kernel), List.mem_of_getElem? (i := 1518) (by decide +kernel), List.mem_of_getElem? (i := 1519) (by decide +kernel)⟩
theorem lw_p113 : lw_okq (⟨"StreamForgeModel", "append", "(I)Z"⟩, 77) := ⟨⟨by decide +kernel, by decide +kernel⟩, List.mem_of_getElem? (i := 1053) (by decide +kernel), List.mem_of_getElem? (i := 1522) (by decide +kernel), List.mem_of_getElem? (i := 1523) (by decide +kernel)⟩
theorem lw_p114 : lw_okq (⟨"StreamForgeModel", "tellText", "(I)Z"⟩, 77) := ⟨⟨by decide +kernel, by decide +kernel⟩, List.mem_of_getElem? (i := 1053) (by decide +kernel), List.mem_of_getElem? (i := 1526) (by decide +kernel), List.mem_of_getElem? (i := 1527) (by decide +kernel)⟩
theorem lw_p115 : lw_okq (⟨"StreamForgeModel", "cut", "()I"⟩, 77) := ⟨⟨by decide +kernel, by decide +kernel⟩, List.mem_of_getElem? (i := 1053) (by decide +kernel), List.mem_of_getElem? (i := 1530) (by decide +kernel), List.mem_of_getElem? (i := 1531) (by decide +kernel)⟩
theorem lw_p116 : lw_okq (⟨"StreamForgeModel", "nextLine", "(II)I"⟩, 77) := ⟨⟨by decide +kernel, by decide +kernel⟩, List.mem_of_getElem? (i := 1053) (by decide +kernel), List.mem_of_getElem? (i := 1534) (by decide +kernel), List.mem_of_getElem? (i := 1535) (by decide +kernel)⟩
theorem lw_p117 : lw_okq (⟨"StreamForgeModel", "tellNumber", "()Z"⟩, 77) := ⟨⟨by decide +kernel, by decide +kernel⟩, List.mem_of_getElem? (i := 1053) (by decide +kernel), List.mem_of_getElem? (i := 1538) (by decide +kernel), List.mem_of_getElem? (i := 1539) (by decide +kernel)⟩
theorem lw_p118 : lw_okq (⟨"StreamForgeModel", "holds", "(I)Z"⟩, 77) := ⟨⟨by decide +kernel, by decide +kernel⟩, List.mem_of_getElem? (i := 1053) (by decide +kernel), List.mem_of_getElem? (i := 1542) (by decide +kernel), List.mem_of_getElem? (i := 1543) (by decide +kernel)⟩
def lw_privs_8 : List (MethodName × Nat) := [(⟨"StreamForgeModel", "exchanged", "(I)V"⟩, 77), (⟨"StreamForgeModel", "append", "(I)Z"⟩, 77), (⟨"StreamForgeModel", "tellText", "(I)Z"⟩, 77), (⟨"StreamForgeModel", "cut", "()I"⟩, 77), (⟨"StreamForgeModel", "nextLine", "(II)I"⟩, 77), (⟨"StreamForgeModel", "tellNumber", "()Z"⟩, 77), (⟨"StreamForgeModel", "holds", "(I)Z"⟩, 77)]
theorem lw_r8 : ∀ q ∈ lw_privs_8, lw_okq q := List.forall_mem_cons.mpr ⟨lw_p112, List.forall_mem_cons.mpr ⟨lw_p113, List.forall_mem_cons.mpr ⟨lw_p114, List.forall_mem_cons.mpr ⟨lw_p115, List.forall_mem_cons.mpr ⟨lw_p116, List.forall_mem_cons.mpr ⟨lw_p117, List.forall_mem_cons.mpr ⟨lw_p118, fun _ h => absurd h List.not_mem_nil⟩⟩⟩⟩⟩⟩⟩
def lw_privs : List (MethodName × Nat) := lw_privs_1 ++ (lw_privs_2 ++ (lw_privs_3 ++ (lw_privs_4 ++ (lw_privs_5 ++ (lw_privs_6 ++ (lw_privs_7 ++ (lw_privs_8)))))))
def lw_tbl : List Cond := k2_sels lw_privs ++ tables_1
theorem lw_privs_ok : ∀ q ∈ lw_privs, lw_okq q := by
  show ∀ q ∈ lw_privs_1 ++ (lw_privs_2 ++ (lw_privs_3 ++ (lw_privs_4 ++ (lw_privs_5 ++ (lw_privs_6 ++ (lw_privs_7 ++ (lw_privs_8))))))), lw_okq q
  exact List.forall_mem_append.mpr ⟨lw_r1, List.forall_mem_append.mpr ⟨lw_r2, List.forall_mem_append.mpr ⟨lw_r3, List.forall_mem_append.mpr ⟨lw_r4, List.forall_mem_append.mpr ⟨lw_r5, List.forall_mem_append.mpr ⟨lw_r6, List.forall_mem_append.mpr ⟨lw_r7, lw_r8⟩⟩⟩⟩⟩⟩⟩
-- ===== end of PART A; then your names; then what follows =====
end
section
def zT : List Cond := lw_tbl.filter goodWord
theorem z_m {w : Cond} (i : Nat) (h : lw_tbl[i]? = some w) (g : goodWord w = true) : w ∈ zT := List.mem_filter.mpr ⟨List.mem_of_getElem? h, g⟩
theorem z_ms {ws : List Cond} (ps : List Nat) (hp : ws = ps.filterMap (fun i => lw_tbl[i]?)) (hg : ws.all goodWord = true) : ∀ w ∈ ws, w ∈ zT := by
  intro w hw
  have h1 := List.all_eq_true.mp hg w hw
  rw [hp] at hw
  obtain ⟨i, -, hi⟩ := List.mem_filterMap.mp hw
  exact z_m i hi h1
theorem z_good {w : Cond} (h : w ∈ zT) : (w.onTables && w.keeps) = true ∨ ∃ ty, w = .arrayClass ty := good_of_word (List.mem_filter.mp h).2
theorem z_zin {w : Cond} (h : w ∈ zT) : w ∈ lw_tbl := (List.mem_filter.mp h).1
def R_Addr : String := "StreamForge$Address"
def T_Addr : u_T := fun k => match k with
  | 0 => ("StreamForge$Address", "pattern", "LStreamForge$Pattern;", true)
  | 1 => ("StreamForge$Address", "kind", "I", false)
  | _ => ("StreamForge$Address", "number", "I", false)
def t_Addr : Nat → FieldType := fun k => match k with
  | 0 => .object "StreamForge$Pattern"
  | 1 => .int
  | _ => .int
theorem n_Addr : ∀ a, a < 3 → ∀ b, b < 3 → a ≠ b → (T_Addr a).2.1 ≠ (T_Addr b).2.1 := by decide +kernel
theorem t_Addr_ok : ∀ k, k < 3 → parseFieldDescriptor (T_Addr k).2.2.1 = some (t_Addr k) := by decide +kernel
theorem i_Addr : ∀ w ∈ u_ws R_Addr T_Addr 3, w ∈ zT := z_ms [445, 447, 449] (by decide +kernel) (by decide +kernel)
def R_Cmd : String := "StreamForge$Command"
def T_Cmd : u_T := fun k => match k with
  | 0 => ("StreamForge$Command", "first", "LStreamForge$Address;", true)
  | 1 => ("StreamForge$Command", "second", "LStreamForge$Address;", true)
  | 2 => ("StreamForge$Command", "pattern", "LStreamForge$Pattern;", true)
  | 3 => ("StreamForge$Command", "kind", "I", false)
  | 4 => ("StreamForge$Command", "at", "I", false)
  | 5 => ("StreamForge$Command", "addresses", "I", false)
  | 6 => ("StreamForge$Command", "inverted", "Z", false)
  | 7 => ("StreamForge$Command", "target", "I", false)
  | 8 => ("StreamForge$Command", "label", "I", false)
  | 9 => ("StreamForge$Command", "textFrom", "I", false)
  | 10 => ("StreamForge$Command", "textTo", "I", false)
  | 11 => ("StreamForge$Command", "counterpart", "I", false)
  | 12 => ("StreamForge$Command", "all", "Z", false)
  | 13 => ("StreamForge$Command", "print", "Z", false)
  | 14 => ("StreamForge$Command", "digit", "I", false)
  | _ => ("StreamForge$Command", "inRange", "Z", false)
def t_Cmd : Nat → FieldType := fun k => match k with
  | 0 => .object "StreamForge$Address"
  | 1 => .object "StreamForge$Address"
  | 2 => .object "StreamForge$Pattern"
  | 3 => .int
  | 4 => .int
  | 5 => .int
  | 6 => .boolean
  | 7 => .int
  | 8 => .int
  | 9 => .int
  | 10 => .int
  | 11 => .int
  | 12 => .boolean
  | 13 => .boolean
  | 14 => .int
  | _ => .boolean
theorem n_Cmd : ∀ a, a < 16 → ∀ b, b < 16 → a ≠ b → (T_Cmd a).2.1 ≠ (T_Cmd b).2.1 := by decide +kernel
theorem t_Cmd_ok : ∀ k, k < 16 → parseFieldDescriptor (T_Cmd k).2.2.1 = some (t_Cmd k) := by decide +kernel
theorem i_Cmd : ∀ w ∈ u_ws R_Cmd T_Cmd 16, w ∈ zT := z_ms [493, 495, 497, 499, 501, 503, 505, 507, 509, 511, 513, 515, 517, 519, 521, 523] (by decide +kernel) (by decide +kernel)
def R_Cur : String := "StreamForge$Cursor"
def T_Cur : u_T := fun k => match k with
  | 0 => ("StreamForge$Cursor", "text", "LStreamForge$Row;", false)
  | 1 => ("StreamForge$Cursor", "at", "I", false)
  | _ => ("StreamForge$Cursor", "refusedAt", "I", false)
def t_Cur : Nat → FieldType := fun k => match k with
  | 0 => .object "StreamForge$Row"
  | 1 => .int
  | _ => .int
theorem n_Cur : ∀ a, a < 3 → ∀ b, b < 3 → a ≠ b → (T_Cur a).2.1 ≠ (T_Cur b).2.1 := by decide +kernel
theorem t_Cur_ok : ∀ k, k < 3 → parseFieldDescriptor (T_Cur k).2.2.1 = some (t_Cur k) := by decide +kernel
theorem i_Cur : ∀ w ∈ u_ws R_Cur T_Cur 3, w ∈ zT := z_ms [191, 193, 195] (by decide +kernel) (by decide +kernel)
def R_Ed : String := "StreamForge$Editor"
def T_Ed : u_T := fun k => match k with
  | 0 => ("StreamForge$Editor", "output", "LStreamForge$Row;", true)
  | 1 => ("StreamForge$Editor", "space", "LStreamForge$Row;", false)
  | 2 => ("StreamForge$Editor", "hold", "LStreamForge$Row;", false)
  | 3 => ("StreamForge$Editor", "linesRead", "I", false)
  | 4 => ("StreamForge$Editor", "begun", "I", false)
  | 5 => ("StreamForge$Editor", "cycles", "I", false)
  | 6 => ("StreamForge$Editor", "replacements", "I", false)
  | 7 => ("StreamForge$Editor", "appended", "LStreamForge$Row;", true)
  | 8 => ("StreamForge$Editor", "matcher", "LStreamForge$Matcher;", true)
  | 9 => ("StreamForge$Editor", "draft", "LStreamForge$Row;", false)
  | 10 => ("StreamForge$Editor", "program", "LStreamForge$Program;", false)
  | 11 => ("StreamForge$Editor", "lines", "[LStreamForge$Row;", false)
  | 12 => ("StreamForge$Editor", "lineCount", "I", false)
  | 13 => ("StreamForge$Editor", "next", "I", false)
  | 14 => ("StreamForge$Editor", "over", "Z", false)
  | 15 => ("StreamForge$Editor", "replaced", "Z", false)
  | _ => ("StreamForge$Editor", "rangeEnds", "Z", false)
def t_Ed : Nat → FieldType := fun k => match k with
  | 0 => .object "StreamForge$Row"
  | 1 => .object "StreamForge$Row"
  | 2 => .object "StreamForge$Row"
  | 3 => .int
  | 4 => .int
  | 5 => .int
  | 6 => .int
  | 7 => .object "StreamForge$Row"
  | 8 => .object "StreamForge$Matcher"
  | 9 => .object "StreamForge$Row"
  | 10 => .object "StreamForge$Program"
  | 11 => .array (.object "StreamForge$Row")
  | 12 => .int
  | 13 => .int
  | 14 => .boolean
  | 15 => .boolean
  | _ => .boolean
theorem n_Ed : ∀ a, a < 17 → ∀ b, b < 17 → a ≠ b → (T_Ed a).2.1 ≠ (T_Ed b).2.1 := by decide +kernel
theorem t_Ed_ok : ∀ k, k < 17 → parseFieldDescriptor (T_Ed k).2.2.1 = some (t_Ed k) := by decide +kernel
theorem i_Ed : ∀ w ∈ u_ws R_Ed T_Ed 17, w ∈ zT := z_ms [317, 319, 321, 323, 325, 327, 329, 331, 333, 335, 337, 339, 341, 343, 345, 347, 349] (by decide +kernel) (by decide +kernel)
def R_It : String := "StreamForge$Items"
def T_It : u_T := fun k => match k with
  | 0 => ("StreamForge$Items", "kind", "[I", true)
  | 1 => ("StreamForge$Items", "group", "[I", true)
  | 2 => ("StreamForge$Items", "low", "[J", true)
  | 3 => ("StreamForge$Items", "high", "[J", true)
  | _ => ("StreamForge$Items", "size", "I", false)
def t_It : Nat → FieldType := fun k => match k with
  | 0 => .array (.int)
  | 1 => .array (.int)
  | 2 => .array (.long)
  | 3 => .array (.long)
  | _ => .int
theorem n_It : ∀ a, a < 5 → ∀ b, b < 5 → a ≠ b → (T_It a).2.1 ≠ (T_It b).2.1 := by decide +kernel
theorem t_It_ok : ∀ k, k < 5 → parseFieldDescriptor (T_It k).2.2.1 = some (t_It k) := by decide +kernel
theorem i_It : ∀ w ∈ u_ws R_It T_It 5, w ∈ zT := z_ms [377, 379, 381, 383, 385] (by decide +kernel) (by decide +kernel)
def R_Ma : String := "StreamForge$Matcher"
def T_Ma : u_T := fun k => match k with
  | 0 => ("StreamForge$Matcher", "begin", "I", false)
  | 1 => ("StreamForge$Matcher", "end", "I", false)
  | 2 => ("StreamForge$Matcher", "items", "LStreamForge$Items;", false)
  | 3 => ("StreamForge$Matcher", "pattern", "LStreamForge$Pattern;", false)
  | 4 => ("StreamForge$Matcher", "text", "LStreamForge$Row;", false)
  | 5 => ("StreamForge$Matcher", "groupBegin", "[I", true)
  | 6 => ("StreamForge$Matcher", "groupEnd", "[I", true)
  | 7 => ("StreamForge$Matcher", "triedBegin", "[I", true)
  | _ => ("StreamForge$Matcher", "triedEnd", "[I", true)
def t_Ma : Nat → FieldType := fun k => match k with
  | 0 => .int
  | 1 => .int
  | 2 => .object "StreamForge$Items"
  | 3 => .object "StreamForge$Pattern"
  | 4 => .object "StreamForge$Row"
  | 5 => .array (.int)
  | 6 => .array (.int)
  | 7 => .array (.int)
  | _ => .array (.int)
theorem n_Ma : ∀ a, a < 9 → ∀ b, b < 9 → a ≠ b → (T_Ma a).2.1 ≠ (T_Ma b).2.1 := by decide +kernel
theorem t_Ma_ok : ∀ k, k < 9 → parseFieldDescriptor (T_Ma k).2.2.1 = some (t_Ma k) := by decide +kernel
theorem i_Ma : ∀ w ∈ u_ws R_Ma T_Ma 9, w ∈ zT := z_ms [274, 276, 278, 280, 282, 284, 286, 288, 290] (by decide +kernel) (by decide +kernel)
def R_Pa : String := "StreamForge$Parser"
def T_Pa : u_T := fun k => match k with
  | 0 => ("StreamForge$Parser", "cursor", "LStreamForge$Cursor;", true)
  | 1 => ("StreamForge$Parser", "patterns", "LStreamForge$PatternReader;", true)
  | 2 => ("StreamForge$Parser", "openBlocks", "[I", true)
  | 3 => ("StreamForge$Parser", "behindLabel", "[I", true)
  | 4 => ("StreamForge$Parser", "depth", "I", false)
  | 5 => ("StreamForge$Parser", "program", "LStreamForge$Program;", false)
  | _ => ("StreamForge$Parser", "command", "LStreamForge$Command;", false)
def t_Pa : Nat → FieldType := fun k => match k with
  | 0 => .object "StreamForge$Cursor"
  | 1 => .object "StreamForge$PatternReader"
  | 2 => .array (.int)
  | 3 => .array (.int)
  | 4 => .int
  | 5 => .object "StreamForge$Program"
  | _ => .object "StreamForge$Command"
theorem n_Pa : ∀ a, a < 7 → ∀ b, b < 7 → a ≠ b → (T_Pa a).2.1 ≠ (T_Pa b).2.1 := by decide +kernel
theorem t_Pa_ok : ∀ k, k < 7 → parseFieldDescriptor (T_Pa k).2.2.1 = some (t_Pa k) := by decide +kernel
theorem i_Pa : ∀ w ∈ u_ws R_Pa T_Pa 7, w ∈ zT := z_ms [233, 235, 237, 239, 241, 243, 245] (by decide +kernel) (by decide +kernel)
def R_Pt : String := "StreamForge$Pattern"
def T_Pt : u_T := fun k => match k with
  | 0 => ("StreamForge$Pattern", "atBeginning", "Z", false)
  | 1 => ("StreamForge$Pattern", "atEnd", "Z", false)
  | 2 => ("StreamForge$Pattern", "from", "I", false)
  | 3 => ("StreamForge$Pattern", "to", "I", false)
  | 4 => ("StreamForge$Pattern", "firstStar", "I", false)
  | 5 => ("StreamForge$Pattern", "secondStar", "I", false)
  | _ => ("StreamForge$Pattern", "groups", "I", false)
def t_Pt : Nat → FieldType := fun k => match k with
  | 0 => .boolean
  | 1 => .boolean
  | 2 => .int
  | 3 => .int
  | 4 => .int
  | 5 => .int
  | _ => .int
theorem n_Pt : ∀ a, a < 7 → ∀ b, b < 7 → a ≠ b → (T_Pt a).2.1 ≠ (T_Pt b).2.1 := by decide +kernel
theorem t_Pt_ok : ∀ k, k < 7 → parseFieldDescriptor (T_Pt k).2.2.1 = some (t_Pt k) := by decide +kernel
theorem i_Pt : ∀ w ∈ u_ws R_Pt T_Pt 7, w ∈ zT := z_ms [423, 425, 427, 429, 431, 433, 435] (by decide +kernel) (by decide +kernel)
def R_Pr : String := "StreamForge$PatternReader"
def T_Pr : u_T := fun k => match k with
  | 0 => ("StreamForge$PatternReader", "cursor", "LStreamForge$Cursor;", true)
  | 1 => ("StreamForge$PatternReader", "items", "LStreamForge$Items;", false)
  | 2 => ("StreamForge$PatternReader", "pattern", "LStreamForge$Pattern;", false)
  | 3 => ("StreamForge$PatternReader", "itemCount", "I", false)
  | 4 => ("StreamForge$PatternReader", "starCount", "I", false)
  | 5 => ("StreamForge$PatternReader", "groupOpen", "Z", false)
  | _ => ("StreamForge$PatternReader", "repeatable", "Z", false)
def t_Pr : Nat → FieldType := fun k => match k with
  | 0 => .object "StreamForge$Cursor"
  | 1 => .object "StreamForge$Items"
  | 2 => .object "StreamForge$Pattern"
  | 3 => .int
  | 4 => .int
  | 5 => .boolean
  | _ => .boolean
theorem n_Pr : ∀ a, a < 7 → ∀ b, b < 7 → a ≠ b → (T_Pr a).2.1 ≠ (T_Pr b).2.1 := by decide +kernel
theorem t_Pr_ok : ∀ k, k < 7 → parseFieldDescriptor (T_Pr k).2.2.1 = some (t_Pr k) := by decide +kernel
theorem i_Pr : ∀ w ∈ u_ws R_Pr T_Pr 7, w ∈ zT := z_ms [211, 213, 215, 217, 219, 221, 223] (by decide +kernel) (by decide +kernel)
def R_Prog : String := "StreamForge$Program"
def T_Prog : u_T := fun k => match k with
  | 0 => ("StreamForge$Program", "text", "LStreamForge$Row;", true)
  | 1 => ("StreamForge$Program", "items", "LStreamForge$Items;", true)
  | 2 => ("StreamForge$Program", "commands", "[LStreamForge$Command;", true)
  | _ => ("StreamForge$Program", "size", "I", false)
def t_Prog : Nat → FieldType := fun k => match k with
  | 0 => .object "StreamForge$Row"
  | 1 => .object "StreamForge$Items"
  | 2 => .array (.object "StreamForge$Command")
  | _ => .int
theorem n_Prog : ∀ a, a < 4 → ∀ b, b < 4 → a ≠ b → (T_Prog a).2.1 ≠ (T_Prog b).2.1 := by decide +kernel
theorem t_Prog_ok : ∀ k, k < 4 → parseFieldDescriptor (T_Prog k).2.2.1 = some (t_Prog k) := by decide +kernel
theorem i_Prog : ∀ w ∈ u_ws R_Prog T_Prog 4, w ∈ zT := z_ms [540, 542, 544, 546] (by decide +kernel) (by decide +kernel)
def R_Row : String := "StreamForge$Row"
def T_Row : u_T := fun k => match k with
  | 0 => ("StreamForge$Row", "chars", "[C", true)
  | _ => ("StreamForge$Row", "length", "I", false)
def t_Row : Nat → FieldType := fun k => match k with
  | 0 => .array (.char)
  | _ => .int
theorem n_Row : ∀ a, a < 2 → ∀ b, b < 2 → a ≠ b → (T_Row a).2.1 ≠ (T_Row b).2.1 := by decide +kernel
theorem t_Row_ok : ∀ k, k < 2 → parseFieldDescriptor (T_Row k).2.2.1 = some (t_Row k) := by decide +kernel
theorem i_Row : ∀ w ∈ u_ws R_Row T_Row 2, w ∈ zT := z_ms [165, 167] (by decide +kernel) (by decide +kernel)
def R_SF : String := "StreamForge"
def T_SF : u_T := fun k => match k with
  | 0 => ("StreamForge", "script", "LStreamForge$Row;", true)
  | 1 => ("StreamForge", "lines", "[LStreamForge$Row;", true)
  | 2 => ("StreamForge", "parser", "LStreamForge$Parser;", true)
  | 3 => ("StreamForge", "editor", "LStreamForge$Editor;", true)
  | 4 => ("StreamForge", "matcher", "LStreamForge$Matcher;", true)
  | 5 => ("StreamForge", "lineCount", "I", false)
  | 6 => ("StreamForge", "program", "LStreamForge$Program;", false)
  | 7 => ("StreamForge", "spare", "LStreamForge$Program;", false)
  | 8 => ("StreamForge", "parsed", "Z", false)
  | _ => ("StreamForge", "refusedAt", "I", false)
def t_SF : Nat → FieldType := fun k => match k with
  | 0 => .object "StreamForge$Row"
  | 1 => .array (.object "StreamForge$Row")
  | 2 => .object "StreamForge$Parser"
  | 3 => .object "StreamForge$Editor"
  | 4 => .object "StreamForge$Matcher"
  | 5 => .int
  | 6 => .object "StreamForge$Program"
  | 7 => .object "StreamForge$Program"
  | 8 => .boolean
  | _ => .int
theorem n_SF : ∀ a, a < 10 → ∀ b, b < 10 → a ≠ b → (T_SF a).2.1 ≠ (T_SF b).2.1 := by decide +kernel
theorem t_SF_ok : ∀ k, k < 10 → parseFieldDescriptor (T_SF k).2.2.1 = some (t_SF k) := by decide +kernel
theorem i_SF : ∀ w ∈ u_ws R_SF T_SF 10, w ∈ zT := z_ms [559, 561, 563, 565, 567, 569, 571, 573, 575, 577] (by decide +kernel) (by decide +kernel)
def R_Mod : String := "StreamForgeModel"
def T_Mod : u_T := fun k => match k with
  | 0 => ("StreamForgeModel", "text", "[I", true)
  | 1 => ("StreamForgeModel", "lineLength", "[I", true)
  | 2 => ("StreamForgeModel", "lines", "[I", true)
  | 3 => ("StreamForgeModel", "length", "I", false)
  | 4 => ("StreamForgeModel", "lineMany", "I", false)
  | 5 => ("StreamForgeModel", "where", "I", false)
  | 6 => ("StreamForgeModel", "thrown", "I", false)
  | 7 => ("StreamForgeModel", "live", "I", false)
  | 8 => ("StreamForgeModel", "parsed", "Z", false)
  | 9 => ("StreamForgeModel", "name", "[I", true)
  | 10 => ("StreamForgeModel", "one", "[I", true)
  | 11 => ("StreamForgeModel", "oneValue", "[I", true)
  | 12 => ("StreamForgeModel", "two", "[I", true)
  | 13 => ("StreamForgeModel", "twoValue", "[I", true)
  | 14 => ("StreamForgeModel", "pattern", "[I", true)
  | 15 => ("StreamForgeModel", "from", "[I", true)
  | 16 => ("StreamForgeModel", "to", "[I", true)
  | 17 => ("StreamForgeModel", "more", "[I", true)
  | 18 => ("StreamForgeModel", "goal", "[I", true)
  | 19 => ("StreamForgeModel", "which", "[I", true)
  | 20 => ("StreamForgeModel", "placeOf", "[I", true)
  | 21 => ("StreamForgeModel", "not", "[Z", true)
  | 22 => ("StreamForgeModel", "all", "[Z", true)
  | 23 => ("StreamForgeModel", "tells", "[Z", true)
  | 24 => ("StreamForgeModel", "commands", "[I", true)
  | 25 => ("StreamForgeModel", "patterns", "[I", true)
  | 26 => ("StreamForgeModel", "items", "[I", true)
  | 27 => ("StreamForgeModel", "chars", "[I", true)
  | 28 => ("StreamForgeModel", "itemFrom", "[I", true)
  | 29 => ("StreamForgeModel", "itemEnd", "[I", true)
  | 30 => ("StreamForgeModel", "groups", "[I", true)
  | 31 => ("StreamForgeModel", "item", "[I", true)
  | 32 => ("StreamForgeModel", "value", "[I", true)
  | 33 => ("StreamForgeModel", "store", "[I", true)
  | 34 => ("StreamForgeModel", "starred", "[Z", true)
  | 35 => ("StreamForgeModel", "atBegin", "[Z", true)
  | 36 => ("StreamForgeModel", "atEnd", "[Z", true)
  | 37 => ("StreamForgeModel", "low", "[J", true)
  | 38 => ("StreamForgeModel", "high", "[J", true)
  | 39 => ("StreamForgeModel", "labels", "[I", true)
  | 40 => ("StreamForgeModel", "open", "[I", true)
  | 41 => ("StreamForgeModel", "at", "I", false)
  | 42 => ("StreamForgeModel", "half", "I", false)
  | 43 => ("StreamForgeModel", "deep", "I", false)
  | 44 => ("StreamForgeModel", "group", "I", false)
  | 45 => ("StreamForgeModel", "stars", "I", false)
  | 46 => ("StreamForgeModel", "counted", "I", false)
  | 47 => ("StreamForgeModel", "number", "I", false)
  | 48 => ("StreamForgeModel", "bad", "Z", false)
  | 49 => ("StreamForgeModel", "inGroup", "Z", false)
  | 50 => ("StreamForgeModel", "may", "Z", false)
  | 51 => ("StreamForgeModel", "subject", "[I", true)
  | 52 => ("StreamForgeModel", "groupFrom", "[I", true)
  | 53 => ("StreamForgeModel", "groupLong", "[I", true)
  | 54 => ("StreamForgeModel", "subjectLong", "I", false)
  | 55 => ("StreamForgeModel", "stuck", "I", false)
  | 56 => ("StreamForgeModel", "foundAt", "I", false)
  | 57 => ("StreamForgeModel", "foundEnd", "I", false)
  | 58 => ("StreamForgeModel", "space", "[I", true)
  | 59 => ("StreamForgeModel", "hold", "[I", true)
  | 60 => ("StreamForgeModel", "work", "[I", true)
  | 61 => ("StreamForgeModel", "appended", "[I", true)
  | 62 => ("StreamForgeModel", "out", "[I", true)
  | 63 => ("StreamForgeModel", "began", "[I", true)
  | 64 => ("StreamForgeModel", "active", "[Z", true)
  | 65 => ("StreamForgeModel", "spaceLong", "I", false)
  | 66 => ("StreamForgeModel", "holdLong", "I", false)
  | 67 => ("StreamForgeModel", "workLong", "I", false)
  | 68 => ("StreamForgeModel", "appendedLong", "I", false)
  | 69 => ("StreamForgeModel", "outLong", "I", false)
  | 70 => ("StreamForgeModel", "read", "I", false)
  | 71 => ("StreamForgeModel", "begun", "I", false)
  | 72 => ("StreamForgeModel", "cycles", "I", false)
  | 73 => ("StreamForgeModel", "replaced", "I", false)
  | 74 => ("StreamForgeModel", "some", "Z", false)
  | 75 => ("StreamForgeModel", "ended", "Z", false)
  | _ => ("StreamForgeModel", "over", "Z", false)
def t_Mod : Nat → FieldType := fun k => match k with
  | 0 => .array (.int)
  | 1 => .array (.int)
  | 2 => .array (.int)
  | 3 => .int
  | 4 => .int
  | 5 => .int
  | 6 => .int
  | 7 => .int
  | 8 => .boolean
  | 9 => .array (.int)
  | 10 => .array (.int)
  | 11 => .array (.int)
  | 12 => .array (.int)
  | 13 => .array (.int)
  | 14 => .array (.int)
  | 15 => .array (.int)
  | 16 => .array (.int)
  | 17 => .array (.int)
  | 18 => .array (.int)
  | 19 => .array (.int)
  | 20 => .array (.int)
  | 21 => .array (.boolean)
  | 22 => .array (.boolean)
  | 23 => .array (.boolean)
  | 24 => .array (.int)
  | 25 => .array (.int)
  | 26 => .array (.int)
  | 27 => .array (.int)
  | 28 => .array (.int)
  | 29 => .array (.int)
  | 30 => .array (.int)
  | 31 => .array (.int)
  | 32 => .array (.int)
  | 33 => .array (.int)
  | 34 => .array (.boolean)
  | 35 => .array (.boolean)
  | 36 => .array (.boolean)
  | 37 => .array (.long)
  | 38 => .array (.long)
  | 39 => .array (.int)
  | 40 => .array (.int)
  | 41 => .int
  | 42 => .int
  | 43 => .int
  | 44 => .int
  | 45 => .int
  | 46 => .int
  | 47 => .int
  | 48 => .boolean
  | 49 => .boolean
  | 50 => .boolean
  | 51 => .array (.int)
  | 52 => .array (.int)
  | 53 => .array (.int)
  | 54 => .int
  | 55 => .int
  | 56 => .int
  | 57 => .int
  | 58 => .array (.int)
  | 59 => .array (.int)
  | 60 => .array (.int)
  | 61 => .array (.int)
  | 62 => .array (.int)
  | 63 => .array (.int)
  | 64 => .array (.boolean)
  | 65 => .int
  | 66 => .int
  | 67 => .int
  | 68 => .int
  | 69 => .int
  | 70 => .int
  | 71 => .int
  | 72 => .int
  | 73 => .int
  | 74 => .boolean
  | 75 => .boolean
  | _ => .boolean
theorem n_Mod : ∀ a, a < 77 → ∀ b, b < 77 → a ≠ b → (T_Mod a).2.1 ≠ (T_Mod b).2.1 := by decide +kernel
theorem t_Mod_ok : ∀ k, k < 77 → parseFieldDescriptor (T_Mod k).2.2.1 = some (t_Mod k) := by decide +kernel
theorem i_Mod : ∀ w ∈ u_ws R_Mod T_Mod 77, w ∈ zT := z_ms [1254, 1256, 1258, 1260, 1262, 1264, 1266, 1268, 1270, 1272, 1274, 1276, 1278, 1280, 1282, 1284, 1286, 1288, 1290, 1292, 1294, 1296, 1298, 1300, 1302, 1304, 1306, 1308, 1310, 1312, 1314, 1316, 1318, 1320, 1322, 1324, 1326, 1328, 1330, 1332, 1334, 1336, 1338, 1340, 1342, 1344, 1346, 1348, 1350, 1352, 1354, 1356, 1358, 1360, 1362, 1364, 1366, 1368, 1370, 1372, 1374, 1376, 1378, 1380, 1382, 1384, 1386, 1388, 1390, 1392, 1394, 1396, 1398, 1400, 1402, 1404, 1406] (by decide +kernel) (by decide +kernel)
abbrev zcl : List vw_C := [(R_Addr, T_Addr, 3), (R_Cmd, T_Cmd, 16), (R_Cur, T_Cur, 3), (R_Ed, T_Ed, 17), (R_It, T_It, 5), (R_Ma, T_Ma, 9), (R_Pa, T_Pa, 7), (R_Pt, T_Pt, 7), (R_Pr, T_Pr, 7), (R_Prog, T_Prog, 4), (R_Row, T_Row, 2), (R_SF, T_SF, 10), (R_Mod, T_Mod, 77)]
abbrev z_ty (dA : Nat → ClassId) : List (ClassId × FieldType) := [(dA 0, .int), (dA 1, .char), (dA 2, .long), (dA 3, .boolean), (dA 4, .object "StreamForge$Row"), (dA 5, .object "StreamForge$Command")]
end
section
/-! abstract heaps: an address holds an array (its type's number, its contents) or an object (its class's number, its fields) -/
abbrev z_E : Type := (Nat × vp_A) ⊕ (Nat × List Value)
abbrev z_H : Type := Nat → Option z_E
def z_cv (dA : Nat → ClassId) (e : Option z_E) : va_E := match e with
  | some (.inl a) => .inl (dA a.1, a.2)
  | some (.inr o) => .inr o
  | none => .inl (0, (0, .inl fun _ => 0))
def z_up (h : z_H) (a : Nat) (e : z_E) : z_H := fun q => if q = a then some e else h q
def z_b {α β : Type} (o : Option α) (f : α → Option β) : Option β := match o with
  | some x => f x
  | none => none
theorem z_bs {α β : Type} {o : Option α} {f : α → Option β} {r : β} (h : z_b o f = some r) : ∃ x, o = some x ∧ f x = some r := by
  cases o with
  | none => cases h
  | some x => exact ⟨x, rfl, h⟩
theorem z_b_some {α β : Type} (x : α) (f : α → Option β) : z_b (some x) f = f x := rfl
def zB (x : Int32) : Option Int32 := if x = 0 ∨ x = 1 then some x else none
theorem zB_s {x y : Int32} (h : zB x = some y) : x = y ∧ (x = 0 ∨ x = 1) := by
  unfold zB at h
  split at h
  · next q => exact ⟨Option.some.inj h, q⟩
  · cases h
/-- fields -/
def gF (h : z_H) (a ci k : Nat) : Option Value := match h a with
  | some (.inr o) => if o.1 = ci then o.2[k]? else none
  | _ => none
def gI (h : z_H) (a ci k : Nat) : Option Int32 := match gF h a ci k with
  | some (.int x) => some x
  | _ => none
def gR (h : z_H) (a ci k : Nat) : Option Nat := match gF h a ci k with
  | some (.ref x) => some x
  | _ => none
def sF (h : z_H) (a ci k : Nat) (v : Value) : Option z_H := match h a with
  | some (.inr o) => if o.1 = ci ∧ k < o.2.length then some (z_up h a (.inr (ci, o.2.set k v))) else none
  | _ => none
theorem gF_s {h : z_H} {a ci k : Nat} {v : Value} (e : gF h a ci k = some v) : ∃ fs, h a = some (.inr (ci, fs)) ∧ fs[k]? = some v := by
  unfold gF at e
  split at e
  · next o ho =>
    split at e
    · next q => exact ⟨o.2, by rw [ho, ← q], e⟩
    · cases e
  · cases e
theorem gI_s {h : z_H} {a ci k : Nat} {x : Int32} (e : gI h a ci k = some x) : ∃ fs, h a = some (.inr (ci, fs)) ∧ fs[k]? = some (.int x) := by
  unfold gI at e
  split at e
  · next y hy => cases e; exact gF_s hy
  · cases e
theorem gR_s {h : z_H} {a ci k : Nat} {x : Nat} (e : gR h a ci k = some x) : ∃ fs, h a = some (.inr (ci, fs)) ∧ fs[k]? = some (.ref x) := by
  unfold gR at e
  split at e
  · next y hy => cases e; exact gF_s hy
  · cases e
theorem sF_s {h h' : z_H} {a ci k : Nat} {v : Value} (e : sF h a ci k v = some h') : ∃ fs, h a = some (.inr (ci, fs)) ∧ k < fs.length ∧ h' = z_up h a (.inr (ci, fs.set k v)) := by
  unfold sF at e
  split at e
  · next o ho =>
    split at e
    · next q => cases e; exact ⟨o.2, by rw [ho, ← q.1], q.2, rfl⟩
    · cases e
  · cases e
/-- arrays -/
def aN (h : z_H) (a : Nat) : Option Int32 := match h a with
  | some (.inl x) => if x.1 < 6 then some (Int32.ofNat x.2.1) else none
  | _ => none
def aI (h : z_H) (a t : Nat) (i : Int32) : Option Int32 := match h a with
  | some (.inl (t', n, .inl f)) => if t' = t ∧ ¬ (i < 0 ∨ n ≤ i.toNatClampNeg) then some (f i.toNatClampNeg) else none
  | _ => none
def aL (h : z_H) (a : Nat) (i : Int32) : Option Int64 := match h a with
  | some (.inl (t', n, .inr (.inl f))) => if t' = 2 ∧ ¬ (i < 0 ∨ n ≤ i.toNatClampNeg) then some (f i.toNatClampNeg) else none
  | _ => none
def aR (h : z_H) (a t : Nat) (i : Int32) : Option Nat := match h a with
  | some (.inl (t', n, .inr (.inr (.inr (.inr f))))) => if t' = t ∧ ¬ (i < 0 ∨ n ≤ i.toNatClampNeg) then f i.toNatClampNeg else none
  | _ => none
def uI (h : z_H) (a t : Nat) (i x : Int32) : Option z_H := match h a with
  | some (.inl (t', n, .inl f)) => if t' = t ∧ ¬ (i < 0 ∨ n ≤ i.toNatClampNeg) then some (z_up h a (.inl (t, n, .inl (upd f i.toNatClampNeg x)))) else none
  | _ => none
def uL (h : z_H) (a : Nat) (i : Int32) (x : Int64) : Option z_H := match h a with
  | some (.inl (t', n, .inr (.inl f))) => if t' = 2 ∧ ¬ (i < 0 ∨ n ≤ i.toNatClampNeg) then some (z_up h a (.inl (2, n, .inr (.inl (vp_updL f i.toNatClampNeg x))))) else none
  | _ => none
theorem aN_s {h : z_H} {a : Nat} {r : Int32} (e : aN h a = some r) : ∃ x : Nat × vp_A, h a = some (.inl x) ∧ x.1 < 6 ∧ r = Int32.ofNat x.2.1 := by
  unfold aN at e
  split at e
  · next x hx =>
    split at e
    · next q => cases e; exact ⟨x, hx, q, rfl⟩
    · cases e
  · cases e
theorem aI_s {h : z_H} {a t : Nat} {i x : Int32} (e : aI h a t i = some x) : ∃ n f, h a = some (.inl (t, n, .inl f)) ∧ vp_in i n ∧ x = f i.toNatClampNeg := by
  unfold aI at e
  split at e
  · next t' n f hx =>
    split at e
    · next q => cases e; exact ⟨n, f, by rw [hx, q.1], q.2, rfl⟩
    · cases e
  · cases e
theorem aL_s {h : z_H} {a : Nat} {i : Int32} {x : Int64} (e : aL h a i = some x) : ∃ n f, h a = some (.inl (2, n, .inr (.inl f))) ∧ vp_in i n ∧ x = f i.toNatClampNeg := by
  unfold aL at e
  split at e
  · next t' n f hx =>
    split at e
    · next q => cases e; exact ⟨n, f, by rw [hx, q.1], q.2, rfl⟩
    · cases e
  · cases e
theorem aR_s {h : z_H} {a t : Nat} {i : Int32} {x : Nat} (e : aR h a t i = some x) : ∃ n f, h a = some (.inl (t, n, .inr (.inr (.inr (.inr f))))) ∧ vp_in i n ∧ f i.toNatClampNeg = some x := by
  unfold aR at e
  split at e
  · next t' n f hx =>
    split at e
    · next q => exact ⟨n, f, by rw [hx, q.1], q.2, e⟩
    · cases e
  · cases e
theorem uI_s {h h' : z_H} {a t : Nat} {i x : Int32} (e : uI h a t i x = some h') : ∃ n f, h a = some (.inl (t, n, .inl f)) ∧ vp_in i n ∧ h' = z_up h a (.inl (t, n, .inl (upd f i.toNatClampNeg x))) := by
  unfold uI at e
  split at e
  · next t' n f hx =>
    split at e
    · next q => cases e; exact ⟨n, f, by rw [hx, q.1], q.2, rfl⟩
    · cases e
  · cases e
theorem uL_s {h h' : z_H} {a : Nat} {i : Int32} {x : Int64} (e : uL h a i x = some h') : ∃ n f, h a = some (.inl (2, n, .inr (.inl f))) ∧ vp_in i n ∧ h' = z_up h a (.inl (2, n, .inr (.inl (vp_updL f i.toNatClampNeg x)))) := by
  unfold uL at e
  split at e
  · next t' n f hx =>
    split at e
    · next q => cases e; exact ⟨n, f, by rw [hx, q.1], q.2, rfl⟩
    · cases e
  · cases e
/-! the machine's heap holds an abstract one -/
abbrev z_wl (dA : Nat → ClassId) (L : List Nat) (h : z_H) : va_W := va_pl L (fun a => z_cv dA (h a))
def z_V (D : va_G) (dA : Nat → ClassId) (B : Nat) (h : z_H) (H : Heap) : Prop := ∃ L : List Nat, va_P D zcl (z_wl dA L h) H ∧ va_D (fun q => B ≤ q) (z_wl dA L h) ∧ ∀ a : Nat, (h a).isSome = true → a ∈ L
def z_I (D : va_G) (dA : Nat → ClassId) (B : Nat) (h : z_H) (H0 H : Heap) (locs : List Loc) : Prop := z_V D dA B h H ∧ va_S (fun q => B ≤ q) H0 H locs
def z_G (D : va_G) (dA : Nat → ClassId) (B : Nat) (h : z_H) (U : State) : Prop := z_V D dA B h U.heap ∧ va_K D zcl (z_ty dA) U ∧ B ≤ U.heap.size
theorem z_V.rd {D : va_G} {dA : Nat → ClassId} {B : Nat} {h : z_H} {H : Heap} {a : Nat} {e : z_E} (hI : z_V D dA B h H) (he : h a = some e) :
    ∃ (ws : va_W) (q0 : Nat), va_P D zcl ws H ∧ va_D (fun q => B ≤ q) ws ∧ ws[q0]? = some (a, z_cv dA (some e)) ∧ (∀ (e1 : z_E) (H1 : Heap), va_P D zcl (ws.set q0 (a, z_cv dA (some e1))) H1 → va_D (fun q => B ≤ q) (ws.set q0 (a, z_cv dA (some e1))) → z_V D dA B (z_up h a e1) H1) := by
  obtain ⟨L, hP, hD, hL⟩ := hI
  have ha : a ∈ L := hL a (by rw [he]; rfl)
  obtain ⟨q0, hq⟩ := va_pl_get (X := []) (f := fun a => z_cv dA (h a)) ha
  have hq' : (z_wl dA L h)[q0]? = some (a, z_cv dA (some e)) := by
    rw [← he]
    exact hq
  refine ⟨z_wl dA L h, q0, hP, hD, hq', fun e1 H1 p1 d1 => ?_⟩
  have hs : (z_wl dA L h).set q0 (a, z_cv dA (some e1)) = z_wl dA L (z_up h a e1) := by
    have h9 := va_pl_set (A := fun q => B ≤ q) (X := []) (f := fun a => z_cv dA (h a)) (e := z_cv dA (some e1)) hD ha hq
    refine (show (z_wl dA L h).set q0 (a, z_cv dA (some e1)) = va_pl L (va_up (fun a => z_cv dA (h a)) a (z_cv dA (some e1))) from h9).trans ?_
    refine va_pl_congr (fun q => ?_)
    unfold va_up z_up
    by_cases hqa : q = a
    · simp [hqa]
    · simp [hqa]
  rw [hs] at p1 d1
  refine ⟨L, p1, d1, fun q hq9 => ?_⟩
  by_cases hqa : q = a
  · rw [hqa]; exact ha
  · refine hL q ?_
    unfold z_up at hq9
    rw [if_neg hqa] at hq9
    exact hq9
theorem z_I.rd {D : va_G} {dA : Nat → ClassId} {B : Nat} {h : z_H} {H0 H : Heap} {locs : List Loc} {a : Nat} {e : z_E} (hI : z_I D dA B h H0 H locs) (he : h a = some e) :
    ∃ (ws : va_W) (q0 : Nat), va_P D zcl ws H ∧ va_D (fun q => B ≤ q) ws ∧ va_S (fun q => B ≤ q) H0 H locs ∧ ws[q0]? = some (a, z_cv dA (some e)) ∧ (∀ (e1 : z_E) (H1 : Heap) (locs1 : List Loc), va_P D zcl (ws.set q0 (a, z_cv dA (some e1))) H1 → va_D (fun q => B ≤ q) (ws.set q0 (a, z_cv dA (some e1))) → va_S (fun q => B ≤ q) H0 H1 locs1 → z_I D dA B (z_up h a e1) H0 H1 locs1) := by
  obtain ⟨ws, q0, hP, hD, hq, hu⟩ := hI.1.rd he
  exact ⟨ws, q0, hP, hD, hI.2, hq, fun e1 H1 l1 p1 d1 s1 => ⟨hu e1 H1 p1 d1, s1⟩⟩
/-- a method's surroundings -/
def z_ws (y : MethodName) (cc : ByteArray) (n : Nat) (ret : Option FieldType) : List Cond := .code y cc n ret :: zT
def z_X (p : Program) (s : State) (m : MethodId) (args : Array Value) (meth : Method) (c : Code) (cc : ByteArray) (nL : Nat) (ret : Option FieldType) (Ts : List Cond) (own : String) (D : va_G) (dA : Nat → ClassId) (B : Nat) : Prop :=
  CallFix p m c cc nL s args Ts own ∧ (∀ w ∈ zT, w ∈ Ts) ∧ va_K D zcl (z_ty dA) s ∧ B ≤ s.heap.size ∧ meth.locks = false ∧ meth.sig.returnType = ret
section ZC
variable {p : Program} {l : Launch} {e : Env} {R : Room} {s : State} {m : MethodId} {args : Array Value} {below : List Frame} {meth : Method} {c : Code} {H : Heap} {locs : List Loc} {cells slots : Nat} {Q : State → Prop}
variable {cc : ByteArray} {pc nL : Nat} {ret : Option FieldType} {ls : Array Slot} {rest : List Value} {Ts : List Cond} {own : String} {D : va_G} {dA : Nat → ClassId} {B a : Nat} {h : z_H} {H0 : Heap}
theorem z_hx (X : z_X p s m args meth c cc nL ret Ts own D dA B) : p.tables.exec = Jvm.exec := X.1.1
theorem z_hb (X : z_X p s m args meth c cc nL ret Ts own D dA B) : c.code = cc := X.1.2.1
theorem z_w (X : z_X p s m args meth c cc nL ret Ts own D dA B) {w : Cond} (h : w ∈ zT) : w.before args s = true := X.1.2.2.2.2 w (X.2.1 w h)
theorem z_getF (X : z_X p s m args meth c cc nL ret Ts own D dA B) (hI : z_I D dA B h H0 H locs) {ci k N index : Nat} {C : String} {T : u_T} {v : Value} (hv : ∃ fs, h a = some (.inr (ci, fs)) ∧ fs[k]? = some v) (hin : ∀ w ∈ u_ws C T N, w ∈ zT) (hc : zcl[ci]? = some (C, T, N)) (hk : k < N) (hl : Cond.fieldLink own index (T k).1 (T k).2.1 (T k).2.2.1 ∈ zT) (hdg : decode cc pc = .ok (.getfield index, 3))
    (kk : W p l e R s m args below meth c H locs cells slots Q (F0 m (pc + 3) ls (v :: rest))) : W p l e R s m args below meth c H locs cells slots Q (F0 m pc ls (.ref a :: rest)) := by
  obtain ⟨fs, he, hf⟩ := hv
  obtain ⟨ws, q0, hP, hD, hS, hq, -⟩ := hI.rd he
  exact va_get (z_hx X) (z_hb X) (Ts := Ts) X.1.2.2.2.2 (fun w hw => X.2.1 w (hin w hw)) X.1.2.2.2.1 X.2.2.1 hP q0 hq hc k hk (z_w X hl) (fun _ h9 => h9) hf hdg kk
theorem z_putF (X : z_X p s m args meth c cc nL ret Ts own D dA B) (hI : z_I D dA B h H0 H locs) {ci k N index : Nat} {C : String} {T : u_T} {ty0 : Nat → FieldType} {v : Value} {h1 : z_H} (hv : sF h a ci k v = some h1) (hin : ∀ w ∈ u_ws C T N, w ∈ zT) (hty : ∀ k, k < N → parseFieldDescriptor (T k).2.2.1 = some (ty0 k)) (hnm : ∀ a, a < N → ∀ b, b < N → a ≠ b → (T a).2.1 ≠ (T b).2.1) (hc : zcl[ci]? = some (C, T, N)) (hk : k < N) (hl : Cond.fieldLink own index (T k).1 (T k).2.1 (T k).2.2.1 ∈ zT) (hfin : (T k).2.2.2 = false) (hn : narrow (ty0 k) v = v) (hfit : fits (ty0 k) v = true) (hdg : decode cc pc = .ok (.putfield index, 3))
    (kk : ∀ (H1 : Heap) (locs1 : List Loc), z_I D dA B h1 H0 H1 locs1 → W p l e R s m args below meth c H1 locs1 cells slots Q (F0 m (pc + 3) ls rest)) : W p l e R s m args below meth c H locs cells slots Q (F0 m pc ls (v :: .ref a :: rest)) := by
  obtain ⟨fs, he, hkl, rfl⟩ := sF_s hv
  obtain ⟨ws, q0, hP, hD, hS, hq, hu⟩ := hI.rd he
  exact va_put (z_hx X) (z_hb X) (Ts := Ts) X.1.2.2.2.2 (fun w hw => X.2.1 w (hin w hw)) ty0 hty hnm X.1.2.2.2.1 X.2.2.1 hP hD hS q0 hq hc k hk (z_w X hl) (fun _ h9 => h9) hfin (hty k hk) hn hfit hkl hdg (fun H1 l1 p1 d1 s1 => kk H1 l1 (hu (.inr (ci, fs.set k v)) H1 l1 p1 d1 s1))
theorem z_alen (X : z_X p s m args meth c cc nL ret Ts own D dA B) (hI : z_I D dA B h H0 H locs) {x : Int32} (hv : aN h a = some x) (hdg : decode cc pc = .ok (.arraylength, 1))
    (kk : W p l e R s m args below meth c H locs cells slots Q (F0 m (pc + 1) ls (.int x :: rest))) : W p l e R s m args below meth c H locs cells slots Q (F0 m pc ls (.ref a :: rest)) := by
  obtain ⟨⟨t, y⟩, he, ht, rfl⟩ := aN_s hv
  obtain ⟨ws, q0, hP, hD, hS, hq, -⟩ := hI.rd he
  have h6 : ∃ ty, (z_ty dA)[t]? = some (dA t, ty) := by
    have ht : t < 6 := ht
    match t, ht with
    | 0, _ => exact ⟨_, rfl⟩
    | 1, _ => exact ⟨_, rfl⟩
    | 2, _ => exact ⟨_, rfl⟩
    | 3, _ => exact ⟨_, rfl⟩
    | 4, _ => exact ⟨_, rfl⟩
    | 5, _ => exact ⟨_, rfl⟩
  obtain ⟨ty, h7⟩ := h6
  exact va_alen (z_hx X) (z_hb X) X.2.2.1 hP q0 t hq h7 rfl hdg kk
theorem z_iald (X : z_X p s m args meth c cc nL ret Ts own D dA B) (hI : z_I D dA B h H0 H locs) {i x : Int32} (hv : aI h a 0 i = some x) (hdg : decode cc pc = .ok (.iaload, 1))
    (kk : W p l e R s m args below meth c H locs cells slots Q (F0 m (pc + 1) ls (.int x :: rest))) : W p l e R s m args below meth c H locs cells slots Q (F0 m pc ls (.int i :: .ref a :: rest)) := by
  obtain ⟨n, f, he, hin, rfl⟩ := aI_s hv
  obtain ⟨ws, q0, hP, hD, hS, hq, -⟩ := hI.rd he
  exact va_iald (z_hx X) (z_hb X) X.2.2.1 hP q0 0 hq rfl hin hdg kk
theorem z_cald (X : z_X p s m args meth c cc nL ret Ts own D dA B) (hI : z_I D dA B h H0 H locs) {i x : Int32} (hv : aI h a 1 i = some x) (hdg : decode cc pc = .ok (.caload, 1))
    (kk : W p l e R s m args below meth c H locs cells slots Q (F0 m (pc + 1) ls (.int x :: rest))) : W p l e R s m args below meth c H locs cells slots Q (F0 m pc ls (.int i :: .ref a :: rest)) := by
  obtain ⟨n, f, he, hin, rfl⟩ := aI_s hv
  obtain ⟨ws, q0, hP, hD, hS, hq, -⟩ := hI.rd he
  exact va_cald (z_hx X) (z_hb X) X.2.2.1 hP q0 1 hq rfl hin hdg kk
theorem z_zald (X : z_X p s m args meth c cc nL ret Ts own D dA B) (hI : z_I D dA B h H0 H locs) {i x : Int32} (hv : aI h a 3 i = some x) (hdg : decode cc pc = .ok (.baload, 1))
    (kk : W p l e R s m args below meth c H locs cells slots Q (F0 m (pc + 1) ls (.int x :: rest))) : W p l e R s m args below meth c H locs cells slots Q (F0 m pc ls (.int i :: .ref a :: rest)) := by
  obtain ⟨n, f, he, hin, rfl⟩ := aI_s hv
  obtain ⟨ws, q0, hP, hD, hS, hq, -⟩ := hI.rd he
  exact va_zald (z_hx X) (z_hb X) X.2.2.1 hP q0 3 hq rfl hin hdg kk
theorem z_lald (X : z_X p s m args meth c cc nL ret Ts own D dA B) (hI : z_I D dA B h H0 H locs) {i : Int32} {x : Int64} (hv : aL h a i = some x) (hdg : decode cc pc = .ok (.laload, 1))
    (kk : W p l e R s m args below meth c H locs cells slots Q (F0 m (pc + 1) ls (.long x :: rest))) : W p l e R s m args below meth c H locs cells slots Q (F0 m pc ls (.int i :: .ref a :: rest)) := by
  obtain ⟨n, f, he, hin, rfl⟩ := aL_s hv
  obtain ⟨ws, q0, hP, hD, hS, hq, -⟩ := hI.rd he
  exact va_lald (z_hx X) (z_hb X) X.2.2.1 hP q0 2 hq rfl hin hdg kk
theorem z_aald4 (X : z_X p s m args meth c cc nL ret Ts own D dA B) (hI : z_I D dA B h H0 H locs) {i : Int32} {x : Nat} (hv : aR h a 4 i = some x) (hdg : decode cc pc = .ok (.aaload, 1))
    (kk : W p l e R s m args below meth c H locs cells slots Q (F0 m (pc + 1) ls (.ref x :: rest))) : W p l e R s m args below meth c H locs cells slots Q (F0 m pc ls (.int i :: .ref a :: rest)) := by
  obtain ⟨n, f, he, hin, hx⟩ := aR_s hv
  obtain ⟨ws, q0, hP, hD, hS, hq, -⟩ := hI.rd he
  refine va_aldq (z_hx X) (z_hb X) X.2.2.1 hP q0 4 hq rfl hin hdg ?_
  rw [hx]
  exact kk
theorem z_aald5 (X : z_X p s m args meth c cc nL ret Ts own D dA B) (hI : z_I D dA B h H0 H locs) {i : Int32} {x : Nat} (hv : aR h a 5 i = some x) (hdg : decode cc pc = .ok (.aaload, 1))
    (kk : W p l e R s m args below meth c H locs cells slots Q (F0 m (pc + 1) ls (.ref x :: rest))) : W p l e R s m args below meth c H locs cells slots Q (F0 m pc ls (.int i :: .ref a :: rest)) := by
  obtain ⟨n, f, he, hin, hx⟩ := aR_s hv
  obtain ⟨ws, q0, hP, hD, hS, hq, -⟩ := hI.rd he
  refine va_aldq (z_hx X) (z_hb X) X.2.2.1 hP q0 5 hq rfl hin hdg ?_
  rw [hx]
  exact kk
theorem z_iast (X : z_X p s m args meth c cc nL ret Ts own D dA B) (hI : z_I D dA B h H0 H locs) {i x : Int32} {h1 : z_H} (hv : uI h a 0 i x = some h1) (hdg : decode cc pc = .ok (.iastore, 1))
    (kk : ∀ (H1 : Heap) (locs1 : List Loc), z_I D dA B h1 H0 H1 locs1 → W p l e R s m args below meth c H1 locs1 cells slots Q (F0 m (pc + 1) ls rest)) : W p l e R s m args below meth c H locs cells slots Q (F0 m pc ls (.int x :: .int i :: .ref a :: rest)) := by
  obtain ⟨n, f, he, hin, rfl⟩ := uI_s hv
  obtain ⟨ws, q0, hP, hD, hS, hq, hu⟩ := hI.rd he
  exact va_iast (z_hx X) (z_hb X) X.2.2.1 hP hD hS q0 0 hq rfl hin hdg (fun H1 l1 p1 d1 s1 => kk H1 l1 (hu _ H1 l1 p1 d1 s1))
theorem z_cast (X : z_X p s m args meth c cc nL ret Ts own D dA B) (hI : z_I D dA B h H0 H locs) {i x : Int32} {h1 : z_H} (hv : uI h a 1 i (vp_nar .char x) = some h1) (hdg : decode cc pc = .ok (.castore, 1))
    (kk : ∀ (H1 : Heap) (locs1 : List Loc), z_I D dA B h1 H0 H1 locs1 → W p l e R s m args below meth c H1 locs1 cells slots Q (F0 m (pc + 1) ls rest)) : W p l e R s m args below meth c H locs cells slots Q (F0 m pc ls (.int x :: .int i :: .ref a :: rest)) := by
  obtain ⟨n, f, he, hin, rfl⟩ := uI_s hv
  obtain ⟨ws, q0, hP, hD, hS, hq, hu⟩ := hI.rd he
  exact va_cast (z_hx X) (z_hb X) X.2.2.1 hP hD hS q0 1 hq rfl hin hdg (fun H1 l1 p1 d1 s1 => kk H1 l1 (hu _ H1 l1 p1 d1 s1))
theorem z_zast (X : z_X p s m args meth c cc nL ret Ts own D dA B) (hI : z_I D dA B h H0 H locs) {i x : Int32} {h1 : z_H} (hv : uI h a 3 i (vp_nar .boolean x) = some h1) (hdg : decode cc pc = .ok (.bastore, 1))
    (kk : ∀ (H1 : Heap) (locs1 : List Loc), z_I D dA B h1 H0 H1 locs1 → W p l e R s m args below meth c H1 locs1 cells slots Q (F0 m (pc + 1) ls rest)) : W p l e R s m args below meth c H locs cells slots Q (F0 m pc ls (.int x :: .int i :: .ref a :: rest)) := by
  obtain ⟨n, f, he, hin, rfl⟩ := uI_s hv
  obtain ⟨ws, q0, hP, hD, hS, hq, hu⟩ := hI.rd he
  exact va_zast (z_hx X) (z_hb X) X.2.2.1 hP hD hS q0 3 hq rfl hin hdg (fun H1 l1 p1 d1 s1 => kk H1 l1 (hu _ H1 l1 p1 d1 s1))
theorem z_last (X : z_X p s m args meth c cc nL ret Ts own D dA B) (hI : z_I D dA B h H0 H locs) {i : Int32} {x : Int64} {h1 : z_H} (hv : uL h a i x = some h1) (hdg : decode cc pc = .ok (.lastore, 1))
    (kk : ∀ (H1 : Heap) (locs1 : List Loc), z_I D dA B h1 H0 H1 locs1 → W p l e R s m args below meth c H1 locs1 cells slots Q (F0 m (pc + 1) ls rest)) : W p l e R s m args below meth c H locs cells slots Q (F0 m pc ls (.long x :: .int i :: .ref a :: rest)) := by
  obtain ⟨n, f, he, hin, rfl⟩ := uL_s hv
  obtain ⟨ws, q0, hP, hD, hS, hq, hu⟩ := hI.rd he
  exact va_last (z_hx X) (z_hb X) X.2.2.1 hP hD hS q0 2 hq rfl hin hdg (fun H1 l1 p1 d1 s1 => kk H1 l1 (hu _ H1 l1 p1 d1 s1))
theorem z_topi {x y : Int32} (h : x = y) (k : W p l e R s m args below meth c H locs cells slots Q (F0 m pc ls (.int y :: rest))) : W p l e R s m args below meth c H locs cells slots Q (F0 m pc ls (.int x :: rest)) := by
  rw [h]; exact k
theorem z_topl {x y : Int64} (h : x = y) (k : W p l e R s m args below meth c H locs cells slots Q (F0 m pc ls (.long y :: rest))) : W p l e R s m args below meth c H locs cells slots Q (F0 m pc ls (.long x :: rest)) := by
  rw [h]; exact k
theorem z_topr {x y : Nat} (h : x = y) (k : W p l e R s m args below meth c H locs cells slots Q (F0 m pc ls (.ref y :: rest))) : W p l e R s m args below meth c H locs cells slots Q (F0 m pc ls (.ref x :: rest)) := by
  rw [h]; exact k
theorem zB_s2 {x y : Int32} (h : zB x = some y) : y = 0 ∨ y = 1 := by
  obtain ⟨h1, h2⟩ := zB_s h
  rw [← h1]; exact h2
theorem z_nb {x y : Int32} (h : zB x = some y) : narrow .boolean (.int y) = .int y := by
  rcases zB_s2 h with e | e <;> rw [e] <;> rfl
theorem z_ne {x y : Int32} {k : Int} (h : ¬ x = y) (hk : y.toInt = k) : ¬ x.toInt = k := fun e => h (Int32.toInt_inj.mp (e.trans hk.symm))
theorem z_tabD (hexec : p.tables.exec = Jvm.exec) (hb : c.code = cc) {dflt lo hi : Int} {offs : Array Int} {len : Nat} {x : Int32} {tgt : Nat} {ks : List Int} (hdg : decode cc pc = .ok (.tableswitch dflt lo hi offs, len)) (hsz : hi = lo + (offs.size : Int) - 1) (hall : ∀ k : Nat, k < offs.size → (lo + (k : Int)) ∈ ks ∨ offs[k]? = some dflt) (hn : ∀ k ∈ ks, ¬ x.toInt = k) (ht : (pc : Int) + dflt = (tgt : Int))
    (k : W p l e R s m args below meth c H locs cells slots Q (F0 m tgt ls rest)) : W p l e R s m args below meth c H locs cells slots Q (F0 m pc ls (.int x :: rest)) := by
  by_cases h : x.toInt < lo ∨ hi < x.toInt
  · exact lv_tableOut hexec hb hdg h ht k
  · have h1 : ¬ x.toInt < lo := fun q => h (Or.inl q)
    have h2 : ¬ hi < x.toInt := fun q => h (Or.inr q)
    have e1 : lo + (((x.toInt - lo).toNat : Nat) : Int) = x.toInt := by omega
    rcases hall (x.toInt - lo).toNat (by omega) with h3 | h3
    · rw [e1] at h3
      exact absurd rfl (hn _ h3)
    · exact lv_tableIn hexec hb hdg h1 h2 h3 ht k
theorem z_lokD (hexec : p.tables.exec = Jvm.exec) (hb : c.code = cc) {dflt : Int} {ps : Array (Int × Int)} {len : Nat} {x : Int32} {tgt : Nat} {ks : List Int} (hdg : decode cc pc = .ok (.lookupswitch dflt ps, len)) (hp : (ps.toList.zip (ps.toList.drop 1)).all (fun (a, next) => a.1 < next.1) = true) (hall : ∀ q ∈ ps.toList, q.1 ∈ ks) (hn : ∀ k ∈ ks, ¬ x.toInt = k) (ht : (pc : Int) + dflt = (tgt : Int))
    (k : W p l e R s m args below meth c H locs cells slots Q (F0 m tgt ls rest)) : W p l e R s m args below meth c H locs cells slots Q (F0 m pc ls (.int x :: rest)) := by
  refine lv_lookup hexec hb hdg hp ?_ ht k
  generalize ps.toList = L at hall
  clear hdg hp
  induction L with
  | nil => rfl
  | cons q L ih =>
    obtain ⟨a, o⟩ := q
    rw [lookupswitch.offset_cons, if_neg (fun e => hn a (hall (a, o) List.mem_cons_self) e.symm)]
    exact ih (fun q hq => hall q (List.mem_cons_of_mem _ hq))
end ZC
end
section
/-! contracts that return: from an abstract heap to another, nothing is made -/
def z_P (D : va_G) (dA : Nat → ClassId) (B : Nat) (av : List Value) (h : z_H) : Array Value → State → Prop := fun v U => v = av.toArray ∧ z_G D dA B h U
def z_Q (D : va_G) (dA : Nat → ClassId) (B : Nat) (r : Option Value) (h' : z_H) : Array Value → State → Outcome → State → Prop := fun _ st oc t => oc = .returned r ∧ z_G D dA B h' t ∧ va_F (fun q => B ≤ q) st t
abbrev z_rm (fr lo : Nat) : Room := { frames := fr, cells := 0, slots := 0, locals := lo }
def z_Met (l : Launch) (y : MethodName) (cc : ByteArray) (nL : Nat) (ret : Option FieldType) (fr lo : Nat) (D : va_G) (dA : Nat → ClassId) (B : Nat) (av : List Value) (h : z_H) (r : Option Value) (h' : z_H) : Prop :=
  Met l y (z_ws y cc nL ret) (z_rm fr lo) (z_P D dA B av h) (z_Q D dA B r h') 0 0 (fun q => B ≤ q)
theorem z_G.blind {D : va_G} {dA : Nat → ClassId} {B : Nat} {av : List Value} {h : z_H} : FrameBlind (z_P D dA B av h) := by
  intro a U g mk hq
  obtain ⟨q0, qV, qK, qB⟩ := hq
  exact ⟨q0, qV, va_K.moved (u := U) (U := U.calling g mk a) (Vm.Alike.refl U.vm) qK, qB⟩
/-- what the tables say of a method that is called on an object; of a static one -/
def z_yV (y : MethodName) (cy : ByteArray) (ny : Nat) (ry : Option FieldType) (n : Nat) : Prop :=
  Cond.instanceMethod y ∈ zT ∧ Cond.selects y.cls y y ∈ zT ∧ Cond.initialized y.cls ∈ zT ∧ Cond.code y cy ny ry ∈ zT ∧ y.cls ≠ "java/lang/invoke/MethodHandle" ∧ y.cls ≠ "java/lang/invoke/VarHandle" ∧ (parseMethodDescriptor y.desc).map (fun d => d.parameters.length) = some n
def z_yS (y : MethodName) (cy : ByteArray) (ny : Nat) (ry : Option FieldType) (n : Nat) : Prop :=
  Cond.static y ∈ zT ∧ Cond.initialized y.cls ∈ zT ∧ Cond.code y cy ny ry ∈ zT ∧ y.cls ≠ "java/lang/invoke/MethodHandle" ∧ y.cls ≠ "java/lang/invoke/VarHandle" ∧ (parseMethodDescriptor y.desc).map (fun d => d.parameters.length) = some n
def gO (h : z_H) (a ci : Nat) : Option Unit := match h a with
  | some (.inr o) => if o.1 = ci then some () else none
  | _ => none
theorem gO_s {h : z_H} {a ci : Nat} {u : Unit} (e : gO h a ci = some u) : ∃ fs, h a = some (.inr (ci, fs)) := by
  unfold gO at e
  split at e
  · next o ho =>
    split at e
    · next q => exact ⟨o.2, by rw [ho, ← q]⟩
    · cases e
  · cases e
theorem z_all {y : MethodName} {cc : ByteArray} {n : Nat} {ret : Option FieldType} (w : Cond.code y cc n ret ∈ zT) : ∀ x ∈ z_ws y cc n ret, x ∈ zT := fun x hx => (List.mem_cons.mp hx).elim (fun e => by rw [e]; exact w) id
section ZD
variable {p : Program} {l : Launch} {e : Env} {R : Room} {s : State} {m : MethodId} {args : Array Value} {below : List Frame} {meth : Method} {c : Code} {H : Heap} {locs : List Loc} {cells slots : Nat} {Q : State → Prop}
variable {cc cy : ByteArray} {pc nL ny index n fr lo : Nat} {ret ry : Option FieldType} {ls : Array Slot} {rest st0 : List Value} {Ts : List Cond} {own : String} {D : va_G} {dA : Nat → ClassId} {B b : Nat} {h h' : z_H} {y : MethodName} {As : List Value} {r : Option Value}
theorem z_good2 (X : z_X p s m args meth c cc nL ret Ts own D dA B) {ws : List Cond} (hw : ∀ x ∈ ws, x ∈ zT) : GoodIn Ts ws := fun x hx => ⟨X.2.1 x (hw x hx), z_good (hw x hx)⟩
/-- the world behind a call that returned -/
theorem z_run {mc ms : Nat} {a : Array Value} (X : z_X p s m args meth c cc nL ret Ts own D dA B) (hI : z_I D dA B h s.heap H locs) (hr : va_Run p l e R s m args below meth c H locs cells slots mc ms (F0 m pc ls st0) rest (z_Q D dA B r h' a) (fun q => B ≤ q))
    (kk : ∀ (H1 : Heap) (locs1 : List Loc), z_I D dA B h' s.heap H1 locs1 → W p l e R s m args below meth c H1 locs1 (cells + mc) (slots + ms) Q (F0 m (pc + 3) ls (r.toList ++ rest))) : W p l e R s m args below meth c H locs cells slots Q (F0 m pc ls st0) := by
  intro T hT Y
  obtain ⟨v, st₀, t, T', L, h0, Y', hL, e1, e2, ⟨hv, hG, hz, hk⟩, st⟩ := hr T hT Y
  cases hv
  rw [h0] at hz hk
  obtain ⟨hV, hS1, hS2, hS3⟩ := hI
  obtain ⟨t2, a1, b1⟩ := kk T'.heap (locs ++ L) ⟨by rw [e1]; exact hG.1, Nat.le_trans hS1 (by rw [e1]; exact hz), fun q hq hn => by
    rw [e1, hk q (Nat.lt_of_lt_of_le hq hS1) hn]; exact hS2 q hq hn, fun x hx => by
    rcases List.mem_append.mp hx with h9 | h9
    · exact hS3 x h9
    · exact hL x h9⟩ T' rfl Y'
  exact ⟨t2, st t2 a1, b1⟩
theorem z_pre (X : z_X p s m args meth c cc nL ret Ts own D dA B) (hI : z_I D dA B h s.heap H locs) (av : List Value) : ∀ U : State, U.heap = H → s.WarmedH U.vm → z_P D dA B av h av.toArray U := by
  intro U hU hW
  refine ⟨rfl, by rw [hU]; exact hI.1, va_K.moved hW.alike X.2.2.1, ?_⟩
  rw [hU]
  exact Nat.le_trans X.2.2.2.1 hI.2.1
theorem z_callV (X : z_X p s m args meth c cc nL ret Ts own D dA B) (hI : z_I D dA B h s.heap H locs) {ci : Nat} {q : vw_C} {u : Unit} (hO : gO h b ci = some u) (hM : z_Met l y cy ny ry fr lo D dA B (.ref b :: As) h r h') (hc : zcl[ci]? = some q) (hq : q.1 = y.cls) (w1 : Cond.methodLink own index y ∈ zT) (w : z_yV y cy ny ry n) (hn : As.length = n) (hls : ls.size = nL) (hst : st0 = As.reverse ++ .ref b :: rest) (hro : (rest.map fun v => v.category).sum ≤ 8)
    (hR : fr + 1 ≤ R.frames ∧ 8 + (ny + 11) + lo ≤ R.locals) (hcs : cells ≤ R.cells ∧ slots ≤ R.slots) (hdg : decode cc pc = .ok (.invokevirtual index, 3))
    (kk : ∀ (H1 : Heap) (locs1 : List Loc), z_I D dA B h' s.heap H1 locs1 → W p l e R s m args below meth c H1 locs1 cells slots Q (F0 m (pc + 3) ls (r.toList ++ rest))) : W p l e R s m args below meth c H locs cells slots Q (F0 m pc ls st0) := by
  obtain ⟨w2, w3, w4, w5, w6⟩ := w
  obtain ⟨fs, he⟩ := gO_s hO
  obtain ⟨ws, q0, hP, hD, hS, hq0, -⟩ := hI.rd he
  have hre := va_recv X.2.2.1 hP hc hq0
  rw [hq] at hre
  have hT : GoodIn Ts (wsV own index y.cls y (z_ws y cy ny ry)) := z_good2 X (fun x hx => by
    rcases List.mem_append.mp hx with h9 | h9
    · simp only [List.mem_cons, List.not_mem_nil, or_false] at h9
      rcases h9 with h9 | h9 | h9 | h9
      · rw [h9]; exact w1
      · rw [h9]; exact w2
      · rw [h9]; exact w3
      · rw [h9]; exact w4
    · exact z_all w5 x h9)
  exact z_run X hI (va_runV (As := As) (rest := rest) X.1 hM (cwV n X.1.2.2.2.2 hT rfl rfl rfl ⟨rfl, w6⟩ hR) ⟨z_G.blind, hre, z_pre X hI _⟩ rfl hn hls hst (lv_room hro) hdg hcs) kk
theorem z_callS (X : z_X p s m args meth c cc nL ret Ts own D dA B) (hI : z_I D dA B h s.heap H locs) (hM : z_Met l y cy ny ry fr lo D dA B As h r h') (hq : y.cls = own) (w1 : Cond.methodLink own index y ∈ zT) (w : z_yS y cy ny ry n) (hn : As.length = n) (hls : ls.size = nL) (hst : st0 = As.reverse ++ rest) (hro : (rest.map fun v => v.category).sum ≤ 8)
    (hR : fr + 1 ≤ R.frames ∧ 8 + (ny + 11) + lo ≤ R.locals) (hcs : cells ≤ R.cells ∧ slots ≤ R.slots) (hdg : decode cc pc = .ok (.invokestatic index, 3))
    (kk : ∀ (H1 : Heap) (locs1 : List Loc), z_I D dA B h' s.heap H1 locs1 → W p l e R s m args below meth c H1 locs1 cells slots Q (F0 m (pc + 3) ls (r.toList ++ rest))) : W p l e R s m args below meth c H locs cells slots Q (F0 m pc ls st0) := by
  obtain ⟨w2, w4, w5, w6⟩ := w
  have hT : GoodIn Ts (wsS own index y (z_ws y cy ny ry)) := z_good2 X (fun x hx => by
    rcases List.mem_append.mp hx with h9 | h9
    · simp only [List.mem_cons, List.not_mem_nil, or_false] at h9
      rcases h9 with h9 | h9 | h9
      · rw [h9]; exact w1
      · rw [h9]; exact w2
      · rw [h9, ← hq]; exact w4
    · exact z_all w5 x h9)
  exact z_run X hI (va_runS (As := As) (rest := rest) X.1 hM (cwS n X.1.2.2.2.2 hT rfl rfl rfl ⟨hq, w6⟩ hR) ⟨z_G.blind, z_pre X hI _⟩ rfl hn hls hst (lv_room hro) hdg hcs) kk
/-- ends -/
theorem z_end (X : z_X p s m args meth c cc nL ret Ts own D dA B) (hI : z_I D dA B h s.heap H locs) : ∀ t : State, t.heap = H → s.WarmedH t.vm → z_Q D dA B r h args s (.returned r) t := fun t ht hW =>
  ⟨rfl, ⟨by rw [ht]; exact hI.1, va_K.moved hW.alike X.2.2.1, by rw [ht]; exact Nat.le_trans X.2.2.2.1 hI.2.1⟩, hI.2.F ht⟩
theorem z_iret {x : Int32} (X : z_X p s m args meth c cc nL (some .int) Ts own D dA B) (hI : z_I D dA B h s.heap H locs) (hdg : decode cc pc = .ok (.ireturn, 1)) : W p l e R s m args below meth c H locs cells slots (MQ below (z_Q D dA B (some (.int x)) h) args s cells slots (fun q => B ≤ q)) (F0 m pc ls [.int x]) :=
  W.iret (z_hx X) (z_hb X) X.2.2.2.2.2 (z_end X hI) hI.2.2.2 hdg X.2.2.2.2.1
theorem z_zret {x : Int32} (X : z_X p s m args meth c cc nL (some .boolean) Ts own D dA B) (hI : z_I D dA B h s.heap H locs) (hx : x = 0 ∨ x = 1) (hdg : decode cc pc = .ok (.ireturn, 1)) : W p l e R s m args below meth c H locs cells slots (MQ below (z_Q D dA B (some (.int x)) h) args s cells slots (fun q => B ≤ q)) (F0 m pc ls [.int x]) :=
  W.zret (z_hx X) (z_hb X) X.2.2.2.2.2 (by rcases hx with rfl | rfl <;> rfl) (z_end X hI) hI.2.2.2 hdg X.2.2.2.2.1
theorem z_vret (X : z_X p s m args meth c cc nL none Ts own D dA B) (hI : z_I D dA B h s.heap H locs) (hdg : decode cc pc = .ok (.return_, 1)) : W p l e R s m args below meth c H locs cells slots (MQ below (z_Q D dA B none h) args s cells slots (fun q => B ≤ q)) (F0 m pc ls []) :=
  W.vret (z_hx X) (z_hb X) X.2.2.2.2.2 (z_end X hI) hI.2.2.2 hdg X.2.2.2.2.1
/-- a body's beginning -/
theorem z_of {av : List Value} (hy : plainName y.cls = true) (hlen : (lg_sl av).length ≤ ny)
    (body : ∀ (p : Program) (e : Env) (s : State) (m : MethodId) (below : List Frame) (meth : Method) (c : Code) (ls : Array Slot), z_X p s m av.toArray meth c cy ny ry (z_ws y cy ny ry) y.cls D dA B → z_I D dA B h s.heap s.heap [] → lv_has ls ny (lv_args 0 av) →
      W p l e (z_rm fr lo) s m av.toArray below meth c s.heap [] 0 0 (MQ below (z_Q D dA B r h') av.toArray s 0 0 (fun q => B ≤ q)) (F0 m 0 ls [])) : z_Met l y cy ny ry fr lo D dA B av h r h' := by
  refine Met.ofW (cc := cy) (maxL := ny) (ret := ry) hy rfl ?_
  intro p e s m args below meth c s₁ Bd hml hv
  obtain ⟨rfl, hV, hK, hB⟩ := hv
  have hl := lv_entry av (n := ny) hlen
  rw [lg_entry_eq]
  exact body p e s m below meth c _ ⟨⟨Bd.exec, Bd.bytes, hml, findClass_of_methodNamed Bd.named, atoms_spec (ws := z_ws y cy ny ry) Bd.pre⟩, fun w hw => List.mem_cons_of_mem _ hw, hK, hB, Bd.notSynchronized, Bd.returns⟩ ⟨hV, va_S.rf⟩ hl
end ZD
end
section
def y_SF_init : MethodName := ⟨"StreamForge", "<init>", "()V"⟩
def y_SF_script : MethodName := ⟨"StreamForge", "script", "(J)I"⟩
theorem yi_SF_script : z_yV y_SF_script prog_1_method_2_code 3 (some .int) 1 := ⟨z_m 590 (by decide +kernel) (by decide +kernel), z_m 591 (by decide +kernel) (by decide +kernel), z_m 120 (by decide +kernel) (by decide +kernel), z_m 592 (by decide +kernel) (by decide +kernel), by decide +kernel, by decide +kernel, by decide +kernel⟩
def y_SF_clear : MethodName := ⟨"StreamForge", "clear", "(I)I"⟩
theorem yi_SF_clear : z_yV y_SF_clear prog_1_method_3_code 3 (some .int) 1 := ⟨z_m 696 (by decide +kernel) (by decide +kernel), z_m 697 (by decide +kernel) (by decide +kernel), z_m 120 (by decide +kernel) (by decide +kernel), z_m 698 (by decide +kernel) (by decide +kernel), by decide +kernel, by decide +kernel, by decide +kernel⟩
def y_SF_parse : MethodName := ⟨"StreamForge", "parse", "()I"⟩
theorem yi_SF_parse : z_yV y_SF_parse prog_1_method_4_code 2 (some .int) 0 := ⟨z_m 707 (by decide +kernel) (by decide +kernel), z_m 708 (by decide +kernel) (by decide +kernel), z_m 120 (by decide +kernel) (by decide +kernel), z_m 709 (by decide +kernel) (by decide +kernel), by decide +kernel, by decide +kernel, by decide +kernel⟩
def y_SF_where : MethodName := ⟨"StreamForge", "where", "()I"⟩
theorem yi_SF_where : z_yV y_SF_where prog_1_method_5_code 1 (some .int) 0 := ⟨z_m 581 (by decide +kernel) (by decide +kernel), z_m 582 (by decide +kernel) (by decide +kernel), z_m 120 (by decide +kernel) (by decide +kernel), z_m 583 (by decide +kernel) (by decide +kernel), by decide +kernel, by decide +kernel, by decide +kernel⟩
def y_SF_line : MethodName := ⟨"StreamForge", "line", "(JJ)I"⟩
theorem yi_SF_line : z_yV y_SF_line prog_1_method_6_code 6 (some .int) 2 := ⟨z_m 917 (by decide +kernel) (by decide +kernel), z_m 918 (by decide +kernel) (by decide +kernel), z_m 120 (by decide +kernel) (by decide +kernel), z_m 919 (by decide +kernel) (by decide +kernel), by decide +kernel, by decide +kernel, by decide +kernel⟩
def y_SF_more : MethodName := ⟨"StreamForge", "more", "(J)I"⟩
theorem yi_SF_more : z_yV y_SF_more prog_1_method_7_code 4 (some .int) 1 := ⟨z_m 924 (by decide +kernel) (by decide +kernel), z_m 925 (by decide +kernel) (by decide +kernel), z_m 120 (by decide +kernel) (by decide +kernel), z_m 926 (by decide +kernel) (by decide +kernel), by decide +kernel, by decide +kernel, by decide +kernel⟩
def y_SF_run : MethodName := ⟨"StreamForge", "run", "()I"⟩
theorem yi_SF_run : z_yV y_SF_run prog_1_method_8_code 1 (some .int) 0 := ⟨z_m 933 (by decide +kernel) (by decide +kernel), z_m 934 (by decide +kernel) (by decide +kernel), z_m 120 (by decide +kernel) (by decide +kernel), z_m 935 (by decide +kernel) (by decide +kernel), by decide +kernel, by decide +kernel, by decide +kernel⟩
def y_SF_out : MethodName := ⟨"StreamForge", "out", "(I)I"⟩
theorem yi_SF_out : z_yV y_SF_out prog_1_method_9_code 3 (some .int) 1 := ⟨z_m 1139 (by decide +kernel) (by decide +kernel), z_m 1140 (by decide +kernel) (by decide +kernel), z_m 120 (by decide +kernel) (by decide +kernel), z_m 1141 (by decide +kernel) (by decide +kernel), by decide +kernel, by decide +kernel, by decide +kernel⟩
def y_SF_ran : MethodName := ⟨"StreamForge", "ran", "(I)I"⟩
theorem yi_SF_ran : z_yV y_SF_ran prog_1_method_10_code 2 (some .int) 1 := ⟨z_m 1149 (by decide +kernel) (by decide +kernel), z_m 1150 (by decide +kernel) (by decide +kernel), z_m 120 (by decide +kernel) (by decide +kernel), z_m 1151 (by decide +kernel) (by decide +kernel), by decide +kernel, by decide +kernel, by decide +kernel⟩
def y_SF_match : MethodName := ⟨"StreamForge", "match", "(III)I"⟩
theorem yi_SF_match : z_yV y_SF_match prog_1_method_11_code 5 (some .int) 3 := ⟨z_m 1156 (by decide +kernel) (by decide +kernel), z_m 1157 (by decide +kernel) (by decide +kernel), z_m 120 (by decide +kernel) (by decide +kernel), z_m 1158 (by decide +kernel) (by decide +kernel), by decide +kernel, by decide +kernel, by decide +kernel⟩
def y_SF_count : MethodName := ⟨"StreamForge", "count", "(I)I"⟩
theorem yi_SF_count : z_yV y_SF_count prog_1_method_12_code 3 (some .int) 1 := ⟨z_m 1168 (by decide +kernel) (by decide +kernel), z_m 1169 (by decide +kernel) (by decide +kernel), z_m 120 (by decide +kernel) (by decide +kernel), z_m 1170 (by decide +kernel) (by decide +kernel), by decide +kernel, by decide +kernel, by decide +kernel⟩
def y_SF_byteOf : MethodName := ⟨"StreamForge", "byteOf", "(JI)I"⟩
theorem yi_SF_byteOf : z_yS y_SF_byteOf prog_1_method_13_code 3 (some .int) 2 := ⟨z_m 597 (by decide +kernel) (by decide +kernel), z_m 120 (by decide +kernel) (by decide +kernel), z_m 598 (by decide +kernel) (by decide +kernel), by decide +kernel, by decide +kernel, by decide +kernel⟩
def y_SF_isText : MethodName := ⟨"StreamForge", "isText", "(JZ)Z"⟩
theorem yi_SF_isText : z_yS y_SF_isText prog_1_method_14_code 6 (some .boolean) 2 := ⟨z_m 594 (by decide +kernel) (by decide +kernel), z_m 120 (by decide +kernel) (by decide +kernel), z_m 595 (by decide +kernel) (by decide +kernel), by decide +kernel, by decide +kernel, by decide +kernel⟩
def y_SF_textLength : MethodName := ⟨"StreamForge", "textLength", "(J)I"⟩
theorem yi_SF_textLength : z_yS y_SF_textLength prog_1_method_15_code 4 (some .int) 1 := ⟨z_m 664 (by decide +kernel) (by decide +kernel), z_m 120 (by decide +kernel) (by decide +kernel), z_m 665 (by decide +kernel) (by decide +kernel), by decide +kernel, by decide +kernel, by decide +kernel⟩
def y_SF_addText : MethodName := ⟨"StreamForge", "addText", "(LStreamForge$Row;J)V"⟩
theorem yi_SF_addText : z_yS y_SF_addText prog_1_method_16_code 5 none 2 := ⟨z_m 686 (by decide +kernel) (by decide +kernel), z_m 120 (by decide +kernel) (by decide +kernel), z_m 687 (by decide +kernel) (by decide +kernel), by decide +kernel, by decide +kernel, by decide +kernel⟩
def y_Mod_init : MethodName := ⟨"StreamForgeModel", "<init>", "()V"⟩
def y_Mod_thrown : MethodName := ⟨"StreamForgeModel", "thrown", "()I"⟩
theorem yi_Mod_thrown : z_yV y_Mod_thrown prog_14_method_2_code 1 (some .int) 0 := ⟨z_m 1411 (by decide +kernel) (by decide +kernel), z_m 1412 (by decide +kernel) (by decide +kernel), z_m 132 (by decide +kernel) (by decide +kernel), z_m 1413 (by decide +kernel) (by decide +kernel), by decide +kernel, by decide +kernel, by decide +kernel⟩
def y_Mod_in : MethodName := ⟨"StreamForgeModel", "in", "(III)Z"⟩
theorem yi_Mod_in : z_yS y_Mod_in prog_14_method_3_code 3 (some .boolean) 3 := ⟨z_m 1422 (by decide +kernel) (by decide +kernel), z_m 132 (by decide +kernel) (by decide +kernel), z_m 1423 (by decide +kernel) (by decide +kernel), by decide +kernel, by decide +kernel, by decide +kernel⟩
def y_Mod_fail : MethodName := ⟨"StreamForgeModel", "fail", "(I)I"⟩
theorem yi_Mod_fail : z_yV y_Mod_fail prog_14_method_4_code 2 (some .int) 1 := ⟨z_m 1426 (by decide +kernel) (by decide +kernel), z_m 67 (by decide +kernel) (by decide +kernel), z_m 132 (by decide +kernel) (by decide +kernel), z_m 1427 (by decide +kernel) (by decide +kernel), by decide +kernel, by decide +kernel, by decide +kernel⟩
def y_Mod_measure : MethodName := ⟨"StreamForgeModel", "measure", "(JZ)I"⟩
theorem yi_Mod_measure : z_yS y_Mod_measure prog_14_method_5_code 6 (some .int) 2 := ⟨z_m 1419 (by decide +kernel) (by decide +kernel), z_m 132 (by decide +kernel) (by decide +kernel), z_m 1420 (by decide +kernel) (by decide +kernel), by decide +kernel, by decide +kernel, by decide +kernel⟩
def y_Mod_script : MethodName := ⟨"StreamForgeModel", "script", "(J)I"⟩
theorem yi_Mod_script : z_yV y_Mod_script prog_14_method_6_code 6 (some .int) 1 := ⟨z_m 1415 (by decide +kernel) (by decide +kernel), z_m 1416 (by decide +kernel) (by decide +kernel), z_m 132 (by decide +kernel) (by decide +kernel), z_m 1417 (by decide +kernel) (by decide +kernel), by decide +kernel, by decide +kernel, by decide +kernel⟩
def y_Mod_clear : MethodName := ⟨"StreamForgeModel", "clear", "(I)I"⟩
theorem yi_Mod_clear : z_yV y_Mod_clear prog_14_method_7_code 3 (some .int) 1 := ⟨z_m 1429 (by decide +kernel) (by decide +kernel), z_m 1430 (by decide +kernel) (by decide +kernel), z_m 132 (by decide +kernel) (by decide +kernel), z_m 1431 (by decide +kernel) (by decide +kernel), by decide +kernel, by decide +kernel, by decide +kernel⟩
def y_Mod_addTo : MethodName := ⟨"StreamForgeModel", "addTo", "(IJ)V"⟩
theorem yi_Mod_addTo : z_yV y_Mod_addTo prog_14_method_8_code 6 none 2 := ⟨z_m 1438 (by decide +kernel) (by decide +kernel), z_m 68 (by decide +kernel) (by decide +kernel), z_m 132 (by decide +kernel) (by decide +kernel), z_m 1439 (by decide +kernel) (by decide +kernel), by decide +kernel, by decide +kernel, by decide +kernel⟩
def y_Mod_line : MethodName := ⟨"StreamForgeModel", "line", "(JJ)I"⟩
theorem yi_Mod_line : z_yV y_Mod_line prog_14_method_9_code 5 (some .int) 2 := ⟨z_m 1433 (by decide +kernel) (by decide +kernel), z_m 1434 (by decide +kernel) (by decide +kernel), z_m 132 (by decide +kernel) (by decide +kernel), z_m 1435 (by decide +kernel) (by decide +kernel), by decide +kernel, by decide +kernel, by decide +kernel⟩
def y_Mod_more : MethodName := ⟨"StreamForgeModel", "more", "(J)I"⟩
theorem yi_Mod_more : z_yV y_Mod_more prog_14_method_10_code 4 (some .int) 1 := ⟨z_m 1441 (by decide +kernel) (by decide +kernel), z_m 1442 (by decide +kernel) (by decide +kernel), z_m 132 (by decide +kernel) (by decide +kernel), z_m 1443 (by decide +kernel) (by decide +kernel), by decide +kernel, by decide +kernel, by decide +kernel⟩
def y_Mod_here : MethodName := ⟨"StreamForgeModel", "here", "()I"⟩
theorem yi_Mod_here : z_yV y_Mod_here prog_14_method_11_code 1 (some .int) 0 := ⟨z_m 1462 (by decide +kernel) (by decide +kernel), z_m 72 (by decide +kernel) (by decide +kernel), z_m 132 (by decide +kernel) (by decide +kernel), z_m 1463 (by decide +kernel) (by decide +kernel), by decide +kernel, by decide +kernel, by decide +kernel⟩
def y_Mod_behind : MethodName := ⟨"StreamForgeModel", "behind", "()I"⟩
theorem yi_Mod_behind : z_yV y_Mod_behind prog_14_method_12_code 1 (some .int) 0 := ⟨z_m 1470 (by decide +kernel) (by decide +kernel), z_m 74 (by decide +kernel) (by decide +kernel), z_m 132 (by decide +kernel) (by decide +kernel), z_m 1471 (by decide +kernel) (by decide +kernel), by decide +kernel, by decide +kernel, by decide +kernel⟩
def y_Mod_wrong : MethodName := ⟨"StreamForgeModel", "wrong", "(I)V"⟩
theorem yi_Mod_wrong : z_yV y_Mod_wrong prog_14_method_13_code 2 none 1 := ⟨z_m 1450 (by decide +kernel) (by decide +kernel), z_m 69 (by decide +kernel) (by decide +kernel), z_m 132 (by decide +kernel) (by decide +kernel), z_m 1451 (by decide +kernel) (by decide +kernel), by decide +kernel, by decide +kernel, by decide +kernel⟩
def y_Mod_expect : MethodName := ⟨"StreamForgeModel", "expect", "(I)V"⟩
theorem yi_Mod_expect : z_yV y_Mod_expect prog_14_method_14_code 2 none 1 := ⟨z_m 1519 (by decide +kernel) (by decide +kernel), z_m 86 (by decide +kernel) (by decide +kernel), z_m 132 (by decide +kernel) (by decide +kernel), z_m 1520 (by decide +kernel) (by decide +kernel), by decide +kernel, by decide +kernel, by decide +kernel⟩
def y_Mod_keep : MethodName := ⟨"StreamForgeModel", "keep", "(I)V"⟩
theorem yi_Mod_keep : z_yV y_Mod_keep prog_14_method_15_code 2 none 1 := ⟨z_m 1531 (by decide +kernel) (by decide +kernel), z_m 89 (by decide +kernel) (by decide +kernel), z_m 132 (by decide +kernel) (by decide +kernel), z_m 1532 (by decide +kernel) (by decide +kernel), by decide +kernel, by decide +kernel, by decide +kernel⟩
def y_Mod_stored : MethodName := ⟨"StreamForgeModel", "stored", "()I"⟩
theorem yi_Mod_stored : z_yV y_Mod_stored prog_14_method_16_code 1 (some .int) 0 := ⟨z_m 1527 (by decide +kernel) (by decide +kernel), z_m 88 (by decide +kernel) (by decide +kernel), z_m 132 (by decide +kernel) (by decide +kernel), z_m 1528 (by decide +kernel) (by decide +kernel), by decide +kernel, by decide +kernel, by decide +kernel⟩
def y_Mod_addItem : MethodName := ⟨"StreamForgeModel", "addItem", "(III)V"⟩
theorem yi_Mod_addItem : z_yV y_Mod_addItem prog_14_method_17_code 6 none 3 := ⟨z_m 1478 (by decide +kernel) (by decide +kernel), z_m 76 (by decide +kernel) (by decide +kernel), z_m 132 (by decide +kernel) (by decide +kernel), z_m 1479 (by decide +kernel) (by decide +kernel), by decide +kernel, by decide +kernel, by decide +kernel⟩
def y_Mod_escaped : MethodName := ⟨"StreamForgeModel", "escaped", "(I)V"⟩
theorem yi_Mod_escaped : z_yV y_Mod_escaped prog_14_method_18_code 3 none 1 := ⟨z_m 1474 (by decide +kernel) (by decide +kernel), z_m 75 (by decide +kernel) (by decide +kernel), z_m 132 (by decide +kernel) (by decide +kernel), z_m 1475 (by decide +kernel) (by decide +kernel), by decide +kernel, by decide +kernel, by decide +kernel⟩
def y_Mod_put : MethodName := ⟨"StreamForgeModel", "put", "(III)V"⟩
theorem yi_Mod_put : z_yV y_Mod_put prog_14_method_19_code 5 none 3 := ⟨z_m 1490 (by decide +kernel) (by decide +kernel), z_m 79 (by decide +kernel) (by decide +kernel), z_m 132 (by decide +kernel) (by decide +kernel), z_m 1491 (by decide +kernel) (by decide +kernel), by decide +kernel, by decide +kernel, by decide +kernel⟩
def y_Mod_isMember : MethodName := ⟨"StreamForgeModel", "isMember", "()Z"⟩
theorem yi_Mod_isMember : z_yV y_Mod_isMember prog_14_method_20_code 2 (some .boolean) 0 := ⟨z_m 1486 (by decide +kernel) (by decide +kernel), z_m 78 (by decide +kernel) (by decide +kernel), z_m 132 (by decide +kernel) (by decide +kernel), z_m 1487 (by decide +kernel) (by decide +kernel), by decide +kernel, by decide +kernel, by decide +kernel⟩
def y_Mod_set : MethodName := ⟨"StreamForgeModel", "set", "(I)V"⟩
theorem yi_Mod_set : z_yV y_Mod_set prog_14_method_21_code 8 none 1 := ⟨z_m 1482 (by decide +kernel) (by decide +kernel), z_m 77 (by decide +kernel) (by decide +kernel), z_m 132 (by decide +kernel) (by decide +kernel), z_m 1483 (by decide +kernel) (by decide +kernel), by decide +kernel, by decide +kernel, by decide +kernel⟩
def y_Mod_star : MethodName := ⟨"StreamForgeModel", "star", "()V"⟩
theorem yi_Mod_star : z_yV y_Mod_star prog_14_method_22_code 1 none 0 := ⟨z_m 1495 (by decide +kernel) (by decide +kernel), z_m 80 (by decide +kernel) (by decide +kernel), z_m 132 (by decide +kernel) (by decide +kernel), z_m 1496 (by decide +kernel) (by decide +kernel), by decide +kernel, by decide +kernel, by decide +kernel⟩
def y_Mod_readPattern : MethodName := ⟨"StreamForgeModel", "readPattern", "()I"⟩
theorem yi_Mod_readPattern : z_yV y_Mod_readPattern prog_14_method_23_code 3 (some .int) 0 := ⟨z_m 1466 (by decide +kernel) (by decide +kernel), z_m 73 (by decide +kernel) (by decide +kernel), z_m 132 (by decide +kernel) (by decide +kernel), z_m 1467 (by decide +kernel) (by decide +kernel), by decide +kernel, by decide +kernel, by decide +kernel⟩
def y_Mod_address : MethodName := ⟨"StreamForgeModel", "address", "()I"⟩
theorem yi_Mod_address : z_yV y_Mod_address prog_14_method_24_code 2 (some .int) 0 := ⟨z_m 1458 (by decide +kernel) (by decide +kernel), z_m 71 (by decide +kernel) (by decide +kernel), z_m 132 (by decide +kernel) (by decide +kernel), z_m 1459 (by decide +kernel) (by decide +kernel), by decide +kernel, by decide +kernel, by decide +kernel⟩
def y_Mod_blanks : MethodName := ⟨"StreamForgeModel", "blanks", "()V"⟩
theorem yi_Mod_blanks : z_yV y_Mod_blanks prog_14_method_25_code 1 none 0 := ⟨z_m 1499 (by decide +kernel) (by decide +kernel), z_m 81 (by decide +kernel) (by decide +kernel), z_m 132 (by decide +kernel) (by decide +kernel), z_m 1500 (by decide +kernel) (by decide +kernel), by decide +kernel, by decide +kernel, by decide +kernel⟩
def y_Mod_replacement : MethodName := ⟨"StreamForgeModel", "replacement", "(I)V"⟩
theorem yi_Mod_replacement : z_yV y_Mod_replacement prog_14_method_26_code 4 none 1 := ⟨z_m 1523 (by decide +kernel) (by decide +kernel), z_m 87 (by decide +kernel) (by decide +kernel), z_m 132 (by decide +kernel) (by decide +kernel), z_m 1524 (by decide +kernel) (by decide +kernel), by decide +kernel, by decide +kernel, by decide +kernel⟩
def y_Mod_substitute : MethodName := ⟨"StreamForgeModel", "substitute", "(I)V"⟩
theorem yi_Mod_substitute : z_yV y_Mod_substitute prog_14_method_27_code 4 none 1 := ⟨z_m 1515 (by decide +kernel) (by decide +kernel), z_m 85 (by decide +kernel) (by decide +kernel), z_m 132 (by decide +kernel) (by decide +kernel), z_m 1516 (by decide +kernel) (by decide +kernel), by decide +kernel, by decide +kernel, by decide +kernel⟩
def y_Mod_exchange : MethodName := ⟨"StreamForgeModel", "exchange", "(I)V"⟩
theorem yi_Mod_exchange : z_yV y_Mod_exchange prog_14_method_28_code 5 none 1 := ⟨z_m 1535 (by decide +kernel) (by decide +kernel), z_m 90 (by decide +kernel) (by decide +kernel), z_m 132 (by decide +kernel) (by decide +kernel), z_m 1536 (by decide +kernel) (by decide +kernel), by decide +kernel, by decide +kernel, by decide +kernel⟩
def y_Mod_readText : MethodName := ⟨"StreamForgeModel", "readText", "(I)V"⟩
theorem yi_Mod_readText : z_yV y_Mod_readText prog_14_method_29_code 2 none 1 := ⟨z_m 1539 (by decide +kernel) (by decide +kernel), z_m 91 (by decide +kernel) (by decide +kernel), z_m 132 (by decide +kernel) (by decide +kernel), z_m 1540 (by decide +kernel) (by decide +kernel), by decide +kernel, by decide +kernel, by decide +kernel⟩
def y_Mod_isPlain : MethodName := ⟨"StreamForgeModel", "isPlain", "(I)Z"⟩
theorem yi_Mod_isPlain : z_yS y_Mod_isPlain prog_14_method_30_code 1 (some .boolean) 1 := ⟨z_m 1542 (by decide +kernel) (by decide +kernel), z_m 132 (by decide +kernel) (by decide +kernel), z_m 1543 (by decide +kernel) (by decide +kernel), by decide +kernel, by decide +kernel, by decide +kernel⟩
def y_Mod_closed : MethodName := ⟨"StreamForgeModel", "closed", "()V"⟩
theorem yi_Mod_closed : z_yV y_Mod_closed prog_14_method_31_code 2 none 0 := ⟨z_m 1507 (by decide +kernel) (by decide +kernel), z_m 83 (by decide +kernel) (by decide +kernel), z_m 132 (by decide +kernel) (by decide +kernel), z_m 1508 (by decide +kernel) (by decide +kernel), by decide +kernel, by decide +kernel, by decide +kernel⟩
def y_Mod_label : MethodName := ⟨"StreamForgeModel", "label", "(IZ)V"⟩
theorem yi_Mod_label : z_yV y_Mod_label prog_14_method_32_code 4 none 2 := ⟨z_m 1503 (by decide +kernel) (by decide +kernel), z_m 82 (by decide +kernel) (by decide +kernel), z_m 132 (by decide +kernel) (by decide +kernel), z_m 1504 (by decide +kernel) (by decide +kernel), by decide +kernel, by decide +kernel, by decide +kernel⟩
def y_Mod_branch : MethodName := ⟨"StreamForgeModel", "branch", "(I)V"⟩
theorem yi_Mod_branch : z_yV y_Mod_branch prog_14_method_33_code 2 none 1 := ⟨z_m 1511 (by decide +kernel) (by decide +kernel), z_m 84 (by decide +kernel) (by decide +kernel), z_m 132 (by decide +kernel) (by decide +kernel), z_m 1512 (by decide +kernel) (by decide +kernel), by decide +kernel, by decide +kernel, by decide +kernel⟩
def y_Mod_command : MethodName := ⟨"StreamForgeModel", "command", "()V"⟩
theorem yi_Mod_command : z_yV y_Mod_command prog_14_method_34_code 3 none 0 := ⟨z_m 1454 (by decide +kernel) (by decide +kernel), z_m 70 (by decide +kernel) (by decide +kernel), z_m 132 (by decide +kernel) (by decide +kernel), z_m 1455 (by decide +kernel) (by decide +kernel), by decide +kernel, by decide +kernel, by decide +kernel⟩
def y_Mod_goals : MethodName := ⟨"StreamForgeModel", "goals", "()V"⟩
theorem yi_Mod_goals : z_yV y_Mod_goals prog_14_method_35_code 3 none 0 := ⟨z_m 1546 (by decide +kernel) (by decide +kernel), z_m 92 (by decide +kernel) (by decide +kernel), z_m 132 (by decide +kernel) (by decide +kernel), z_m 1547 (by decide +kernel) (by decide +kernel), by decide +kernel, by decide +kernel, by decide +kernel⟩
def y_Mod_parse : MethodName := ⟨"StreamForgeModel", "parse", "()I"⟩
theorem yi_Mod_parse : z_yV y_Mod_parse prog_14_method_36_code 2 (some .int) 0 := ⟨z_m 1445 (by decide +kernel) (by decide +kernel), z_m 1446 (by decide +kernel) (by decide +kernel), z_m 132 (by decide +kernel) (by decide +kernel), z_m 1447 (by decide +kernel) (by decide +kernel), by decide +kernel, by decide +kernel, by decide +kernel⟩
def y_Mod_where : MethodName := ⟨"StreamForgeModel", "where", "()I"⟩
theorem yi_Mod_where : z_yV y_Mod_where prog_14_method_37_code 1 (some .int) 0 := ⟨z_m 1549 (by decide +kernel) (by decide +kernel), z_m 1550 (by decide +kernel) (by decide +kernel), z_m 132 (by decide +kernel) (by decide +kernel), z_m 1551 (by decide +kernel) (by decide +kernel), by decide +kernel, by decide +kernel, by decide +kernel⟩
def y_Mod_fits : MethodName := ⟨"StreamForgeModel", "fits", "(II)Z"⟩
theorem yi_Mod_fits : z_yV y_Mod_fits prog_14_method_38_code 3 (some .boolean) 2 := ⟨z_m 1574 (by decide +kernel) (by decide +kernel), z_m 97 (by decide +kernel) (by decide +kernel), z_m 132 (by decide +kernel) (by decide +kernel), z_m 1575 (by decide +kernel) (by decide +kernel), by decide +kernel, by decide +kernel, by decide +kernel⟩
def y_Mod_way : MethodName := ⟨"StreamForgeModel", "way", "(IIII)I"⟩
theorem yi_Mod_way : z_yV y_Mod_way prog_14_method_39_code 13 (some .int) 4 := ⟨z_m 1570 (by decide +kernel) (by decide +kernel), z_m 96 (by decide +kernel) (by decide +kernel), z_m 132 (by decide +kernel) (by decide +kernel), z_m 1571 (by decide +kernel) (by decide +kernel), by decide +kernel, by decide +kernel, by decide +kernel⟩
def y_Mod_starsOf : MethodName := ⟨"StreamForgeModel", "starsOf", "(I)I"⟩
theorem yi_Mod_starsOf : z_yV y_Mod_starsOf prog_14_method_40_code 4 (some .int) 1 := ⟨z_m 1566 (by decide +kernel) (by decide +kernel), z_m 95 (by decide +kernel) (by decide +kernel), z_m 132 (by decide +kernel) (by decide +kernel), z_m 1567 (by decide +kernel) (by decide +kernel), by decide +kernel, by decide +kernel, by decide +kernel⟩
def y_Mod_find : MethodName := ⟨"StreamForgeModel", "find", "(II)Z"⟩
theorem yi_Mod_find : z_yV y_Mod_find prog_14_method_41_code 13 (some .boolean) 2 := ⟨z_m 1562 (by decide +kernel) (by decide +kernel), z_m 94 (by decide +kernel) (by decide +kernel), z_m 132 (by decide +kernel) (by decide +kernel), z_m 1563 (by decide +kernel) (by decide +kernel), by decide +kernel, by decide +kernel, by decide +kernel⟩
def y_Mod_takeSpace : MethodName := ⟨"StreamForgeModel", "takeSpace", "()V"⟩
theorem yi_Mod_takeSpace : z_yV y_Mod_takeSpace prog_14_method_42_code 2 none 0 := ⟨z_m 1614 (by decide +kernel) (by decide +kernel), z_m 106 (by decide +kernel) (by decide +kernel), z_m 132 (by decide +kernel) (by decide +kernel), z_m 1615 (by decide +kernel) (by decide +kernel), by decide +kernel, by decide +kernel, by decide +kernel⟩
def y_Mod_takeLine : MethodName := ⟨"StreamForgeModel", "takeLine", "(I)V"⟩
theorem yi_Mod_takeLine : z_yV y_Mod_takeLine prog_14_method_43_code 3 none 1 := ⟨z_m 1558 (by decide +kernel) (by decide +kernel), z_m 93 (by decide +kernel) (by decide +kernel), z_m 132 (by decide +kernel) (by decide +kernel), z_m 1559 (by decide +kernel) (by decide +kernel), by decide +kernel, by decide +kernel, by decide +kernel⟩
def y_Mod_match : MethodName := ⟨"StreamForgeModel", "match", "(III)I"⟩
theorem yi_Mod_match : z_yV y_Mod_match prog_14_method_44_code 6 (some .int) 3 := ⟨z_m 1553 (by decide +kernel) (by decide +kernel), z_m 1554 (by decide +kernel) (by decide +kernel), z_m 132 (by decide +kernel) (by decide +kernel), z_m 1555 (by decide +kernel) (by decide +kernel), by decide +kernel, by decide +kernel, by decide +kernel⟩
def y_Mod_full : MethodName := ⟨"StreamForgeModel", "full", "()Z"⟩
theorem yi_Mod_full : z_yV y_Mod_full prog_14_method_45_code 1 (some .boolean) 0 := ⟨z_m 1598 (by decide +kernel) (by decide +kernel), z_m 102 (by decide +kernel) (by decide +kernel), z_m 132 (by decide +kernel) (by decide +kernel), z_m 1599 (by decide +kernel) (by decide +kernel), by decide +kernel, by decide +kernel, by decide +kernel⟩
def y_Mod_tell : MethodName := ⟨"StreamForgeModel", "tell", "()Z"⟩
theorem yi_Mod_tell : z_yV y_Mod_tell prog_14_method_46_code 2 (some .boolean) 0 := ⟨z_m 1594 (by decide +kernel) (by decide +kernel), z_m 101 (by decide +kernel) (by decide +kernel), z_m 132 (by decide +kernel) (by decide +kernel), z_m 1595 (by decide +kernel) (by decide +kernel), by decide +kernel, by decide +kernel, by decide +kernel⟩
def y_Mod_tellSpace : MethodName := ⟨"StreamForgeModel", "tellSpace", "(Z)Z"⟩
theorem yi_Mod_tellSpace : z_yV y_Mod_tellSpace prog_14_method_47_code 4 (some .boolean) 1 := ⟨z_m 1590 (by decide +kernel) (by decide +kernel), z_m 100 (by decide +kernel) (by decide +kernel), z_m 132 (by decide +kernel) (by decide +kernel), z_m 1591 (by decide +kernel) (by decide +kernel), by decide +kernel, by decide +kernel, by decide +kernel⟩
def y_Mod_tellText : MethodName := ⟨"StreamForgeModel", "tellText", "(I)Z"⟩
theorem yi_Mod_tellText : z_yV y_Mod_tellText prog_14_method_48_code 3 (some .boolean) 1 := ⟨z_m 1646 (by decide +kernel) (by decide +kernel), z_m 114 (by decide +kernel) (by decide +kernel), z_m 132 (by decide +kernel) (by decide +kernel), z_m 1647 (by decide +kernel) (by decide +kernel), by decide +kernel, by decide +kernel, by decide +kernel⟩
def y_Mod_tellAppended : MethodName := ⟨"StreamForgeModel", "tellAppended", "()Z"⟩
theorem yi_Mod_tellAppended : z_yV y_Mod_tellAppended prog_14_method_49_code 3 (some .boolean) 0 := ⟨z_m 1602 (by decide +kernel) (by decide +kernel), z_m 103 (by decide +kernel) (by decide +kernel), z_m 132 (by decide +kernel) (by decide +kernel), z_m 1603 (by decide +kernel) (by decide +kernel), by decide +kernel, by decide +kernel, by decide +kernel⟩
def y_Mod_tellNumber : MethodName := ⟨"StreamForgeModel", "tellNumber", "()Z"⟩
theorem yi_Mod_tellNumber : z_yV y_Mod_tellNumber prog_14_method_50_code 1 (some .boolean) 0 := ⟨z_m 1658 (by decide +kernel) (by decide +kernel), z_m 117 (by decide +kernel) (by decide +kernel), z_m 132 (by decide +kernel) (by decide +kernel), z_m 1659 (by decide +kernel) (by decide +kernel), by decide +kernel, by decide +kernel, by decide +kernel⟩
def y_Mod_fitsAddress : MethodName := ⟨"StreamForgeModel", "fitsAddress", "(II)Z"⟩
theorem yi_Mod_fitsAddress : z_yV y_Mod_fitsAddress prog_14_method_51_code 3 (some .boolean) 2 := ⟨z_m 1610 (by decide +kernel) (by decide +kernel), z_m 105 (by decide +kernel) (by decide +kernel), z_m 132 (by decide +kernel) (by decide +kernel), z_m 1611 (by decide +kernel) (by decide +kernel), by decide +kernel, by decide +kernel, by decide +kernel⟩
def y_Mod_isDone : MethodName := ⟨"StreamForgeModel", "isDone", "(I)Z"⟩
theorem yi_Mod_isDone : z_yV y_Mod_isDone prog_14_method_52_code 4 (some .boolean) 1 := ⟨z_m 1606 (by decide +kernel) (by decide +kernel), z_m 104 (by decide +kernel) (by decide +kernel), z_m 132 (by decide +kernel) (by decide +kernel), z_m 1607 (by decide +kernel) (by decide +kernel), by decide +kernel, by decide +kernel, by decide +kernel⟩
def y_Mod_readLine : MethodName := ⟨"StreamForgeModel", "readLine", "()V"⟩
theorem yi_Mod_readLine : z_yV y_Mod_readLine prog_14_method_53_code 2 none 0 := ⟨z_m 1582 (by decide +kernel) (by decide +kernel), z_m 98 (by decide +kernel) (by decide +kernel), z_m 132 (by decide +kernel) (by decide +kernel), z_m 1583 (by decide +kernel) (by decide +kernel), by decide +kernel, by decide +kernel, by decide +kernel⟩
def y_Mod_add : MethodName := ⟨"StreamForgeModel", "add", "(I)V"⟩
theorem yi_Mod_add : z_yV y_Mod_add prog_14_method_54_code 2 none 1 := ⟨z_m 1630 (by decide +kernel) (by decide +kernel), z_m 110 (by decide +kernel) (by decide +kernel), z_m 132 (by decide +kernel) (by decide +kernel), z_m 1631 (by decide +kernel) (by decide +kernel), by decide +kernel, by decide +kernel, by decide +kernel⟩
def y_Mod_copyOf : MethodName := ⟨"StreamForgeModel", "copyOf", "(II)V"⟩
theorem yi_Mod_copyOf : z_yV y_Mod_copyOf prog_14_method_55_code 4 none 2 := ⟨z_m 1626 (by decide +kernel) (by decide +kernel), z_m 109 (by decide +kernel) (by decide +kernel), z_m 132 (by decide +kernel) (by decide +kernel), z_m 1627 (by decide +kernel) (by decide +kernel), by decide +kernel, by decide +kernel, by decide +kernel⟩
def y_Mod_addReplacement : MethodName := ⟨"StreamForgeModel", "addReplacement", "(I)V"⟩
theorem yi_Mod_addReplacement : z_yV y_Mod_addReplacement prog_14_method_56_code 4 none 1 := ⟨z_m 1634 (by decide +kernel) (by decide +kernel), z_m 111 (by decide +kernel) (by decide +kernel), z_m 132 (by decide +kernel) (by decide +kernel), z_m 1635 (by decide +kernel) (by decide +kernel), by decide +kernel, by decide +kernel, by decide +kernel⟩
def y_Mod_substituted : MethodName := ⟨"StreamForgeModel", "substituted", "(I)Z"⟩
theorem yi_Mod_substituted : z_yV y_Mod_substituted prog_14_method_57_code 11 (some .boolean) 1 := ⟨z_m 1622 (by decide +kernel) (by decide +kernel), z_m 108 (by decide +kernel) (by decide +kernel), z_m 132 (by decide +kernel) (by decide +kernel), z_m 1623 (by decide +kernel) (by decide +kernel), by decide +kernel, by decide +kernel, by decide +kernel⟩
def y_Mod_exchanged : MethodName := ⟨"StreamForgeModel", "exchanged", "(I)V"⟩
theorem yi_Mod_exchanged : z_yV y_Mod_exchanged prog_14_method_58_code 6 none 1 := ⟨z_m 1638 (by decide +kernel) (by decide +kernel), z_m 112 (by decide +kernel) (by decide +kernel), z_m 132 (by decide +kernel) (by decide +kernel), z_m 1639 (by decide +kernel) (by decide +kernel), by decide +kernel, by decide +kernel, by decide +kernel⟩
def y_Mod_append : MethodName := ⟨"StreamForgeModel", "append", "(I)Z"⟩
theorem yi_Mod_append : z_yV y_Mod_append prog_14_method_59_code 4 (some .boolean) 1 := ⟨z_m 1642 (by decide +kernel) (by decide +kernel), z_m 113 (by decide +kernel) (by decide +kernel), z_m 132 (by decide +kernel) (by decide +kernel), z_m 1643 (by decide +kernel) (by decide +kernel), by decide +kernel, by decide +kernel, by decide +kernel⟩
def y_Mod_holds : MethodName := ⟨"StreamForgeModel", "holds", "(I)Z"⟩
theorem yi_Mod_holds : z_yV y_Mod_holds prog_14_method_60_code 4 (some .boolean) 1 := ⟨z_m 1662 (by decide +kernel) (by decide +kernel), z_m 118 (by decide +kernel) (by decide +kernel), z_m 132 (by decide +kernel) (by decide +kernel), z_m 1663 (by decide +kernel) (by decide +kernel), by decide +kernel, by decide +kernel, by decide +kernel⟩
def y_Mod_endCycle : MethodName := ⟨"StreamForgeModel", "endCycle", "(Z)I"⟩
theorem yi_Mod_endCycle : z_yV y_Mod_endCycle prog_14_method_61_code 3 (some .int) 1 := ⟨z_m 1586 (by decide +kernel) (by decide +kernel), z_m 99 (by decide +kernel) (by decide +kernel), z_m 132 (by decide +kernel) (by decide +kernel), z_m 1587 (by decide +kernel) (by decide +kernel), by decide +kernel, by decide +kernel, by decide +kernel⟩
def y_Mod_nextLine : MethodName := ⟨"StreamForgeModel", "nextLine", "(II)I"⟩
theorem yi_Mod_nextLine : z_yV y_Mod_nextLine prog_14_method_62_code 6 (some .int) 2 := ⟨z_m 1654 (by decide +kernel) (by decide +kernel), z_m 116 (by decide +kernel) (by decide +kernel), z_m 132 (by decide +kernel) (by decide +kernel), z_m 1655 (by decide +kernel) (by decide +kernel), by decide +kernel, by decide +kernel, by decide +kernel⟩
def y_Mod_cut : MethodName := ⟨"StreamForgeModel", "cut", "()I"⟩
theorem yi_Mod_cut : z_yV y_Mod_cut prog_14_method_63_code 4 (some .int) 0 := ⟨z_m 1650 (by decide +kernel) (by decide +kernel), z_m 115 (by decide +kernel) (by decide +kernel), z_m 132 (by decide +kernel) (by decide +kernel), z_m 1651 (by decide +kernel) (by decide +kernel), by decide +kernel, by decide +kernel, by decide +kernel⟩
def y_Mod_perform : MethodName := ⟨"StreamForgeModel", "perform", "(II)I"⟩
theorem yi_Mod_perform : z_yV y_Mod_perform prog_14_method_64_code 4 (some .int) 2 := ⟨z_m 1618 (by decide +kernel) (by decide +kernel), z_m 107 (by decide +kernel) (by decide +kernel), z_m 132 (by decide +kernel) (by decide +kernel), z_m 1619 (by decide +kernel) (by decide +kernel), by decide +kernel, by decide +kernel, by decide +kernel⟩
def y_Mod_run : MethodName := ⟨"StreamForgeModel", "run", "()I"⟩
theorem yi_Mod_run : z_yV y_Mod_run prog_14_method_65_code 4 (some .int) 0 := ⟨z_m 1577 (by decide +kernel) (by decide +kernel), z_m 1578 (by decide +kernel) (by decide +kernel), z_m 132 (by decide +kernel) (by decide +kernel), z_m 1579 (by decide +kernel) (by decide +kernel), by decide +kernel, by decide +kernel, by decide +kernel⟩
def y_Mod_out : MethodName := ⟨"StreamForgeModel", "out", "(I)I"⟩
theorem yi_Mod_out : z_yV y_Mod_out prog_14_method_66_code 2 (some .int) 1 := ⟨z_m 1665 (by decide +kernel) (by decide +kernel), z_m 1666 (by decide +kernel) (by decide +kernel), z_m 132 (by decide +kernel) (by decide +kernel), z_m 1667 (by decide +kernel) (by decide +kernel), by decide +kernel, by decide +kernel, by decide +kernel⟩
def y_Mod_ran : MethodName := ⟨"StreamForgeModel", "ran", "(I)I"⟩
theorem yi_Mod_ran : z_yV y_Mod_ran prog_14_method_67_code 2 (some .int) 1 := ⟨z_m 1669 (by decide +kernel) (by decide +kernel), z_m 1670 (by decide +kernel) (by decide +kernel), z_m 132 (by decide +kernel) (by decide +kernel), z_m 1671 (by decide +kernel) (by decide +kernel), by decide +kernel, by decide +kernel, by decide +kernel⟩
def y_Mod_count : MethodName := ⟨"StreamForgeModel", "count", "(I)I"⟩
theorem yi_Mod_count : z_yV y_Mod_count prog_14_method_68_code 2 (some .int) 1 := ⟨z_m 1673 (by decide +kernel) (by decide +kernel), z_m 1674 (by decide +kernel) (by decide +kernel), z_m 132 (by decide +kernel) (by decide +kernel), z_m 1675 (by decide +kernel) (by decide +kernel), by decide +kernel, by decide +kernel, by decide +kernel⟩
def y_Addr_init : MethodName := ⟨"StreamForge$Address", "<init>", "()V"⟩
def y_Cmd_init : MethodName := ⟨"StreamForge$Command", "<init>", "()V"⟩
def y_Cmd_reset : MethodName := ⟨"StreamForge$Command", "reset", "()V"⟩
theorem yi_Cmd_reset : z_yV y_Cmd_reset prog_3_method_2_code 1 none 0 := ⟨z_m 740 (by decide +kernel) (by decide +kernel), z_m 741 (by decide +kernel) (by decide +kernel), z_m 129 (by decide +kernel) (by decide +kernel), z_m 742 (by decide +kernel) (by decide +kernel), by decide +kernel, by decide +kernel, by decide +kernel⟩
def y_Cmd_replaces : MethodName := ⟨"StreamForge$Command", "replaces", "(I)Z"⟩
theorem yi_Cmd_replaces : z_yV y_Cmd_replaces prog_3_method_3_code 3 (some .boolean) 1 := ⟨z_m 1055 (by decide +kernel) (by decide +kernel), z_m 1056 (by decide +kernel) (by decide +kernel), z_m 129 (by decide +kernel) (by decide +kernel), z_m 1057 (by decide +kernel) (by decide +kernel), by decide +kernel, by decide +kernel, by decide +kernel⟩
def y_Cur_init : MethodName := ⟨"StreamForge$Cursor", "<init>", "()V"⟩
def y_Cur_look : MethodName := ⟨"StreamForge$Cursor", "look", "(I)I"⟩
theorem yi_Cur_look : z_yV y_Cur_look prog_4_method_2_code 3 (some .int) 1 := ⟨z_m 724 (by decide +kernel) (by decide +kernel), z_m 725 (by decide +kernel) (by decide +kernel), z_m 123 (by decide +kernel) (by decide +kernel), z_m 726 (by decide +kernel) (by decide +kernel), by decide +kernel, by decide +kernel, by decide +kernel⟩
def y_Cur_refuse : MethodName := ⟨"StreamForge$Cursor", "refuse", "(I)Z"⟩
theorem yi_Cur_refuse : z_yV y_Cur_refuse prog_4_method_3_code 2 (some .boolean) 1 := ⟨z_m 732 (by decide +kernel) (by decide +kernel), z_m 733 (by decide +kernel) (by decide +kernel), z_m 123 (by decide +kernel) (by decide +kernel), z_m 734 (by decide +kernel) (by decide +kernel), by decide +kernel, by decide +kernel, by decide +kernel⟩
def y_Cur_pass : MethodName := ⟨"StreamForge$Cursor", "pass", "(I)Z"⟩
theorem yi_Cur_pass : z_yV y_Cur_pass prog_4_method_4_code 2 (some .boolean) 1 := ⟨z_m 817 (by decide +kernel) (by decide +kernel), z_m 818 (by decide +kernel) (by decide +kernel), z_m 123 (by decide +kernel) (by decide +kernel), z_m 819 (by decide +kernel) (by decide +kernel), by decide +kernel, by decide +kernel, by decide +kernel⟩
def y_Ed_init : MethodName := ⟨"StreamForge$Editor", "<init>", "()V"⟩
def y_Ed_edit : MethodName := ⟨"StreamForge$Editor", "edit", "(LStreamForge$Program;[LStreamForge$Row;I)V"⟩
theorem yi_Ed_edit : z_yV y_Ed_edit prog_5_method_2_code 6 none 3 := ⟨z_m 937 (by decide +kernel) (by decide +kernel), z_m 938 (by decide +kernel) (by decide +kernel), z_m 125 (by decide +kernel) (by decide +kernel), z_m 939 (by decide +kernel) (by decide +kernel), by decide +kernel, by decide +kernel, by decide +kernel⟩
def y_Ed_begin : MethodName := ⟨"StreamForge$Editor", "begin", "()V"⟩
theorem yi_Ed_begin : z_yV y_Ed_begin prog_5_method_3_code 2 none 0 := ⟨z_m 942 (by decide +kernel) (by decide +kernel), z_m 34 (by decide +kernel) (by decide +kernel), z_m 125 (by decide +kernel) (by decide +kernel), z_m 943 (by decide +kernel) (by decide +kernel), by decide +kernel, by decide +kernel, by decide +kernel⟩
def y_Ed_beginLine : MethodName := ⟨"StreamForge$Editor", "beginLine", "()V"⟩
theorem yi_Ed_beginLine : z_yV y_Ed_beginLine prog_5_method_4_code 1 none 0 := ⟨z_m 947 (by decide +kernel) (by decide +kernel), z_m 35 (by decide +kernel) (by decide +kernel), z_m 125 (by decide +kernel) (by decide +kernel), z_m 948 (by decide +kernel) (by decide +kernel), by decide +kernel, by decide +kernel, by decide +kernel⟩
def y_Ed_beginCycle : MethodName := ⟨"StreamForge$Editor", "beginCycle", "()V"⟩
theorem yi_Ed_beginCycle : z_yV y_Ed_beginCycle prog_5_method_5_code 1 none 0 := ⟨z_m 956 (by decide +kernel) (by decide +kernel), z_m 37 (by decide +kernel) (by decide +kernel), z_m 125 (by decide +kernel) (by decide +kernel), z_m 957 (by decide +kernel) (by decide +kernel), by decide +kernel, by decide +kernel, by decide +kernel⟩
def y_Ed_readLine : MethodName := ⟨"StreamForge$Editor", "readLine", "()V"⟩
theorem yi_Ed_readLine : z_yV y_Ed_readLine prog_5_method_6_code 2 none 0 := ⟨z_m 951 (by decide +kernel) (by decide +kernel), z_m 36 (by decide +kernel) (by decide +kernel), z_m 125 (by decide +kernel) (by decide +kernel), z_m 952 (by decide +kernel) (by decide +kernel), by decide +kernel, by decide +kernel, by decide +kernel⟩
def y_Ed_endCycle : MethodName := ⟨"StreamForge$Editor", "endCycle", "(Z)V"⟩
theorem yi_Ed_endCycle : z_yV y_Ed_endCycle prog_5_method_7_code 2 none 1 := ⟨z_m 960 (by decide +kernel) (by decide +kernel), z_m 38 (by decide +kernel) (by decide +kernel), z_m 125 (by decide +kernel) (by decide +kernel), z_m 961 (by decide +kernel) (by decide +kernel), by decide +kernel, by decide +kernel, by decide +kernel⟩
def y_Ed_quit : MethodName := ⟨"StreamForge$Editor", "quit", "()V"⟩
theorem yi_Ed_quit : z_yV y_Ed_quit prog_5_method_8_code 1 none 0 := ⟨z_m 1113 (by decide +kernel) (by decide +kernel), z_m 61 (by decide +kernel) (by decide +kernel), z_m 125 (by decide +kernel) (by decide +kernel), z_m 1114 (by decide +kernel) (by decide +kernel), by decide +kernel, by decide +kernel, by decide +kernel⟩
def y_Ed_tell : MethodName := ⟨"StreamForge$Editor", "tell", "(LStreamForge$Row;II)V"⟩
theorem yi_Ed_tell : z_yV y_Ed_tell prog_5_method_9_code 4 none 3 := ⟨z_m 964 (by decide +kernel) (by decide +kernel), z_m 39 (by decide +kernel) (by decide +kernel), z_m 125 (by decide +kernel) (by decide +kernel), z_m 965 (by decide +kernel) (by decide +kernel), by decide +kernel, by decide +kernel, by decide +kernel⟩
def y_Ed_tellAppended : MethodName := ⟨"StreamForge$Editor", "tellAppended", "()V"⟩
theorem yi_Ed_tellAppended : z_yV y_Ed_tellAppended prog_5_method_10_code 3 none 0 := ⟨z_m 985 (by decide +kernel) (by decide +kernel), z_m 40 (by decide +kernel) (by decide +kernel), z_m 125 (by decide +kernel) (by decide +kernel), z_m 986 (by decide +kernel) (by decide +kernel), by decide +kernel, by decide +kernel, by decide +kernel⟩
def y_Ed_isDone : MethodName := ⟨"StreamForge$Editor", "isDone", "(LStreamForge$Command;)Z"⟩
theorem yi_Ed_isDone : z_yV y_Ed_isDone prog_5_method_11_code 3 (some .boolean) 1 := ⟨z_m 1004 (by decide +kernel) (by decide +kernel), z_m 41 (by decide +kernel) (by decide +kernel), z_m 125 (by decide +kernel) (by decide +kernel), z_m 1005 (by decide +kernel) (by decide +kernel), by decide +kernel, by decide +kernel, by decide +kernel⟩
def y_Ed_isReached : MethodName := ⟨"StreamForge$Editor", "isReached", "(LStreamForge$Address;)Z"⟩
theorem yi_Ed_isReached : z_yV y_Ed_isReached prog_5_method_12_code 2 (some .boolean) 1 := ⟨z_m 1040 (by decide +kernel) (by decide +kernel), z_m 48 (by decide +kernel) (by decide +kernel), z_m 125 (by decide +kernel) (by decide +kernel), z_m 1041 (by decide +kernel) (by decide +kernel), by decide +kernel, by decide +kernel, by decide +kernel⟩
def y_Ed_fits : MethodName := ⟨"StreamForge$Editor", "fits", "(LStreamForge$Address;)Z"⟩
theorem yi_Ed_fits : z_yV y_Ed_fits prog_5_method_13_code 2 (some .boolean) 1 := ⟨z_m 1008 (by decide +kernel) (by decide +kernel), z_m 42 (by decide +kernel) (by decide +kernel), z_m 125 (by decide +kernel) (by decide +kernel), z_m 1009 (by decide +kernel) (by decide +kernel), by decide +kernel, by decide +kernel, by decide +kernel⟩
def y_Ed_perform : MethodName := ⟨"StreamForge$Editor", "perform", "(LStreamForge$Command;)V"⟩
theorem yi_Ed_perform : z_yV y_Ed_perform prog_5_method_14_code 2 none 1 := ⟨z_m 1044 (by decide +kernel) (by decide +kernel), z_m 49 (by decide +kernel) (by decide +kernel), z_m 125 (by decide +kernel) (by decide +kernel), z_m 1045 (by decide +kernel) (by decide +kernel), by decide +kernel, by decide +kernel, by decide +kernel⟩
def y_Ed_branchIfReplaced : MethodName := ⟨"StreamForge$Editor", "branchIfReplaced", "(LStreamForge$Command;)V"⟩
theorem yi_Ed_branchIfReplaced : z_yV y_Ed_branchIfReplaced prog_5_method_15_code 2 none 1 := ⟨z_m 1048 (by decide +kernel) (by decide +kernel), z_m 50 (by decide +kernel) (by decide +kernel), z_m 125 (by decide +kernel) (by decide +kernel), z_m 1049 (by decide +kernel) (by decide +kernel), by decide +kernel, by decide +kernel, by decide +kernel⟩
def y_Ed_append : MethodName := ⟨"StreamForge$Editor", "append", "(LStreamForge$Command;)V"⟩
theorem yi_Ed_append : z_yV y_Ed_append prog_5_method_16_code 2 none 1 := ⟨z_m 1092 (by decide +kernel) (by decide +kernel), z_m 57 (by decide +kernel) (by decide +kernel), z_m 125 (by decide +kernel) (by decide +kernel), z_m 1093 (by decide +kernel) (by decide +kernel), by decide +kernel, by decide +kernel, by decide +kernel⟩
def y_Ed_change : MethodName := ⟨"StreamForge$Editor", "change", "(LStreamForge$Command;)V"⟩
theorem yi_Ed_change : z_yV y_Ed_change prog_5_method_17_code 2 none 1 := ⟨z_m 1096 (by decide +kernel) (by decide +kernel), z_m 58 (by decide +kernel) (by decide +kernel), z_m 125 (by decide +kernel) (by decide +kernel), z_m 1097 (by decide +kernel) (by decide +kernel), by decide +kernel, by decide +kernel, by decide +kernel⟩
def y_Ed_deleteFirst : MethodName := ⟨"StreamForge$Editor", "deleteFirst", "()V"⟩
theorem yi_Ed_deleteFirst : z_yV y_Ed_deleteFirst prog_5_method_18_code 2 none 0 := ⟨z_m 1100 (by decide +kernel) (by decide +kernel), z_m 59 (by decide +kernel) (by decide +kernel), z_m 125 (by decide +kernel) (by decide +kernel), z_m 1101 (by decide +kernel) (by decide +kernel), by decide +kernel, by decide +kernel, by decide +kernel⟩
def y_Ed_replaceByNext : MethodName := ⟨"StreamForge$Editor", "replaceByNext", "()V"⟩
theorem yi_Ed_replaceByNext : z_yV y_Ed_replaceByNext prog_5_method_19_code 1 none 0 := ⟨z_m 1109 (by decide +kernel) (by decide +kernel), z_m 60 (by decide +kernel) (by decide +kernel), z_m 125 (by decide +kernel) (by decide +kernel), z_m 1110 (by decide +kernel) (by decide +kernel), by decide +kernel, by decide +kernel, by decide +kernel⟩
def y_Ed_joinNext : MethodName := ⟨"StreamForge$Editor", "joinNext", "()V"⟩
theorem yi_Ed_joinNext : z_yV y_Ed_joinNext prog_5_method_20_code 1 none 0 := ⟨z_m 1117 (by decide +kernel) (by decide +kernel), z_m 62 (by decide +kernel) (by decide +kernel), z_m 125 (by decide +kernel) (by decide +kernel), z_m 1118 (by decide +kernel) (by decide +kernel), by decide +kernel, by decide +kernel, by decide +kernel⟩
def y_Ed_copy : MethodName := ⟨"StreamForge$Editor", "copy", "(LStreamForge$Row;LStreamForge$Row;)V"⟩
theorem yi_Ed_copy : z_yV y_Ed_copy prog_5_method_21_code 3 none 2 := ⟨z_m 1121 (by decide +kernel) (by decide +kernel), z_m 63 (by decide +kernel) (by decide +kernel), z_m 125 (by decide +kernel) (by decide +kernel), z_m 1122 (by decide +kernel) (by decide +kernel), by decide +kernel, by decide +kernel, by decide +kernel⟩
def y_Ed_join : MethodName := ⟨"StreamForge$Editor", "join", "(LStreamForge$Row;LStreamForge$Row;)V"⟩
theorem yi_Ed_join : z_yV y_Ed_join prog_5_method_22_code 3 none 2 := ⟨z_m 1125 (by decide +kernel) (by decide +kernel), z_m 64 (by decide +kernel) (by decide +kernel), z_m 125 (by decide +kernel) (by decide +kernel), z_m 1126 (by decide +kernel) (by decide +kernel), by decide +kernel, by decide +kernel, by decide +kernel⟩
def y_Ed_swap : MethodName := ⟨"StreamForge$Editor", "swap", "()V"⟩
theorem yi_Ed_swap : z_yV y_Ed_swap prog_5_method_23_code 2 none 0 := ⟨z_m 1129 (by decide +kernel) (by decide +kernel), z_m 65 (by decide +kernel) (by decide +kernel), z_m 125 (by decide +kernel) (by decide +kernel), z_m 1130 (by decide +kernel) (by decide +kernel), by decide +kernel, by decide +kernel, by decide +kernel⟩
def y_Ed_tellNumber : MethodName := ⟨"StreamForge$Editor", "tellNumber", "()V"⟩
theorem yi_Ed_tellNumber : z_yV y_Ed_tellNumber prog_5_method_24_code 1 none 0 := ⟨z_m 1133 (by decide +kernel) (by decide +kernel), z_m 66 (by decide +kernel) (by decide +kernel), z_m 125 (by decide +kernel) (by decide +kernel), z_m 1134 (by decide +kernel) (by decide +kernel), by decide +kernel, by decide +kernel, by decide +kernel⟩
def y_Ed_exchange : MethodName := ⟨"StreamForge$Editor", "exchange", "(LStreamForge$Command;)V"⟩
theorem yi_Ed_exchange : z_yV y_Ed_exchange prog_5_method_25_code 4 none 1 := ⟨z_m 1088 (by decide +kernel) (by decide +kernel), z_m 56 (by decide +kernel) (by decide +kernel), z_m 125 (by decide +kernel) (by decide +kernel), z_m 1089 (by decide +kernel) (by decide +kernel), by decide +kernel, by decide +kernel, by decide +kernel⟩
def y_Ed_substitute : MethodName := ⟨"StreamForge$Editor", "substitute", "(LStreamForge$Command;)V"⟩
theorem yi_Ed_substitute : z_yV y_Ed_substitute prog_5_method_26_code 10 none 1 := ⟨z_m 1052 (by decide +kernel) (by decide +kernel), z_m 51 (by decide +kernel) (by decide +kernel), z_m 125 (by decide +kernel) (by decide +kernel), z_m 1053 (by decide +kernel) (by decide +kernel), by decide +kernel, by decide +kernel, by decide +kernel⟩
def y_Ed_takeDraft : MethodName := ⟨"StreamForge$Editor", "takeDraft", "(LStreamForge$Command;I)V"⟩
theorem yi_Ed_takeDraft : z_yV y_Ed_takeDraft prog_5_method_27_code 4 none 2 := ⟨z_m 1084 (by decide +kernel) (by decide +kernel), z_m 55 (by decide +kernel) (by decide +kernel), z_m 125 (by decide +kernel) (by decide +kernel), z_m 1085 (by decide +kernel) (by decide +kernel), by decide +kernel, by decide +kernel, by decide +kernel⟩
def y_Ed_draftPart : MethodName := ⟨"StreamForge$Editor", "draftPart", "(II)V"⟩
theorem yi_Ed_draftPart : z_yV y_Ed_draftPart prog_5_method_28_code 3 none 2 := ⟨z_m 1063 (by decide +kernel) (by decide +kernel), z_m 52 (by decide +kernel) (by decide +kernel), z_m 125 (by decide +kernel) (by decide +kernel), z_m 1064 (by decide +kernel) (by decide +kernel), by decide +kernel, by decide +kernel, by decide +kernel⟩
def y_Ed_draftReplacement : MethodName := ⟨"StreamForge$Editor", "draftReplacement", "(LStreamForge$Command;)V"⟩
theorem yi_Ed_draftReplacement : z_yV y_Ed_draftReplacement prog_5_method_29_code 4 none 1 := ⟨z_m 1067 (by decide +kernel) (by decide +kernel), z_m 53 (by decide +kernel) (by decide +kernel), z_m 125 (by decide +kernel) (by decide +kernel), z_m 1068 (by decide +kernel) (by decide +kernel), by decide +kernel, by decide +kernel, by decide +kernel⟩
def y_Ed_draftCharacter : MethodName := ⟨"StreamForge$Editor", "draftCharacter", "(I)V"⟩
theorem yi_Ed_draftCharacter : z_yV y_Ed_draftCharacter prog_5_method_30_code 2 none 1 := ⟨z_m 1080 (by decide +kernel) (by decide +kernel), z_m 54 (by decide +kernel) (by decide +kernel), z_m 125 (by decide +kernel) (by decide +kernel), z_m 1081 (by decide +kernel) (by decide +kernel), by decide +kernel, by decide +kernel, by decide +kernel⟩
def y_It_init : MethodName := ⟨"StreamForge$Items", "<init>", "()V"⟩
def y_It_add : MethodName := ⟨"StreamForge$Items", "add", "(II)V"⟩
theorem yi_It_add : z_yV y_It_add prog_6_method_2_code 3 none 2 := ⟨z_m 781 (by decide +kernel) (by decide +kernel), z_m 782 (by decide +kernel) (by decide +kernel), z_m 128 (by decide +kernel) (by decide +kernel), z_m 783 (by decide +kernel) (by decide +kernel), by decide +kernel, by decide +kernel, by decide +kernel⟩
def y_It_allow : MethodName := ⟨"StreamForge$Items", "allow", "(II)V"⟩
theorem yi_It_allow : z_yV y_It_allow prog_6_method_3_code 6 none 2 := ⟨z_m 797 (by decide +kernel) (by decide +kernel), z_m 798 (by decide +kernel) (by decide +kernel), z_m 128 (by decide +kernel) (by decide +kernel), z_m 799 (by decide +kernel) (by decide +kernel), by decide +kernel, by decide +kernel, by decide +kernel⟩
def y_It_turn : MethodName := ⟨"StreamForge$Items", "turn", "()V"⟩
theorem yi_It_turn : z_yV y_It_turn prog_6_method_4_code 2 none 0 := ⟨z_m 812 (by decide +kernel) (by decide +kernel), z_m 813 (by decide +kernel) (by decide +kernel), z_m 128 (by decide +kernel) (by decide +kernel), z_m 814 (by decide +kernel) (by decide +kernel), by decide +kernel, by decide +kernel, by decide +kernel⟩
def y_It_takes : MethodName := ⟨"StreamForge$Items", "takes", "(II)Z"⟩
theorem yi_It_takes : z_yV y_It_takes prog_6_method_5_code 6 (some .boolean) 2 := ⟨z_m 1027 (by decide +kernel) (by decide +kernel), z_m 1028 (by decide +kernel) (by decide +kernel), z_m 128 (by decide +kernel) (by decide +kernel), z_m 1029 (by decide +kernel) (by decide +kernel), by decide +kernel, by decide +kernel, by decide +kernel⟩
def y_Ma_init : MethodName := ⟨"StreamForge$Matcher", "<init>", "()V"⟩
def y_Ma_find : MethodName := ⟨"StreamForge$Matcher", "find", "(LStreamForge$Items;LStreamForge$Pattern;LStreamForge$Row;I)Z"⟩
theorem yi_Ma_find : z_yV y_Ma_find prog_7_method_2_code 7 (some .boolean) 4 := ⟨z_m 1011 (by decide +kernel) (by decide +kernel), z_m 1012 (by decide +kernel) (by decide +kernel), z_m 126 (by decide +kernel) (by decide +kernel), z_m 1013 (by decide +kernel) (by decide +kernel), by decide +kernel, by decide +kernel, by decide +kernel⟩
def y_Ma_beginOf : MethodName := ⟨"StreamForge$Matcher", "beginOf", "(I)I"⟩
theorem yi_Ma_beginOf : z_yV y_Ma_beginOf prog_7_method_3_code 2 (some .int) 1 := ⟨z_m 1071 (by decide +kernel) (by decide +kernel), z_m 1072 (by decide +kernel) (by decide +kernel), z_m 126 (by decide +kernel) (by decide +kernel), z_m 1073 (by decide +kernel) (by decide +kernel), by decide +kernel, by decide +kernel, by decide +kernel⟩
def y_Ma_endOf : MethodName := ⟨"StreamForge$Matcher", "endOf", "(I)I"⟩
theorem yi_Ma_endOf : z_yV y_Ma_endOf prog_7_method_4_code 2 (some .int) 1 := ⟨z_m 1075 (by decide +kernel) (by decide +kernel), z_m 1076 (by decide +kernel) (by decide +kernel), z_m 126 (by decide +kernel) (by decide +kernel), z_m 1077 (by decide +kernel) (by decide +kernel), by decide +kernel, by decide +kernel, by decide +kernel⟩
def y_Ma_told : MethodName := ⟨"StreamForge$Matcher", "told", "(I)I"⟩
theorem yi_Ma_told : z_yV y_Ma_told prog_7_method_5_code 5 (some .int) 1 := ⟨z_m 1161 (by decide +kernel) (by decide +kernel), z_m 1162 (by decide +kernel) (by decide +kernel), z_m 126 (by decide +kernel) (by decide +kernel), z_m 1163 (by decide +kernel) (by decide +kernel), by decide +kernel, by decide +kernel, by decide +kernel⟩
def y_Ma_findLongest : MethodName := ⟨"StreamForge$Matcher", "findLongest", "(I)Z"⟩
theorem yi_Ma_findLongest : z_yV y_Ma_findLongest prog_7_method_6_code 6 (some .boolean) 1 := ⟨z_m 1016 (by decide +kernel) (by decide +kernel), z_m 43 (by decide +kernel) (by decide +kernel), z_m 126 (by decide +kernel) (by decide +kernel), z_m 1017 (by decide +kernel) (by decide +kernel), by decide +kernel, by decide +kernel, by decide +kernel⟩
def y_Ma_keepIfLongest : MethodName := ⟨"StreamForge$Matcher", "keepIfLongest", "(II)V"⟩
theorem yi_Ma_keepIfLongest : z_yV y_Ma_keepIfLongest prog_7_method_7_code 4 none 2 := ⟨z_m 1036 (by decide +kernel) (by decide +kernel), z_m 47 (by decide +kernel) (by decide +kernel), z_m 126 (by decide +kernel) (by decide +kernel), z_m 1037 (by decide +kernel) (by decide +kernel), by decide +kernel, by decide +kernel, by decide +kernel⟩
def y_Ma_repeats : MethodName := ⟨"StreamForge$Matcher", "repeats", "(II)Z"⟩
theorem yi_Ma_repeats : z_yV y_Ma_repeats prog_7_method_8_code 3 (some .boolean) 2 := ⟨z_m 1032 (by decide +kernel) (by decide +kernel), z_m 46 (by decide +kernel) (by decide +kernel), z_m 126 (by decide +kernel) (by decide +kernel), z_m 1033 (by decide +kernel) (by decide +kernel), by decide +kernel, by decide +kernel, by decide +kernel⟩
def y_Ma_walk : MethodName := ⟨"StreamForge$Matcher", "walk", "(III)I"⟩
theorem yi_Ma_walk : z_yV y_Ma_walk prog_7_method_9_code 7 (some .int) 3 := ⟨z_m 1020 (by decide +kernel) (by decide +kernel), z_m 44 (by decide +kernel) (by decide +kernel), z_m 126 (by decide +kernel) (by decide +kernel), z_m 1021 (by decide +kernel) (by decide +kernel), by decide +kernel, by decide +kernel, by decide +kernel⟩
def y_Ma_standsAgain : MethodName := ⟨"StreamForge$Matcher", "standsAgain", "(II)Z"⟩
theorem yi_Ma_standsAgain : z_yV y_Ma_standsAgain prog_7_method_10_code 6 (some .boolean) 2 := ⟨z_m 1024 (by decide +kernel) (by decide +kernel), z_m 45 (by decide +kernel) (by decide +kernel), z_m 126 (by decide +kernel) (by decide +kernel), z_m 1025 (by decide +kernel) (by decide +kernel), by decide +kernel, by decide +kernel, by decide +kernel⟩
def y_Pa_init : MethodName := ⟨"StreamForge$Parser", "<init>", "()V"⟩
def y_Pa_refusedAt : MethodName := ⟨"StreamForge$Parser", "refusedAt", "()I"⟩
theorem yi_Pa_refusedAt : z_yV y_Pa_refusedAt prog_8_method_2_code 1 (some .int) 0 := ⟨z_m 910 (by decide +kernel) (by decide +kernel), z_m 911 (by decide +kernel) (by decide +kernel), z_m 122 (by decide +kernel) (by decide +kernel), z_m 912 (by decide +kernel) (by decide +kernel), by decide +kernel, by decide +kernel, by decide +kernel⟩
def y_Pa_read : MethodName := ⟨"StreamForge$Parser", "read", "(LStreamForge$Row;LStreamForge$Program;)Z"⟩
theorem yi_Pa_read : z_yV y_Pa_read prog_8_method_3_code 5 (some .boolean) 2 := ⟨z_m 711 (by decide +kernel) (by decide +kernel), z_m 712 (by decide +kernel) (by decide +kernel), z_m 122 (by decide +kernel) (by decide +kernel), z_m 713 (by decide +kernel) (by decide +kernel), by decide +kernel, by decide +kernel, by decide +kernel⟩
def y_Pa_begin : MethodName := ⟨"StreamForge$Parser", "begin", "(LStreamForge$Row;LStreamForge$Program;)V"⟩
theorem yi_Pa_begin : z_yV y_Pa_begin prog_8_method_4_code 4 none 2 := ⟨z_m 716 (by decide +kernel) (by decide +kernel), z_m 1 (by decide +kernel) (by decide +kernel), z_m 122 (by decide +kernel) (by decide +kernel), z_m 717 (by decide +kernel) (by decide +kernel), by decide +kernel, by decide +kernel, by decide +kernel⟩
def y_Pa_closeBlock : MethodName := ⟨"StreamForge$Parser", "closeBlock", "()Z"⟩
theorem yi_Pa_closeBlock : z_yV y_Pa_closeBlock prog_8_method_5_code 1 (some .boolean) 0 := ⟨z_m 729 (by decide +kernel) (by decide +kernel), z_m 2 (by decide +kernel) (by decide +kernel), z_m 122 (by decide +kernel) (by decide +kernel), z_m 730 (by decide +kernel) (by decide +kernel), by decide +kernel, by decide +kernel, by decide +kernel⟩
def y_Pa_beginCommand : MethodName := ⟨"StreamForge$Parser", "beginCommand", "()Z"⟩
theorem yi_Pa_beginCommand : z_yV y_Pa_beginCommand prog_8_method_6_code 1 (some .boolean) 0 := ⟨z_m 737 (by decide +kernel) (by decide +kernel), z_m 3 (by decide +kernel) (by decide +kernel), z_m 122 (by decide +kernel) (by decide +kernel), z_m 738 (by decide +kernel) (by decide +kernel), by decide +kernel, by decide +kernel, by decide +kernel⟩
def y_Pa_readAddresses : MethodName := ⟨"StreamForge$Parser", "readAddresses", "()Z"⟩
theorem yi_Pa_readAddresses : z_yV y_Pa_readAddresses prog_8_method_7_code 1 (some .boolean) 0 := ⟨z_m 745 (by decide +kernel) (by decide +kernel), z_m 4 (by decide +kernel) (by decide +kernel), z_m 122 (by decide +kernel) (by decide +kernel), z_m 746 (by decide +kernel) (by decide +kernel), by decide +kernel, by decide +kernel, by decide +kernel⟩
def y_Pa_startsAddress : MethodName := ⟨"StreamForge$Parser", "startsAddress", "(I)Z"⟩
theorem yi_Pa_startsAddress : z_yS y_Pa_startsAddress prog_8_method_8_code 1 (some .boolean) 1 := ⟨z_m 748 (by decide +kernel) (by decide +kernel), z_m 122 (by decide +kernel) (by decide +kernel), z_m 749 (by decide +kernel) (by decide +kernel), by decide +kernel, by decide +kernel, by decide +kernel⟩
def y_Pa_passBlanks : MethodName := ⟨"StreamForge$Parser", "passBlanks", "()V"⟩
theorem yi_Pa_passBlanks : z_yV y_Pa_passBlanks prog_8_method_9_code 2 none 0 := ⟨z_m 840 (by decide +kernel) (by decide +kernel), z_m 20 (by decide +kernel) (by decide +kernel), z_m 122 (by decide +kernel) (by decide +kernel), z_m 841 (by decide +kernel) (by decide +kernel), by decide +kernel, by decide +kernel, by decide +kernel⟩
def y_Pa_readAddress : MethodName := ⟨"StreamForge$Parser", "readAddress", "(LStreamForge$Address;)Z"⟩
theorem yi_Pa_readAddress : z_yV y_Pa_readAddress prog_8_method_10_code 4 (some .boolean) 1 := ⟨z_m 752 (by decide +kernel) (by decide +kernel), z_m 5 (by decide +kernel) (by decide +kernel), z_m 122 (by decide +kernel) (by decide +kernel), z_m 753 (by decide +kernel) (by decide +kernel), by decide +kernel, by decide +kernel, by decide +kernel⟩
def y_Pa_readAction : MethodName := ⟨"StreamForge$Parser", "readAction", "()Z"⟩
theorem yi_Pa_readAction : z_yV y_Pa_readAction prog_8_method_11_code 2 (some .boolean) 0 := ⟨z_m 844 (by decide +kernel) (by decide +kernel), z_m 21 (by decide +kernel) (by decide +kernel), z_m 122 (by decide +kernel) (by decide +kernel), z_m 845 (by decide +kernel) (by decide +kernel), by decide +kernel, by decide +kernel, by decide +kernel⟩
def y_Pa_endCommand : MethodName := ⟨"StreamForge$Parser", "endCommand", "()Z"⟩
theorem yi_Pa_endCommand : z_yV y_Pa_endCommand prog_8_method_12_code 2 (some .boolean) 0 := ⟨z_m 859 (by decide +kernel) (by decide +kernel), z_m 24 (by decide +kernel) (by decide +kernel), z_m 122 (by decide +kernel) (by decide +kernel), z_m 860 (by decide +kernel) (by decide +kernel), by decide +kernel, by decide +kernel, by decide +kernel⟩
def y_Pa_openBlock : MethodName := ⟨"StreamForge$Parser", "openBlock", "()Z"⟩
theorem yi_Pa_openBlock : z_yV y_Pa_openBlock prog_8_method_13_code 1 (some .boolean) 0 := ⟨z_m 848 (by decide +kernel) (by decide +kernel), z_m 22 (by decide +kernel) (by decide +kernel), z_m 122 (by decide +kernel) (by decide +kernel), z_m 849 (by decide +kernel) (by decide +kernel), by decide +kernel, by decide +kernel, by decide +kernel⟩
def y_Pa_placeLabel : MethodName := ⟨"StreamForge$Parser", "placeLabel", "()Z"⟩
theorem yi_Pa_placeLabel : z_yV y_Pa_placeLabel prog_8_method_14_code 2 (some .boolean) 0 := ⟨z_m 852 (by decide +kernel) (by decide +kernel), z_m 23 (by decide +kernel) (by decide +kernel), z_m 122 (by decide +kernel) (by decide +kernel), z_m 853 (by decide +kernel) (by decide +kernel), by decide +kernel, by decide +kernel, by decide +kernel⟩
def y_Pa_readBranch : MethodName := ⟨"StreamForge$Parser", "readBranch", "()Z"⟩
theorem yi_Pa_readBranch : z_yV y_Pa_readBranch prog_8_method_15_code 2 (some .boolean) 0 := ⟨z_m 863 (by decide +kernel) (by decide +kernel), z_m 25 (by decide +kernel) (by decide +kernel), z_m 122 (by decide +kernel) (by decide +kernel), z_m 864 (by decide +kernel) (by decide +kernel), by decide +kernel, by decide +kernel, by decide +kernel⟩
def y_Pa_isLetter : MethodName := ⟨"StreamForge$Parser", "isLetter", "(I)Z"⟩
theorem yi_Pa_isLetter : z_yS y_Pa_isLetter prog_8_method_16_code 1 (some .boolean) 1 := ⟨z_m 855 (by decide +kernel) (by decide +kernel), z_m 122 (by decide +kernel) (by decide +kernel), z_m 856 (by decide +kernel) (by decide +kernel), by decide +kernel, by decide +kernel, by decide +kernel⟩
def y_Pa_readText : MethodName := ⟨"StreamForge$Parser", "readText", "()Z"⟩
theorem yi_Pa_readText : z_yV y_Pa_readText prog_8_method_17_code 1 (some .boolean) 0 := ⟨z_m 899 (by decide +kernel) (by decide +kernel), z_m 32 (by decide +kernel) (by decide +kernel), z_m 122 (by decide +kernel) (by decide +kernel), z_m 900 (by decide +kernel) (by decide +kernel), by decide +kernel, by decide +kernel, by decide +kernel⟩
def y_Pa_readSubstitution : MethodName := ⟨"StreamForge$Parser", "readSubstitution", "()Z"⟩
theorem yi_Pa_readSubstitution : z_yV y_Pa_readSubstitution prog_8_method_18_code 1 (some .boolean) 0 := ⟨z_m 867 (by decide +kernel) (by decide +kernel), z_m 26 (by decide +kernel) (by decide +kernel), z_m 122 (by decide +kernel) (by decide +kernel), z_m 868 (by decide +kernel) (by decide +kernel), by decide +kernel, by decide +kernel, by decide +kernel⟩
def y_Pa_readReplacement : MethodName := ⟨"StreamForge$Parser", "readReplacement", "()Z"⟩
theorem yi_Pa_readReplacement : z_yV y_Pa_readReplacement prog_8_method_19_code 3 (some .boolean) 0 := ⟨z_m 872 (by decide +kernel) (by decide +kernel), z_m 27 (by decide +kernel) (by decide +kernel), z_m 122 (by decide +kernel) (by decide +kernel), z_m 873 (by decide +kernel) (by decide +kernel), by decide +kernel, by decide +kernel, by decide +kernel⟩
def y_Pa_mayFollowBackslash : MethodName := ⟨"StreamForge$Parser", "mayFollowBackslash", "(I)Z"⟩
theorem yi_Pa_mayFollowBackslash : z_yV y_Pa_mayFollowBackslash prog_8_method_20_code 3 (some .boolean) 1 := ⟨z_m 876 (by decide +kernel) (by decide +kernel), z_m 28 (by decide +kernel) (by decide +kernel), z_m 122 (by decide +kernel) (by decide +kernel), z_m 877 (by decide +kernel) (by decide +kernel), by decide +kernel, by decide +kernel, by decide +kernel⟩
def y_Pa_readFlags : MethodName := ⟨"StreamForge$Parser", "readFlags", "()Z"⟩
theorem yi_Pa_readFlags : z_yV y_Pa_readFlags prog_8_method_21_code 3 (some .boolean) 0 := ⟨z_m 880 (by decide +kernel) (by decide +kernel), z_m 29 (by decide +kernel) (by decide +kernel), z_m 122 (by decide +kernel) (by decide +kernel), z_m 881 (by decide +kernel) (by decide +kernel), by decide +kernel, by decide +kernel, by decide +kernel⟩
def y_Pa_readExchange : MethodName := ⟨"StreamForge$Parser", "readExchange", "()Z"⟩
theorem yi_Pa_readExchange : z_yV y_Pa_readExchange prog_8_method_22_code 2 (some .boolean) 0 := ⟨z_m 884 (by decide +kernel) (by decide +kernel), z_m 30 (by decide +kernel) (by decide +kernel), z_m 122 (by decide +kernel) (by decide +kernel), z_m 885 (by decide +kernel) (by decide +kernel), by decide +kernel, by decide +kernel, by decide +kernel⟩
def y_Pa_isExchangeable : MethodName := ⟨"StreamForge$Parser", "isExchangeable", "(I)Z"⟩
theorem yi_Pa_isExchangeable : z_yS y_Pa_isExchangeable prog_8_method_23_code 1 (some .boolean) 1 := ⟨z_m 887 (by decide +kernel) (by decide +kernel), z_m 122 (by decide +kernel) (by decide +kernel), z_m 888 (by decide +kernel) (by decide +kernel), by decide +kernel, by decide +kernel, by decide +kernel⟩
def y_Pa_wasExchanged : MethodName := ⟨"StreamForge$Parser", "wasExchanged", "(I)Z"⟩
theorem yi_Pa_wasExchanged : z_yV y_Pa_wasExchanged prog_8_method_24_code 3 (some .boolean) 1 := ⟨z_m 891 (by decide +kernel) (by decide +kernel), z_m 31 (by decide +kernel) (by decide +kernel), z_m 122 (by decide +kernel) (by decide +kernel), z_m 892 (by decide +kernel) (by decide +kernel), by decide +kernel, by decide +kernel, by decide +kernel⟩
def y_Pa_joinLabels : MethodName := ⟨"StreamForge$Parser", "joinLabels", "()Z"⟩
theorem yi_Pa_joinLabels : z_yV y_Pa_joinLabels prog_8_method_25_code 3 (some .boolean) 0 := ⟨z_m 907 (by decide +kernel) (by decide +kernel), z_m 33 (by decide +kernel) (by decide +kernel), z_m 122 (by decide +kernel) (by decide +kernel), z_m 908 (by decide +kernel) (by decide +kernel), by decide +kernel, by decide +kernel, by decide +kernel⟩
def y_Pt_init : MethodName := ⟨"StreamForge$Pattern", "<init>", "()V"⟩
def y_Pr_init : MethodName := ⟨"StreamForge$PatternReader", "<init>", "(LStreamForge$Cursor;)V"⟩
def y_Pr_read : MethodName := ⟨"StreamForge$PatternReader", "read", "(LStreamForge$Pattern;LStreamForge$Items;)Z"⟩
theorem yi_Pr_read : z_yV y_Pr_read prog_10_method_2_code 6 (some .boolean) 2 := ⟨z_m 755 (by decide +kernel) (by decide +kernel), z_m 756 (by decide +kernel) (by decide +kernel), z_m 124 (by decide +kernel) (by decide +kernel), z_m 757 (by decide +kernel) (by decide +kernel), by decide +kernel, by decide +kernel, by decide +kernel⟩
def y_Pr_begin : MethodName := ⟨"StreamForge$PatternReader", "begin", "(LStreamForge$Pattern;LStreamForge$Items;)V"⟩
theorem yi_Pr_begin : z_yV y_Pr_begin prog_10_method_3_code 3 none 2 := ⟨z_m 760 (by decide +kernel) (by decide +kernel), z_m 6 (by decide +kernel) (by decide +kernel), z_m 124 (by decide +kernel) (by decide +kernel), z_m 761 (by decide +kernel) (by decide +kernel), by decide +kernel, by decide +kernel, by decide +kernel⟩
def y_Pr_finish : MethodName := ⟨"StreamForge$PatternReader", "finish", "()V"⟩
theorem yi_Pr_finish : z_yV y_Pr_finish prog_10_method_4_code 1 none 0 := ⟨z_m 836 (by decide +kernel) (by decide +kernel), z_m 19 (by decide +kernel) (by decide +kernel), z_m 124 (by decide +kernel) (by decide +kernel), z_m 837 (by decide +kernel) (by decide +kernel), by decide +kernel, by decide +kernel, by decide +kernel⟩
def y_Pr_readStar : MethodName := ⟨"StreamForge$PatternReader", "readStar", "()Z"⟩
theorem yi_Pr_readStar : z_yV y_Pr_readStar prog_10_method_5_code 1 (some .boolean) 0 := ⟨z_m 765 (by decide +kernel) (by decide +kernel), z_m 7 (by decide +kernel) (by decide +kernel), z_m 124 (by decide +kernel) (by decide +kernel), z_m 766 (by decide +kernel) (by decide +kernel), by decide +kernel, by decide +kernel, by decide +kernel⟩
def y_Pr_mayEnd : MethodName := ⟨"StreamForge$PatternReader", "mayEnd", "()Z"⟩
theorem yi_Pr_mayEnd : z_yV y_Pr_mayEnd prog_10_method_6_code 2 (some .boolean) 0 := ⟨z_m 824 (by decide +kernel) (by decide +kernel), z_m 16 (by decide +kernel) (by decide +kernel), z_m 124 (by decide +kernel) (by decide +kernel), z_m 825 (by decide +kernel) (by decide +kernel), by decide +kernel, by decide +kernel, by decide +kernel⟩
def y_Pr_readEnd : MethodName := ⟨"StreamForge$PatternReader", "readEnd", "()Z"⟩
theorem yi_Pr_readEnd : z_yV y_Pr_readEnd prog_10_method_7_code 1 (some .boolean) 0 := ⟨z_m 828 (by decide +kernel) (by decide +kernel), z_m 17 (by decide +kernel) (by decide +kernel), z_m 124 (by decide +kernel) (by decide +kernel), z_m 829 (by decide +kernel) (by decide +kernel), by decide +kernel, by decide +kernel, by decide +kernel⟩
def y_Pr_readPlain : MethodName := ⟨"StreamForge$PatternReader", "readPlain", "()Z"⟩
theorem yi_Pr_readPlain : z_yV y_Pr_readPlain prog_10_method_8_code 2 (some .boolean) 0 := ⟨z_m 832 (by decide +kernel) (by decide +kernel), z_m 18 (by decide +kernel) (by decide +kernel), z_m 124 (by decide +kernel) (by decide +kernel), z_m 833 (by decide +kernel) (by decide +kernel), by decide +kernel, by decide +kernel, by decide +kernel⟩
def y_Pr_addOne : MethodName := ⟨"StreamForge$PatternReader", "addOne", "()Z"⟩
theorem yi_Pr_addOne : z_yV y_Pr_addOne prog_10_method_9_code 1 (some .boolean) 0 := ⟨z_m 794 (by decide +kernel) (by decide +kernel), z_m 13 (by decide +kernel) (by decide +kernel), z_m 124 (by decide +kernel) (by decide +kernel), z_m 795 (by decide +kernel) (by decide +kernel), by decide +kernel, by decide +kernel, by decide +kernel⟩
def y_Pr_readEscape : MethodName := ⟨"StreamForge$PatternReader", "readEscape", "()Z"⟩
theorem yi_Pr_readEscape : z_yV y_Pr_readEscape prog_10_method_10_code 2 (some .boolean) 0 := ⟨z_m 770 (by decide +kernel) (by decide +kernel), z_m 8 (by decide +kernel) (by decide +kernel), z_m 124 (by decide +kernel) (by decide +kernel), z_m 771 (by decide +kernel) (by decide +kernel), by decide +kernel, by decide +kernel, by decide +kernel⟩
def y_Pr_mayEscape : MethodName := ⟨"StreamForge$PatternReader", "mayEscape", "()Z"⟩
theorem yi_Pr_mayEscape : z_yV y_Pr_mayEscape prog_10_method_11_code 1 (some .boolean) 0 := ⟨z_m 774 (by decide +kernel) (by decide +kernel), z_m 9 (by decide +kernel) (by decide +kernel), z_m 124 (by decide +kernel) (by decide +kernel), z_m 775 (by decide +kernel) (by decide +kernel), by decide +kernel, by decide +kernel, by decide +kernel⟩
def y_Pr_openGroup : MethodName := ⟨"StreamForge$PatternReader", "openGroup", "()Z"⟩
theorem yi_Pr_openGroup : z_yV y_Pr_openGroup prog_10_method_12_code 1 (some .boolean) 0 := ⟨z_m 778 (by decide +kernel) (by decide +kernel), z_m 10 (by decide +kernel) (by decide +kernel), z_m 124 (by decide +kernel) (by decide +kernel), z_m 779 (by decide +kernel) (by decide +kernel), by decide +kernel, by decide +kernel, by decide +kernel⟩
def y_Pr_closeGroup : MethodName := ⟨"StreamForge$PatternReader", "closeGroup", "()Z"⟩
theorem yi_Pr_closeGroup : z_yV y_Pr_closeGroup prog_10_method_13_code 1 (some .boolean) 0 := ⟨z_m 786 (by decide +kernel) (by decide +kernel), z_m 11 (by decide +kernel) (by decide +kernel), z_m 124 (by decide +kernel) (by decide +kernel), z_m 787 (by decide +kernel) (by decide +kernel), by decide +kernel, by decide +kernel, by decide +kernel⟩
def y_Pr_readSame : MethodName := ⟨"StreamForge$PatternReader", "readSame", "(I)Z"⟩
theorem yi_Pr_readSame : z_yV y_Pr_readSame prog_10_method_14_code 3 (some .boolean) 1 := ⟨z_m 790 (by decide +kernel) (by decide +kernel), z_m 12 (by decide +kernel) (by decide +kernel), z_m 124 (by decide +kernel) (by decide +kernel), z_m 791 (by decide +kernel) (by decide +kernel), by decide +kernel, by decide +kernel, by decide +kernel⟩
def y_Pr_readSet : MethodName := ⟨"StreamForge$PatternReader", "readSet", "()Z"⟩
theorem yi_Pr_readSet : z_yV y_Pr_readSet prog_10_method_15_code 4 (some .boolean) 0 := ⟨z_m 802 (by decide +kernel) (by decide +kernel), z_m 14 (by decide +kernel) (by decide +kernel), z_m 124 (by decide +kernel) (by decide +kernel), z_m 803 (by decide +kernel) (by decide +kernel), by decide +kernel, by decide +kernel, by decide +kernel⟩
def y_Pr_readRange : MethodName := ⟨"StreamForge$PatternReader", "readRange", "()Z"⟩
theorem yi_Pr_readRange : z_yV y_Pr_readRange prog_10_method_16_code 3 (some .boolean) 0 := ⟨z_m 806 (by decide +kernel) (by decide +kernel), z_m 15 (by decide +kernel) (by decide +kernel), z_m 124 (by decide +kernel) (by decide +kernel), z_m 807 (by decide +kernel) (by decide +kernel), by decide +kernel, by decide +kernel, by decide +kernel⟩
def y_Pr_isOutsideSets : MethodName := ⟨"StreamForge$PatternReader", "isOutsideSets", "(I)Z"⟩
theorem yi_Pr_isOutsideSets : z_yS y_Pr_isOutsideSets prog_10_method_17_code 1 (some .boolean) 1 := ⟨z_m 809 (by decide +kernel) (by decide +kernel), z_m 124 (by decide +kernel) (by decide +kernel), z_m 810 (by decide +kernel) (by decide +kernel), by decide +kernel, by decide +kernel, by decide +kernel⟩
def y_Prog_init : MethodName := ⟨"StreamForge$Program", "<init>", "()V"⟩
def y_Row_init : MethodName := ⟨"StreamForge$Row", "<init>", "(I)V"⟩
def y_Row_hasRoom : MethodName := ⟨"StreamForge$Row", "hasRoom", "(I)Z"⟩
theorem yi_Row_hasRoom : z_yV y_Row_hasRoom prog_12_method_2_code 2 (some .boolean) 1 := ⟨z_m 667 (by decide +kernel) (by decide +kernel), z_m 668 (by decide +kernel) (by decide +kernel), z_m 121 (by decide +kernel) (by decide +kernel), z_m 669 (by decide +kernel) (by decide +kernel), by decide +kernel, by decide +kernel, by decide +kernel⟩
def y_Row_at : MethodName := ⟨"StreamForge$Row", "at", "(I)I"⟩
theorem yi_Row_at : z_yV y_Row_at prog_12_method_3_code 2 (some .int) 1 := ⟨z_m 894 (by decide +kernel) (by decide +kernel), z_m 895 (by decide +kernel) (by decide +kernel), z_m 121 (by decide +kernel) (by decide +kernel), z_m 896 (by decide +kernel) (by decide +kernel), by decide +kernel, by decide +kernel, by decide +kernel⟩
def y_Row_empty : MethodName := ⟨"StreamForge$Row", "empty", "()V"⟩
theorem yi_Row_empty : z_yV y_Row_empty prog_12_method_4_code 1 none 0 := ⟨z_m 700 (by decide +kernel) (by decide +kernel), z_m 701 (by decide +kernel) (by decide +kernel), z_m 121 (by decide +kernel) (by decide +kernel), z_m 702 (by decide +kernel) (by decide +kernel), by decide +kernel, by decide +kernel, by decide +kernel⟩
def y_Row_add : MethodName := ⟨"StreamForge$Row", "add", "(I)V"⟩
theorem yi_Row_add : z_yV y_Row_add prog_12_method_5_code 2 none 1 := ⟨z_m 689 (by decide +kernel) (by decide +kernel), z_m 690 (by decide +kernel) (by decide +kernel), z_m 121 (by decide +kernel) (by decide +kernel), z_m 691 (by decide +kernel) (by decide +kernel), by decide +kernel, by decide +kernel, by decide +kernel⟩
def y_Row_addPart : MethodName := ⟨"StreamForge$Row", "addPart", "(LStreamForge$Row;II)V"⟩
theorem yi_Row_addPart : z_yV y_Row_addPart prog_12_method_6_code 5 none 3 := ⟨z_m 720 (by decide +kernel) (by decide +kernel), z_m 721 (by decide +kernel) (by decide +kernel), z_m 121 (by decide +kernel) (by decide +kernel), z_m 722 (by decide +kernel) (by decide +kernel), by decide +kernel, by decide +kernel, by decide +kernel⟩
def y_Row_dropFirst : MethodName := ⟨"StreamForge$Row", "dropFirst", "(I)V"⟩
theorem yi_Row_dropFirst : z_yV y_Row_dropFirst prog_12_method_7_code 3 none 1 := ⟨z_m 1104 (by decide +kernel) (by decide +kernel), z_m 1105 (by decide +kernel) (by decide +kernel), z_m 121 (by decide +kernel) (by decide +kernel), z_m 1106 (by decide +kernel) (by decide +kernel), by decide +kernel, by decide +kernel, by decide +kernel⟩
def y_Row_newlineFrom : MethodName := ⟨"StreamForge$Row", "newlineFrom", "(I)I"⟩
theorem yi_Row_newlineFrom : z_yV y_Row_newlineFrom prog_12_method_8_code 3 (some .int) 1 := ⟨z_m 902 (by decide +kernel) (by decide +kernel), z_m 903 (by decide +kernel) (by decide +kernel), z_m 121 (by decide +kernel) (by decide +kernel), z_m 904 (by decide +kernel) (by decide +kernel), by decide +kernel, by decide +kernel, by decide +kernel⟩
def y_Law_script : MethodName := ⟨"StreamForgeLaw", "script", "(LStreamForge;J[J)I"⟩
def y_Law_clear : MethodName := ⟨"StreamForgeLaw", "clear", "(LStreamForge;I[J)I"⟩
def y_Law_parse : MethodName := ⟨"StreamForgeLaw", "parse", "(LStreamForge;[J)I"⟩
def y_Law_line : MethodName := ⟨"StreamForgeLaw", "line", "(LStreamForge;JJ[J)I"⟩
def y_Law_more : MethodName := ⟨"StreamForgeLaw", "more", "(LStreamForge;J[J)I"⟩
def y_Law_run : MethodName := ⟨"StreamForgeLaw", "run", "(LStreamForge;[J)I"⟩
def y_Law_out : MethodName := ⟨"StreamForgeLaw", "out", "(LStreamForge;I[J)I"⟩
def y_Law_ran : MethodName := ⟨"StreamForgeLaw", "ran", "(LStreamForge;I[J)I"⟩
def y_Law_match : MethodName := ⟨"StreamForgeLaw", "match", "(LStreamForge;III[J)I"⟩
def y_Law_count : MethodName := ⟨"StreamForgeLaw", "count", "(LStreamForge;I[J)I"⟩
def y_Law_law : MethodName := ⟨"StreamForgeLaw", "law", "([I)Z"⟩
theorem wm_Law_52 : Cond.methodLink "StreamForgeLaw" 52 y_SF_init ∈ zT := z_m 143 (by decide +kernel) (by decide +kernel)
theorem wm_SF_11 : Cond.methodLink "StreamForge" 11 y_Row_init ∈ zT := z_m 151 (by decide +kernel) (by decide +kernel)
theorem wm_Pa_20 : Cond.methodLink "StreamForge$Parser" 20 y_Pr_init ∈ zT := z_m 200 (by decide +kernel) (by decide +kernel)
theorem wm_Ed_11 : Cond.methodLink "StreamForge$Editor" 11 y_Row_init ∈ zT := z_m 256 (by decide +kernel) (by decide +kernel)
theorem wm_SF_45 : Cond.methodLink "StreamForge" 45 y_Prog_init ∈ zT := z_m 356 (by decide +kernel) (by decide +kernel)
theorem wm_Prog_11 : Cond.methodLink "StreamForge$Program" 11 y_Row_init ∈ zT := z_m 361 (by decide +kernel) (by decide +kernel)
theorem wm_Law_75 : Cond.methodLink "StreamForgeLaw" 75 y_SF_where ∈ zT := z_m 580 (by decide +kernel) (by decide +kernel)
theorem wm_Law_58 : Cond.methodLink "StreamForgeLaw" 58 y_Law_script ∈ zT := z_m 584 (by decide +kernel) (by decide +kernel)
theorem wm_Law_7 : Cond.methodLink "StreamForgeLaw" 7 y_SF_script ∈ zT := z_m 589 (by decide +kernel) (by decide +kernel)
theorem wm_SF_57 : Cond.methodLink "StreamForge" 57 y_SF_isText ∈ zT := z_m 593 (by decide +kernel) (by decide +kernel)
theorem wm_SF_158 : Cond.methodLink "StreamForge" 158 y_SF_byteOf ∈ zT := z_m 596 (by decide +kernel) (by decide +kernel)
theorem wm_SF_64 : Cond.methodLink "StreamForge" 64 y_SF_textLength ∈ zT := z_m 663 (by decide +kernel) (by decide +kernel)
theorem wm_SF_68 : Cond.methodLink "StreamForge" 68 y_Row_hasRoom ∈ zT := z_m 666 (by decide +kernel) (by decide +kernel)
theorem wm_SF_75 : Cond.methodLink "StreamForge" 75 y_SF_addText ∈ zT := z_m 685 (by decide +kernel) (by decide +kernel)
theorem wm_SF_162 : Cond.methodLink "StreamForge" 162 y_Row_add ∈ zT := z_m 688 (by decide +kernel) (by decide +kernel)
theorem wm_Law_67 : Cond.methodLink "StreamForgeLaw" 67 y_Law_clear ∈ zT := z_m 692 (by decide +kernel) (by decide +kernel)
theorem wm_Law_17 : Cond.methodLink "StreamForgeLaw" 17 y_SF_clear ∈ zT := z_m 695 (by decide +kernel) (by decide +kernel)
theorem wm_SF_82 : Cond.methodLink "StreamForge" 82 y_Row_empty ∈ zT := z_m 699 (by decide +kernel) (by decide +kernel)
theorem wm_Law_71 : Cond.methodLink "StreamForgeLaw" 71 y_Law_parse ∈ zT := z_m 703 (by decide +kernel) (by decide +kernel)
theorem wm_Law_21 : Cond.methodLink "StreamForgeLaw" 21 y_SF_parse ∈ zT := z_m 706 (by decide +kernel) (by decide +kernel)
theorem wm_SF_88 : Cond.methodLink "StreamForge" 88 y_Pa_read ∈ zT := z_m 710 (by decide +kernel) (by decide +kernel)
theorem wm_Pa_38 : Cond.methodLink "StreamForge$Parser" 38 y_Pa_begin ∈ zT := z_m 714 (by decide +kernel) (by decide +kernel)
theorem wm_Pa_82 : Cond.methodLink "StreamForge$Parser" 82 y_Row_empty ∈ zT := z_m 718 (by decide +kernel) (by decide +kernel)
theorem wm_Pa_90 : Cond.methodLink "StreamForge$Parser" 90 y_Row_addPart ∈ zT := z_m 719 (by decide +kernel) (by decide +kernel)
theorem wm_Pa_42 : Cond.methodLink "StreamForge$Parser" 42 y_Cur_look ∈ zT := z_m 723 (by decide +kernel) (by decide +kernel)
theorem wm_Pa_49 : Cond.methodLink "StreamForge$Parser" 49 y_Pa_closeBlock ∈ zT := z_m 727 (by decide +kernel) (by decide +kernel)
theorem wm_Pa_68 : Cond.methodLink "StreamForge$Parser" 68 y_Cur_refuse ∈ zT := z_m 731 (by decide +kernel) (by decide +kernel)
theorem wm_Pa_53 : Cond.methodLink "StreamForge$Parser" 53 y_Pa_beginCommand ∈ zT := z_m 735 (by decide +kernel) (by decide +kernel)
theorem wm_Pa_118 : Cond.methodLink "StreamForge$Parser" 118 y_Cmd_reset ∈ zT := z_m 739 (by decide +kernel) (by decide +kernel)
theorem wm_Pa_56 : Cond.methodLink "StreamForge$Parser" 56 y_Pa_readAddresses ∈ zT := z_m 743 (by decide +kernel) (by decide +kernel)
theorem wm_Pa_121 : Cond.methodLink "StreamForge$Parser" 121 y_Pa_startsAddress ∈ zT := z_m 747 (by decide +kernel) (by decide +kernel)
theorem wm_Pa_128 : Cond.methodLink "StreamForge$Parser" 128 y_Pa_readAddress ∈ zT := z_m 750 (by decide +kernel) (by decide +kernel)
theorem wm_Pa_154 : Cond.methodLink "StreamForge$Parser" 154 y_Pr_read ∈ zT := z_m 754 (by decide +kernel) (by decide +kernel)
theorem wm_Pr_15 : Cond.methodLink "StreamForge$PatternReader" 15 y_Pr_begin ∈ zT := z_m 758 (by decide +kernel) (by decide +kernel)
theorem wm_Pr_19 : Cond.methodLink "StreamForge$PatternReader" 19 y_Cur_look ∈ zT := z_m 762 (by decide +kernel) (by decide +kernel)
theorem wm_Pr_25 : Cond.methodLink "StreamForge$PatternReader" 25 y_Pr_readStar ∈ zT := z_m 763 (by decide +kernel) (by decide +kernel)
theorem wm_Pr_51 : Cond.methodLink "StreamForge$PatternReader" 51 y_Cur_refuse ∈ zT := z_m 767 (by decide +kernel) (by decide +kernel)
theorem wm_Pr_29 : Cond.methodLink "StreamForge$PatternReader" 29 y_Pr_readEscape ∈ zT := z_m 768 (by decide +kernel) (by decide +kernel)
theorem wm_Pr_120 : Cond.methodLink "StreamForge$PatternReader" 120 y_Pr_mayEscape ∈ zT := z_m 772 (by decide +kernel) (by decide +kernel)
theorem wm_Pr_123 : Cond.methodLink "StreamForge$PatternReader" 123 y_Pr_openGroup ∈ zT := z_m 776 (by decide +kernel) (by decide +kernel)
theorem wm_Pr_117 : Cond.methodLink "StreamForge$PatternReader" 117 y_It_add ∈ zT := z_m 780 (by decide +kernel) (by decide +kernel)
theorem wm_Pr_126 : Cond.methodLink "StreamForge$PatternReader" 126 y_Pr_closeGroup ∈ zT := z_m 784 (by decide +kernel) (by decide +kernel)
theorem wm_Pr_129 : Cond.methodLink "StreamForge$PatternReader" 129 y_Pr_readSame ∈ zT := z_m 788 (by decide +kernel) (by decide +kernel)
theorem wm_Pr_107 : Cond.methodLink "StreamForge$PatternReader" 107 y_Pr_addOne ∈ zT := z_m 792 (by decide +kernel) (by decide +kernel)
theorem wm_Pr_113 : Cond.methodLink "StreamForge$PatternReader" 113 y_It_allow ∈ zT := z_m 796 (by decide +kernel) (by decide +kernel)
theorem wm_Pr_32 : Cond.methodLink "StreamForge$PatternReader" 32 y_Pr_readSet ∈ zT := z_m 800 (by decide +kernel) (by decide +kernel)
theorem wm_Pr_132 : Cond.methodLink "StreamForge$PatternReader" 132 y_Pr_readRange ∈ zT := z_m 804 (by decide +kernel) (by decide +kernel)
theorem wm_Pr_135 : Cond.methodLink "StreamForge$PatternReader" 135 y_Pr_isOutsideSets ∈ zT := z_m 808 (by decide +kernel) (by decide +kernel)
theorem wm_Pr_110 : Cond.methodLink "StreamForge$PatternReader" 110 y_It_turn ∈ zT := z_m 811 (by decide +kernel) (by decide +kernel)
theorem wm_Pr_55 : Cond.methodLink "StreamForge$PatternReader" 55 y_Cur_pass ∈ zT := z_m 816 (by decide +kernel) (by decide +kernel)
theorem wm_Cur_31 : Cond.methodLink "StreamForge$Cursor" 31 y_Cur_look ∈ zT := z_m 820 (by decide +kernel) (by decide +kernel)
theorem wm_Cur_35 : Cond.methodLink "StreamForge$Cursor" 35 y_Cur_refuse ∈ zT := z_m 821 (by decide +kernel) (by decide +kernel)
theorem wm_Pr_35 : Cond.methodLink "StreamForge$PatternReader" 35 y_Pr_mayEnd ∈ zT := z_m 822 (by decide +kernel) (by decide +kernel)
theorem wm_Pr_38 : Cond.methodLink "StreamForge$PatternReader" 38 y_Pr_readEnd ∈ zT := z_m 826 (by decide +kernel) (by decide +kernel)
theorem wm_Pr_41 : Cond.methodLink "StreamForge$PatternReader" 41 y_Pr_readPlain ∈ zT := z_m 830 (by decide +kernel) (by decide +kernel)
theorem wm_Pr_44 : Cond.methodLink "StreamForge$PatternReader" 44 y_Pr_finish ∈ zT := z_m 834 (by decide +kernel) (by decide +kernel)
theorem wm_Pa_138 : Cond.methodLink "StreamForge$Parser" 138 y_Pa_passBlanks ∈ zT := z_m 838 (by decide +kernel) (by decide +kernel)
theorem wm_Pa_59 : Cond.methodLink "StreamForge$Parser" 59 y_Pa_readAction ∈ zT := z_m 842 (by decide +kernel) (by decide +kernel)
theorem wm_Pa_163 : Cond.methodLink "StreamForge$Parser" 163 y_Pa_openBlock ∈ zT := z_m 846 (by decide +kernel) (by decide +kernel)
theorem wm_Pa_166 : Cond.methodLink "StreamForge$Parser" 166 y_Pa_placeLabel ∈ zT := z_m 850 (by decide +kernel) (by decide +kernel)
theorem wm_Pa_184 : Cond.methodLink "StreamForge$Parser" 184 y_Pa_isLetter ∈ zT := z_m 854 (by decide +kernel) (by decide +kernel)
theorem wm_Pa_169 : Cond.methodLink "StreamForge$Parser" 169 y_Pa_endCommand ∈ zT := z_m 857 (by decide +kernel) (by decide +kernel)
theorem wm_Pa_172 : Cond.methodLink "StreamForge$Parser" 172 y_Pa_readBranch ∈ zT := z_m 861 (by decide +kernel) (by decide +kernel)
theorem wm_Pa_175 : Cond.methodLink "StreamForge$Parser" 175 y_Pa_readSubstitution ∈ zT := z_m 865 (by decide +kernel) (by decide +kernel)
theorem wm_Pa_190 : Cond.methodLink "StreamForge$Parser" 190 y_Cur_pass ∈ zT := z_m 869 (by decide +kernel) (by decide +kernel)
theorem wm_Pa_203 : Cond.methodLink "StreamForge$Parser" 203 y_Pa_readReplacement ∈ zT := z_m 870 (by decide +kernel) (by decide +kernel)
theorem wm_Pa_209 : Cond.methodLink "StreamForge$Parser" 209 y_Pa_mayFollowBackslash ∈ zT := z_m 874 (by decide +kernel) (by decide +kernel)
theorem wm_Pa_206 : Cond.methodLink "StreamForge$Parser" 206 y_Pa_readFlags ∈ zT := z_m 878 (by decide +kernel) (by decide +kernel)
theorem wm_Pa_178 : Cond.methodLink "StreamForge$Parser" 178 y_Pa_readExchange ∈ zT := z_m 882 (by decide +kernel) (by decide +kernel)
theorem wm_Pa_226 : Cond.methodLink "StreamForge$Parser" 226 y_Pa_isExchangeable ∈ zT := z_m 886 (by decide +kernel) (by decide +kernel)
theorem wm_Pa_229 : Cond.methodLink "StreamForge$Parser" 229 y_Pa_wasExchanged ∈ zT := z_m 889 (by decide +kernel) (by decide +kernel)
theorem wm_Pa_235 : Cond.methodLink "StreamForge$Parser" 235 y_Row_at ∈ zT := z_m 893 (by decide +kernel) (by decide +kernel)
theorem wm_Pa_181 : Cond.methodLink "StreamForge$Parser" 181 y_Pa_readText ∈ zT := z_m 897 (by decide +kernel) (by decide +kernel)
theorem wm_Pa_196 : Cond.methodLink "StreamForge$Parser" 196 y_Row_newlineFrom ∈ zT := z_m 901 (by decide +kernel) (by decide +kernel)
theorem wm_Pa_65 : Cond.methodLink "StreamForge$Parser" 65 y_Pa_joinLabels ∈ zT := z_m 905 (by decide +kernel) (by decide +kernel)
theorem wm_SF_92 : Cond.methodLink "StreamForge" 92 y_Pa_refusedAt ∈ zT := z_m 909 (by decide +kernel) (by decide +kernel)
theorem wm_Law_79 : Cond.methodLink "StreamForgeLaw" 79 y_Law_line ∈ zT := z_m 913 (by decide +kernel) (by decide +kernel)
theorem wm_Law_25 : Cond.methodLink "StreamForgeLaw" 25 y_SF_line ∈ zT := z_m 916 (by decide +kernel) (by decide +kernel)
theorem wm_Law_83 : Cond.methodLink "StreamForgeLaw" 83 y_Law_more ∈ zT := z_m 920 (by decide +kernel) (by decide +kernel)
theorem wm_Law_29 : Cond.methodLink "StreamForgeLaw" 29 y_SF_more ∈ zT := z_m 923 (by decide +kernel) (by decide +kernel)
theorem wm_Law_86 : Cond.methodLink "StreamForgeLaw" 86 y_Law_run ∈ zT := z_m 927 (by decide +kernel) (by decide +kernel)
theorem wm_Law_32 : Cond.methodLink "StreamForgeLaw" 32 y_SF_run ∈ zT := z_m 932 (by decide +kernel) (by decide +kernel)
theorem wm_SF_102 : Cond.methodLink "StreamForge" 102 y_Ed_edit ∈ zT := z_m 936 (by decide +kernel) (by decide +kernel)
theorem wm_Ed_51 : Cond.methodLink "StreamForge$Editor" 51 y_Ed_begin ∈ zT := z_m 940 (by decide +kernel) (by decide +kernel)
theorem wm_Ed_96 : Cond.methodLink "StreamForge$Editor" 96 y_Row_empty ∈ zT := z_m 944 (by decide +kernel) (by decide +kernel)
theorem wm_Ed_111 : Cond.methodLink "StreamForge$Editor" 111 y_Ed_beginLine ∈ zT := z_m 945 (by decide +kernel) (by decide +kernel)
theorem wm_Ed_114 : Cond.methodLink "StreamForge$Editor" 114 y_Ed_readLine ∈ zT := z_m 949 (by decide +kernel) (by decide +kernel)
theorem wm_Ed_126 : Cond.methodLink "StreamForge$Editor" 126 y_Row_addPart ∈ zT := z_m 953 (by decide +kernel) (by decide +kernel)
theorem wm_Ed_117 : Cond.methodLink "StreamForge$Editor" 117 y_Ed_beginCycle ∈ zT := z_m 954 (by decide +kernel) (by decide +kernel)
theorem wm_Ed_66 : Cond.methodLink "StreamForge$Editor" 66 y_Ed_endCycle ∈ zT := z_m 958 (by decide +kernel) (by decide +kernel)
theorem wm_Ed_130 : Cond.methodLink "StreamForge$Editor" 130 y_Ed_tell ∈ zT := z_m 962 (by decide +kernel) (by decide +kernel)
theorem wm_Ed_136 : Cond.methodLink "StreamForge$Editor" 136 y_Row_hasRoom ∈ zT := z_m 966 (by decide +kernel) (by decide +kernel)
theorem wm_Ed_143 : Cond.methodLink "StreamForge$Editor" 143 y_Row_add ∈ zT := z_m 982 (by decide +kernel) (by decide +kernel)
theorem wm_Ed_133 : Cond.methodLink "StreamForge$Editor" 133 y_Ed_tellAppended ∈ zT := z_m 983 (by decide +kernel) (by decide +kernel)
theorem wm_Ed_80 : Cond.methodLink "StreamForge$Editor" 80 y_Ed_isDone ∈ zT := z_m 1002 (by decide +kernel) (by decide +kernel)
theorem wm_Ed_157 : Cond.methodLink "StreamForge$Editor" 157 y_Ed_fits ∈ zT := z_m 1006 (by decide +kernel) (by decide +kernel)
theorem wm_Ed_187 : Cond.methodLink "StreamForge$Editor" 187 y_Ma_find ∈ zT := z_m 1010 (by decide +kernel) (by decide +kernel)
theorem wm_Ma_48 : Cond.methodLink "StreamForge$Matcher" 48 y_Ma_findLongest ∈ zT := z_m 1014 (by decide +kernel) (by decide +kernel)
theorem wm_Ma_67 : Cond.methodLink "StreamForge$Matcher" 67 y_Ma_walk ∈ zT := z_m 1018 (by decide +kernel) (by decide +kernel)
theorem wm_Ma_103 : Cond.methodLink "StreamForge$Matcher" 103 y_Ma_standsAgain ∈ zT := z_m 1022 (by decide +kernel) (by decide +kernel)
theorem wm_Ma_92 : Cond.methodLink "StreamForge$Matcher" 92 y_It_takes ∈ zT := z_m 1026 (by decide +kernel) (by decide +kernel)
theorem wm_Ma_71 : Cond.methodLink "StreamForge$Matcher" 71 y_Ma_repeats ∈ zT := z_m 1030 (by decide +kernel) (by decide +kernel)
theorem wm_Ma_81 : Cond.methodLink "StreamForge$Matcher" 81 y_Ma_keepIfLongest ∈ zT := z_m 1034 (by decide +kernel) (by decide +kernel)
theorem wm_Ed_164 : Cond.methodLink "StreamForge$Editor" 164 y_Ed_isReached ∈ zT := z_m 1038 (by decide +kernel) (by decide +kernel)
theorem wm_Ed_84 : Cond.methodLink "StreamForge$Editor" 84 y_Ed_perform ∈ zT := z_m 1042 (by decide +kernel) (by decide +kernel)
theorem wm_Ed_191 : Cond.methodLink "StreamForge$Editor" 191 y_Ed_branchIfReplaced ∈ zT := z_m 1046 (by decide +kernel) (by decide +kernel)
theorem wm_Ed_194 : Cond.methodLink "StreamForge$Editor" 194 y_Ed_substitute ∈ zT := z_m 1050 (by decide +kernel) (by decide +kernel)
theorem wm_Ed_262 : Cond.methodLink "StreamForge$Editor" 262 y_Cmd_replaces ∈ zT := z_m 1054 (by decide +kernel) (by decide +kernel)
theorem wm_Ed_265 : Cond.methodLink "StreamForge$Editor" 265 y_Ed_draftPart ∈ zT := z_m 1061 (by decide +kernel) (by decide +kernel)
theorem wm_Ed_269 : Cond.methodLink "StreamForge$Editor" 269 y_Ed_draftReplacement ∈ zT := z_m 1065 (by decide +kernel) (by decide +kernel)
theorem wm_Ed_247 : Cond.methodLink "StreamForge$Editor" 247 y_Row_at ∈ zT := z_m 1069 (by decide +kernel) (by decide +kernel)
theorem wm_Ed_279 : Cond.methodLink "StreamForge$Editor" 279 y_Ma_beginOf ∈ zT := z_m 1070 (by decide +kernel) (by decide +kernel)
theorem wm_Ed_282 : Cond.methodLink "StreamForge$Editor" 282 y_Ma_endOf ∈ zT := z_m 1074 (by decide +kernel) (by decide +kernel)
theorem wm_Ed_285 : Cond.methodLink "StreamForge$Editor" 285 y_Ed_draftCharacter ∈ zT := z_m 1078 (by decide +kernel) (by decide +kernel)
theorem wm_Ed_272 : Cond.methodLink "StreamForge$Editor" 272 y_Ed_takeDraft ∈ zT := z_m 1082 (by decide +kernel) (by decide +kernel)
theorem wm_Ed_197 : Cond.methodLink "StreamForge$Editor" 197 y_Ed_exchange ∈ zT := z_m 1086 (by decide +kernel) (by decide +kernel)
theorem wm_Ed_200 : Cond.methodLink "StreamForge$Editor" 200 y_Ed_append ∈ zT := z_m 1090 (by decide +kernel) (by decide +kernel)
theorem wm_Ed_212 : Cond.methodLink "StreamForge$Editor" 212 y_Ed_change ∈ zT := z_m 1094 (by decide +kernel) (by decide +kernel)
theorem wm_Ed_215 : Cond.methodLink "StreamForge$Editor" 215 y_Ed_deleteFirst ∈ zT := z_m 1098 (by decide +kernel) (by decide +kernel)
theorem wm_Ed_218 : Cond.methodLink "StreamForge$Editor" 218 y_Row_newlineFrom ∈ zT := z_m 1102 (by decide +kernel) (by decide +kernel)
theorem wm_Ed_244 : Cond.methodLink "StreamForge$Editor" 244 y_Row_dropFirst ∈ zT := z_m 1103 (by decide +kernel) (by decide +kernel)
theorem wm_Ed_222 : Cond.methodLink "StreamForge$Editor" 222 y_Ed_replaceByNext ∈ zT := z_m 1107 (by decide +kernel) (by decide +kernel)
theorem wm_Ed_241 : Cond.methodLink "StreamForge$Editor" 241 y_Ed_quit ∈ zT := z_m 1111 (by decide +kernel) (by decide +kernel)
theorem wm_Ed_225 : Cond.methodLink "StreamForge$Editor" 225 y_Ed_joinNext ∈ zT := z_m 1115 (by decide +kernel) (by decide +kernel)
theorem wm_Ed_228 : Cond.methodLink "StreamForge$Editor" 228 y_Ed_copy ∈ zT := z_m 1119 (by decide +kernel) (by decide +kernel)
theorem wm_Ed_232 : Cond.methodLink "StreamForge$Editor" 232 y_Ed_join ∈ zT := z_m 1123 (by decide +kernel) (by decide +kernel)
theorem wm_Ed_235 : Cond.methodLink "StreamForge$Editor" 235 y_Ed_swap ∈ zT := z_m 1127 (by decide +kernel) (by decide +kernel)
theorem wm_Ed_238 : Cond.methodLink "StreamForge$Editor" 238 y_Ed_tellNumber ∈ zT := z_m 1131 (by decide +kernel) (by decide +kernel)
theorem wm_Law_89 : Cond.methodLink "StreamForgeLaw" 89 y_Law_out ∈ zT := z_m 1135 (by decide +kernel) (by decide +kernel)
theorem wm_Law_39 : Cond.methodLink "StreamForgeLaw" 39 y_SF_out ∈ zT := z_m 1138 (by decide +kernel) (by decide +kernel)
theorem wm_SF_109 : Cond.methodLink "StreamForge" 109 y_Row_at ∈ zT := z_m 1142 (by decide +kernel) (by decide +kernel)
theorem wm_Law_92 : Cond.methodLink "StreamForgeLaw" 92 y_Law_ran ∈ zT := z_m 1145 (by decide +kernel) (by decide +kernel)
theorem wm_Law_42 : Cond.methodLink "StreamForgeLaw" 42 y_SF_ran ∈ zT := z_m 1148 (by decide +kernel) (by decide +kernel)
theorem wm_Law_95 : Cond.methodLink "StreamForgeLaw" 95 y_Law_match ∈ zT := z_m 1152 (by decide +kernel) (by decide +kernel)
theorem wm_Law_45 : Cond.methodLink "StreamForgeLaw" 45 y_SF_match ∈ zT := z_m 1155 (by decide +kernel) (by decide +kernel)
theorem wm_SF_151 : Cond.methodLink "StreamForge" 151 y_Ma_find ∈ zT := z_m 1159 (by decide +kernel) (by decide +kernel)
theorem wm_SF_155 : Cond.methodLink "StreamForge" 155 y_Ma_told ∈ zT := z_m 1160 (by decide +kernel) (by decide +kernel)
theorem wm_Law_99 : Cond.methodLink "StreamForgeLaw" 99 y_Law_count ∈ zT := z_m 1164 (by decide +kernel) (by decide +kernel)
theorem wm_Law_49 : Cond.methodLink "StreamForgeLaw" 49 y_SF_count ∈ zT := z_m 1167 (by decide +kernel) (by decide +kernel)
theorem wm_Law_55 : Cond.methodLink "StreamForgeLaw" 55 y_Mod_init ∈ zT := z_m 1173 (by decide +kernel) (by decide +kernel)
theorem wm_Law_64 : Cond.methodLink "StreamForgeLaw" 64 y_Mod_thrown ∈ zT := z_m 1410 (by decide +kernel) (by decide +kernel)
theorem wm_Law_63 : Cond.methodLink "StreamForgeLaw" 63 y_Mod_script ∈ zT := z_m 1414 (by decide +kernel) (by decide +kernel)
theorem wm_Mod_158 : Cond.methodLink "StreamForgeModel" 158 y_Mod_measure ∈ zT := z_m 1418 (by decide +kernel) (by decide +kernel)
theorem wm_Mod_154 : Cond.methodLink "StreamForgeModel" 154 y_Mod_in ∈ zT := z_m 1421 (by decide +kernel) (by decide +kernel)
theorem wm_Mod_162 : Cond.methodLink "StreamForgeModel" 162 y_Mod_fail ∈ zT := z_m 1424 (by decide +kernel) (by decide +kernel)
theorem wm_Law_70 : Cond.methodLink "StreamForgeLaw" 70 y_Mod_clear ∈ zT := z_m 1428 (by decide +kernel) (by decide +kernel)
theorem wm_Law_82 : Cond.methodLink "StreamForgeLaw" 82 y_Mod_line ∈ zT := z_m 1432 (by decide +kernel) (by decide +kernel)
theorem wm_Mod_172 : Cond.methodLink "StreamForgeModel" 172 y_Mod_addTo ∈ zT := z_m 1436 (by decide +kernel) (by decide +kernel)
theorem wm_Law_85 : Cond.methodLink "StreamForgeLaw" 85 y_Mod_more ∈ zT := z_m 1440 (by decide +kernel) (by decide +kernel)
theorem wm_Law_74 : Cond.methodLink "StreamForgeLaw" 74 y_Mod_parse ∈ zT := z_m 1444 (by decide +kernel) (by decide +kernel)
theorem wm_Mod_187 : Cond.methodLink "StreamForgeModel" 187 y_Mod_wrong ∈ zT := z_m 1448 (by decide +kernel) (by decide +kernel)
theorem wm_Mod_287 : Cond.methodLink "StreamForgeModel" 287 y_Mod_command ∈ zT := z_m 1452 (by decide +kernel) (by decide +kernel)
theorem wm_Mod_255 : Cond.methodLink "StreamForgeModel" 255 y_Mod_address ∈ zT := z_m 1456 (by decide +kernel) (by decide +kernel)
theorem wm_Mod_183 : Cond.methodLink "StreamForgeModel" 183 y_Mod_here ∈ zT := z_m 1460 (by decide +kernel) (by decide +kernel)
theorem wm_Mod_237 : Cond.methodLink "StreamForgeModel" 237 y_Mod_readPattern ∈ zT := z_m 1464 (by decide +kernel) (by decide +kernel)
theorem wm_Mod_200 : Cond.methodLink "StreamForgeModel" 200 y_Mod_behind ∈ zT := z_m 1468 (by decide +kernel) (by decide +kernel)
theorem wm_Mod_225 : Cond.methodLink "StreamForgeModel" 225 y_Mod_escaped ∈ zT := z_m 1472 (by decide +kernel) (by decide +kernel)
theorem wm_Mod_209 : Cond.methodLink "StreamForgeModel" 209 y_Mod_addItem ∈ zT := z_m 1476 (by decide +kernel) (by decide +kernel)
theorem wm_Mod_228 : Cond.methodLink "StreamForgeModel" 228 y_Mod_set ∈ zT := z_m 1480 (by decide +kernel) (by decide +kernel)
theorem wm_Mod_213 : Cond.methodLink "StreamForgeModel" 213 y_Mod_isMember ∈ zT := z_m 1484 (by decide +kernel) (by decide +kernel)
theorem wm_Mod_217 : Cond.methodLink "StreamForgeModel" 217 y_Mod_put ∈ zT := z_m 1488 (by decide +kernel) (by decide +kernel)
theorem wm_Mod_231 : Cond.methodLink "StreamForgeModel" 231 y_Mod_star ∈ zT := z_m 1493 (by decide +kernel) (by decide +kernel)
theorem wm_Mod_258 : Cond.methodLink "StreamForgeModel" 258 y_Mod_blanks ∈ zT := z_m 1497 (by decide +kernel) (by decide +kernel)
theorem wm_Mod_264 : Cond.methodLink "StreamForgeModel" 264 y_Mod_label ∈ zT := z_m 1501 (by decide +kernel) (by decide +kernel)
theorem wm_Mod_252 : Cond.methodLink "StreamForgeModel" 252 y_Mod_closed ∈ zT := z_m 1505 (by decide +kernel) (by decide +kernel)
theorem wm_Mod_268 : Cond.methodLink "StreamForgeModel" 268 y_Mod_branch ∈ zT := z_m 1509 (by decide +kernel) (by decide +kernel)
theorem wm_Mod_271 : Cond.methodLink "StreamForgeModel" 271 y_Mod_substitute ∈ zT := z_m 1513 (by decide +kernel) (by decide +kernel)
theorem wm_Mod_246 : Cond.methodLink "StreamForgeModel" 246 y_Mod_expect ∈ zT := z_m 1517 (by decide +kernel) (by decide +kernel)
theorem wm_Mod_249 : Cond.methodLink "StreamForgeModel" 249 y_Mod_replacement ∈ zT := z_m 1521 (by decide +kernel) (by decide +kernel)
theorem wm_Mod_240 : Cond.methodLink "StreamForgeModel" 240 y_Mod_stored ∈ zT := z_m 1525 (by decide +kernel) (by decide +kernel)
theorem wm_Mod_243 : Cond.methodLink "StreamForgeModel" 243 y_Mod_keep ∈ zT := z_m 1529 (by decide +kernel) (by decide +kernel)
theorem wm_Mod_274 : Cond.methodLink "StreamForgeModel" 274 y_Mod_exchange ∈ zT := z_m 1533 (by decide +kernel) (by decide +kernel)
theorem wm_Mod_277 : Cond.methodLink "StreamForgeModel" 277 y_Mod_readText ∈ zT := z_m 1537 (by decide +kernel) (by decide +kernel)
theorem wm_Mod_280 : Cond.methodLink "StreamForgeModel" 280 y_Mod_isPlain ∈ zT := z_m 1541 (by decide +kernel) (by decide +kernel)
theorem wm_Mod_290 : Cond.methodLink "StreamForgeModel" 290 y_Mod_goals ∈ zT := z_m 1544 (by decide +kernel) (by decide +kernel)
theorem wm_Law_78 : Cond.methodLink "StreamForgeLaw" 78 y_Mod_where ∈ zT := z_m 1548 (by decide +kernel) (by decide +kernel)
theorem wm_Law_98 : Cond.methodLink "StreamForgeLaw" 98 y_Mod_match ∈ zT := z_m 1552 (by decide +kernel) (by decide +kernel)
theorem wm_Mod_322 : Cond.methodLink "StreamForgeModel" 322 y_Mod_takeLine ∈ zT := z_m 1556 (by decide +kernel) (by decide +kernel)
theorem wm_Mod_325 : Cond.methodLink "StreamForgeModel" 325 y_Mod_find ∈ zT := z_m 1560 (by decide +kernel) (by decide +kernel)
theorem wm_Mod_306 : Cond.methodLink "StreamForgeModel" 306 y_Mod_starsOf ∈ zT := z_m 1564 (by decide +kernel) (by decide +kernel)
theorem wm_Mod_309 : Cond.methodLink "StreamForgeModel" 309 y_Mod_way ∈ zT := z_m 1568 (by decide +kernel) (by decide +kernel)
theorem wm_Mod_302 : Cond.methodLink "StreamForgeModel" 302 y_Mod_fits ∈ zT := z_m 1572 (by decide +kernel) (by decide +kernel)
theorem wm_Law_88 : Cond.methodLink "StreamForgeLaw" 88 y_Mod_run ∈ zT := z_m 1576 (by decide +kernel) (by decide +kernel)
theorem wm_Mod_384 : Cond.methodLink "StreamForgeModel" 384 y_Mod_readLine ∈ zT := z_m 1580 (by decide +kernel) (by decide +kernel)
theorem wm_Mod_390 : Cond.methodLink "StreamForgeModel" 390 y_Mod_endCycle ∈ zT := z_m 1584 (by decide +kernel) (by decide +kernel)
theorem wm_Mod_374 : Cond.methodLink "StreamForgeModel" 374 y_Mod_tellSpace ∈ zT := z_m 1588 (by decide +kernel) (by decide +kernel)
theorem wm_Mod_340 : Cond.methodLink "StreamForgeModel" 340 y_Mod_tell ∈ zT := z_m 1592 (by decide +kernel) (by decide +kernel)
theorem wm_Mod_337 : Cond.methodLink "StreamForgeModel" 337 y_Mod_full ∈ zT := z_m 1596 (by decide +kernel) (by decide +kernel)
theorem wm_Mod_381 : Cond.methodLink "StreamForgeModel" 381 y_Mod_tellAppended ∈ zT := z_m 1600 (by decide +kernel) (by decide +kernel)
theorem wm_Mod_422 : Cond.methodLink "StreamForgeModel" 422 y_Mod_isDone ∈ zT := z_m 1604 (by decide +kernel) (by decide +kernel)
theorem wm_Mod_355 : Cond.methodLink "StreamForgeModel" 355 y_Mod_fitsAddress ∈ zT := z_m 1608 (by decide +kernel) (by decide +kernel)
theorem wm_Mod_349 : Cond.methodLink "StreamForgeModel" 349 y_Mod_takeSpace ∈ zT := z_m 1612 (by decide +kernel) (by decide +kernel)
theorem wm_Mod_425 : Cond.methodLink "StreamForgeModel" 425 y_Mod_perform ∈ zT := z_m 1616 (by decide +kernel) (by decide +kernel)
theorem wm_Mod_394 : Cond.methodLink "StreamForgeModel" 394 y_Mod_substituted ∈ zT := z_m 1620 (by decide +kernel) (by decide +kernel)
theorem wm_Mod_361 : Cond.methodLink "StreamForgeModel" 361 y_Mod_copyOf ∈ zT := z_m 1624 (by decide +kernel) (by decide +kernel)
theorem wm_Mod_358 : Cond.methodLink "StreamForgeModel" 358 y_Mod_add ∈ zT := z_m 1628 (by decide +kernel) (by decide +kernel)
theorem wm_Mod_365 : Cond.methodLink "StreamForgeModel" 365 y_Mod_addReplacement ∈ zT := z_m 1632 (by decide +kernel) (by decide +kernel)
theorem wm_Mod_397 : Cond.methodLink "StreamForgeModel" 397 y_Mod_exchanged ∈ zT := z_m 1636 (by decide +kernel) (by decide +kernel)
theorem wm_Mod_400 : Cond.methodLink "StreamForgeModel" 400 y_Mod_append ∈ zT := z_m 1640 (by decide +kernel) (by decide +kernel)
theorem wm_Mod_403 : Cond.methodLink "StreamForgeModel" 403 y_Mod_tellText ∈ zT := z_m 1644 (by decide +kernel) (by decide +kernel)
theorem wm_Mod_406 : Cond.methodLink "StreamForgeModel" 406 y_Mod_cut ∈ zT := z_m 1648 (by decide +kernel) (by decide +kernel)
theorem wm_Mod_409 : Cond.methodLink "StreamForgeModel" 409 y_Mod_nextLine ∈ zT := z_m 1652 (by decide +kernel) (by decide +kernel)
theorem wm_Mod_413 : Cond.methodLink "StreamForgeModel" 413 y_Mod_tellNumber ∈ zT := z_m 1656 (by decide +kernel) (by decide +kernel)
theorem wm_Mod_416 : Cond.methodLink "StreamForgeModel" 416 y_Mod_holds ∈ zT := z_m 1660 (by decide +kernel) (by decide +kernel)
theorem wm_Law_91 : Cond.methodLink "StreamForgeLaw" 91 y_Mod_out ∈ zT := z_m 1664 (by decide +kernel) (by decide +kernel)
theorem wm_Law_94 : Cond.methodLink "StreamForgeLaw" 94 y_Mod_ran ∈ zT := z_m 1668 (by decide +kernel) (by decide +kernel)
theorem wm_Law_101 : Cond.methodLink "StreamForgeLaw" 101 y_Mod_count ∈ zT := z_m 1672 (by decide +kernel) (by decide +kernel)
theorem wf_Row_9 : Cond.fieldLink "StreamForge$Row" 9 "StreamForge$Row" "chars" "[C" ∈ zT := z_m 155 (by decide +kernel) (by decide +kernel)
theorem wf_Cur_24 : Cond.fieldLink "StreamForge$Cursor" 24 "StreamForge$Row" "chars" "[C" ∈ zT := z_m 156 (by decide +kernel) (by decide +kernel)
theorem wf_Ma_88 : Cond.fieldLink "StreamForge$Matcher" 88 "StreamForge$Row" "chars" "[C" ∈ zT := z_m 157 (by decide +kernel) (by decide +kernel)
theorem wf_Ed_146 : Cond.fieldLink "StreamForge$Editor" 146 "StreamForge$Row" "chars" "[C" ∈ zT := z_m 158 (by decide +kernel) (by decide +kernel)
theorem wf_Row_15 : Cond.fieldLink "StreamForge$Row" 15 "StreamForge$Row" "length" "I" ∈ zT := z_m 159 (by decide +kernel) (by decide +kernel)
theorem wf_Cur_19 : Cond.fieldLink "StreamForge$Cursor" 19 "StreamForge$Row" "length" "I" ∈ zT := z_m 160 (by decide +kernel) (by decide +kernel)
theorem wf_Ma_42 : Cond.fieldLink "StreamForge$Matcher" 42 "StreamForge$Row" "length" "I" ∈ zT := z_m 161 (by decide +kernel) (by decide +kernel)
theorem wf_SF_79 : Cond.fieldLink "StreamForge" 79 "StreamForge$Row" "length" "I" ∈ zT := z_m 162 (by decide +kernel) (by decide +kernel)
theorem wf_Pa_87 : Cond.fieldLink "StreamForge$Parser" 87 "StreamForge$Row" "length" "I" ∈ zT := z_m 163 (by decide +kernel) (by decide +kernel)
theorem wf_Ed_123 : Cond.fieldLink "StreamForge$Editor" 123 "StreamForge$Row" "length" "I" ∈ zT := z_m 164 (by decide +kernel) (by decide +kernel)
theorem wf_Cur_15 : Cond.fieldLink "StreamForge$Cursor" 15 "StreamForge$Cursor" "text" "LStreamForge$Row;" ∈ zT := z_m 184 (by decide +kernel) (by decide +kernel)
theorem wf_Pa_104 : Cond.fieldLink "StreamForge$Parser" 104 "StreamForge$Cursor" "text" "LStreamForge$Row;" ∈ zT := z_m 185 (by decide +kernel) (by decide +kernel)
theorem wf_Cur_9 : Cond.fieldLink "StreamForge$Cursor" 9 "StreamForge$Cursor" "at" "I" ∈ zT := z_m 186 (by decide +kernel) (by decide +kernel)
theorem wf_Pa_46 : Cond.fieldLink "StreamForge$Parser" 46 "StreamForge$Cursor" "at" "I" ∈ zT := z_m 187 (by decide +kernel) (by decide +kernel)
theorem wf_Pr_86 : Cond.fieldLink "StreamForge$PatternReader" 86 "StreamForge$Cursor" "at" "I" ∈ zT := z_m 188 (by decide +kernel) (by decide +kernel)
theorem wf_Pa_34 : Cond.fieldLink "StreamForge$Parser" 34 "StreamForge$Cursor" "refusedAt" "I" ∈ zT := z_m 189 (by decide +kernel) (by decide +kernel)
theorem wf_Cur_28 : Cond.fieldLink "StreamForge$Cursor" 28 "StreamForge$Cursor" "refusedAt" "I" ∈ zT := z_m 190 (by decide +kernel) (by decide +kernel)
theorem wf_Pr_9 : Cond.fieldLink "StreamForge$PatternReader" 9 "StreamForge$PatternReader" "cursor" "LStreamForge$Cursor;" ∈ zT := z_m 204 (by decide +kernel) (by decide +kernel)
theorem wf_Pr_62 : Cond.fieldLink "StreamForge$PatternReader" 62 "StreamForge$PatternReader" "items" "LStreamForge$Items;" ∈ zT := z_m 205 (by decide +kernel) (by decide +kernel)
theorem wf_Pr_58 : Cond.fieldLink "StreamForge$PatternReader" 58 "StreamForge$PatternReader" "pattern" "LStreamForge$Pattern;" ∈ zT := z_m 206 (by decide +kernel) (by decide +kernel)
theorem wf_Pr_89 : Cond.fieldLink "StreamForge$PatternReader" 89 "StreamForge$PatternReader" "itemCount" "I" ∈ zT := z_m 207 (by decide +kernel) (by decide +kernel)
theorem wf_Pr_92 : Cond.fieldLink "StreamForge$PatternReader" 92 "StreamForge$PatternReader" "starCount" "I" ∈ zT := z_m 208 (by decide +kernel) (by decide +kernel)
theorem wf_Pr_47 : Cond.fieldLink "StreamForge$PatternReader" 47 "StreamForge$PatternReader" "groupOpen" "Z" ∈ zT := z_m 209 (by decide +kernel) (by decide +kernel)
theorem wf_Pr_95 : Cond.fieldLink "StreamForge$PatternReader" 95 "StreamForge$PatternReader" "repeatable" "Z" ∈ zT := z_m 210 (by decide +kernel) (by decide +kernel)
theorem wf_Pa_12 : Cond.fieldLink "StreamForge$Parser" 12 "StreamForge$Parser" "cursor" "LStreamForge$Cursor;" ∈ zT := z_m 226 (by decide +kernel) (by decide +kernel)
theorem wf_Pa_23 : Cond.fieldLink "StreamForge$Parser" 23 "StreamForge$Parser" "patterns" "LStreamForge$PatternReader;" ∈ zT := z_m 227 (by decide +kernel) (by decide +kernel)
theorem wf_Pa_27 : Cond.fieldLink "StreamForge$Parser" 27 "StreamForge$Parser" "openBlocks" "[I" ∈ zT := z_m 228 (by decide +kernel) (by decide +kernel)
theorem wf_Pa_31 : Cond.fieldLink "StreamForge$Parser" 31 "StreamForge$Parser" "behindLabel" "[I" ∈ zT := z_m 229 (by decide +kernel) (by decide +kernel)
theorem wf_Pa_62 : Cond.fieldLink "StreamForge$Parser" 62 "StreamForge$Parser" "depth" "I" ∈ zT := z_m 230 (by decide +kernel) (by decide +kernel)
theorem wf_Pa_72 : Cond.fieldLink "StreamForge$Parser" 72 "StreamForge$Parser" "program" "LStreamForge$Program;" ∈ zT := z_m 231 (by decide +kernel) (by decide +kernel)
theorem wf_Pa_114 : Cond.fieldLink "StreamForge$Parser" 114 "StreamForge$Parser" "command" "LStreamForge$Command;" ∈ zT := z_m 232 (by decide +kernel) (by decide +kernel)
theorem wf_Ma_55 : Cond.fieldLink "StreamForge$Matcher" 55 "StreamForge$Matcher" "begin" "I" ∈ zT := z_m 263 (by decide +kernel) (by decide +kernel)
theorem wf_Ed_257 : Cond.fieldLink "StreamForge$Editor" 257 "StreamForge$Matcher" "begin" "I" ∈ zT := z_m 264 (by decide +kernel) (by decide +kernel)
theorem wf_Ma_58 : Cond.fieldLink "StreamForge$Matcher" 58 "StreamForge$Matcher" "end" "I" ∈ zT := z_m 265 (by decide +kernel) (by decide +kernel)
theorem wf_Ed_259 : Cond.fieldLink "StreamForge$Editor" 259 "StreamForge$Matcher" "end" "I" ∈ zT := z_m 266 (by decide +kernel) (by decide +kernel)
theorem wf_Ma_24 : Cond.fieldLink "StreamForge$Matcher" 24 "StreamForge$Matcher" "items" "LStreamForge$Items;" ∈ zT := z_m 267 (by decide +kernel) (by decide +kernel)
theorem wf_Ma_28 : Cond.fieldLink "StreamForge$Matcher" 28 "StreamForge$Matcher" "pattern" "LStreamForge$Pattern;" ∈ zT := z_m 268 (by decide +kernel) (by decide +kernel)
theorem wf_Ma_32 : Cond.fieldLink "StreamForge$Matcher" 32 "StreamForge$Matcher" "text" "LStreamForge$Row;" ∈ zT := z_m 269 (by decide +kernel) (by decide +kernel)
theorem wf_Ma_9 : Cond.fieldLink "StreamForge$Matcher" 9 "StreamForge$Matcher" "groupBegin" "[I" ∈ zT := z_m 270 (by decide +kernel) (by decide +kernel)
theorem wf_Ma_15 : Cond.fieldLink "StreamForge$Matcher" 15 "StreamForge$Matcher" "groupEnd" "[I" ∈ zT := z_m 271 (by decide +kernel) (by decide +kernel)
theorem wf_Ma_18 : Cond.fieldLink "StreamForge$Matcher" 18 "StreamForge$Matcher" "triedBegin" "[I" ∈ zT := z_m 272 (by decide +kernel) (by decide +kernel)
theorem wf_Ma_21 : Cond.fieldLink "StreamForge$Matcher" 21 "StreamForge$Matcher" "triedEnd" "[I" ∈ zT := z_m 273 (by decide +kernel) (by decide +kernel)
theorem wf_Ed_14 : Cond.fieldLink "StreamForge$Editor" 14 "StreamForge$Editor" "output" "LStreamForge$Row;" ∈ zT := z_m 293 (by decide +kernel) (by decide +kernel)
theorem wf_SF_106 : Cond.fieldLink "StreamForge" 106 "StreamForge$Editor" "output" "LStreamForge$Row;" ∈ zT := z_m 294 (by decide +kernel) (by decide +kernel)
theorem wf_Ed_20 : Cond.fieldLink "StreamForge$Editor" 20 "StreamForge$Editor" "space" "LStreamForge$Row;" ∈ zT := z_m 295 (by decide +kernel) (by decide +kernel)
theorem wf_SF_116 : Cond.fieldLink "StreamForge" 116 "StreamForge$Editor" "space" "LStreamForge$Row;" ∈ zT := z_m 296 (by decide +kernel) (by decide +kernel)
theorem wf_Ed_23 : Cond.fieldLink "StreamForge$Editor" 23 "StreamForge$Editor" "hold" "LStreamForge$Row;" ∈ zT := z_m 297 (by decide +kernel) (by decide +kernel)
theorem wf_SF_119 : Cond.fieldLink "StreamForge" 119 "StreamForge$Editor" "hold" "LStreamForge$Row;" ∈ zT := z_m 298 (by decide +kernel) (by decide +kernel)
theorem wf_Ed_99 : Cond.fieldLink "StreamForge$Editor" 99 "StreamForge$Editor" "linesRead" "I" ∈ zT := z_m 299 (by decide +kernel) (by decide +kernel)
theorem wf_SF_122 : Cond.fieldLink "StreamForge" 122 "StreamForge$Editor" "linesRead" "I" ∈ zT := z_m 300 (by decide +kernel) (by decide +kernel)
theorem wf_Ed_70 : Cond.fieldLink "StreamForge$Editor" 70 "StreamForge$Editor" "begun" "I" ∈ zT := z_m 301 (by decide +kernel) (by decide +kernel)
theorem wf_SF_125 : Cond.fieldLink "StreamForge" 125 "StreamForge$Editor" "begun" "I" ∈ zT := z_m 302 (by decide +kernel) (by decide +kernel)
theorem wf_Ed_102 : Cond.fieldLink "StreamForge$Editor" 102 "StreamForge$Editor" "cycles" "I" ∈ zT := z_m 303 (by decide +kernel) (by decide +kernel)
theorem wf_SF_128 : Cond.fieldLink "StreamForge" 128 "StreamForge$Editor" "cycles" "I" ∈ zT := z_m 304 (by decide +kernel) (by decide +kernel)
theorem wf_Ed_105 : Cond.fieldLink "StreamForge$Editor" 105 "StreamForge$Editor" "replacements" "I" ∈ zT := z_m 305 (by decide +kernel) (by decide +kernel)
theorem wf_SF_131 : Cond.fieldLink "StreamForge" 131 "StreamForge$Editor" "replacements" "I" ∈ zT := z_m 306 (by decide +kernel) (by decide +kernel)
theorem wf_Ed_26 : Cond.fieldLink "StreamForge$Editor" 26 "StreamForge$Editor" "appended" "LStreamForge$Row;" ∈ zT := z_m 307 (by decide +kernel) (by decide +kernel)
theorem wf_Ed_32 : Cond.fieldLink "StreamForge$Editor" 32 "StreamForge$Editor" "matcher" "LStreamForge$Matcher;" ∈ zT := z_m 308 (by decide +kernel) (by decide +kernel)
theorem wf_Ed_36 : Cond.fieldLink "StreamForge$Editor" 36 "StreamForge$Editor" "draft" "LStreamForge$Row;" ∈ zT := z_m 309 (by decide +kernel) (by decide +kernel)
theorem wf_Ed_39 : Cond.fieldLink "StreamForge$Editor" 39 "StreamForge$Editor" "program" "LStreamForge$Program;" ∈ zT := z_m 310 (by decide +kernel) (by decide +kernel)
theorem wf_Ed_43 : Cond.fieldLink "StreamForge$Editor" 43 "StreamForge$Editor" "lines" "[LStreamForge$Row;" ∈ zT := z_m 311 (by decide +kernel) (by decide +kernel)
theorem wf_Ed_47 : Cond.fieldLink "StreamForge$Editor" 47 "StreamForge$Editor" "lineCount" "I" ∈ zT := z_m 312 (by decide +kernel) (by decide +kernel)
theorem wf_Ed_58 : Cond.fieldLink "StreamForge$Editor" 58 "StreamForge$Editor" "next" "I" ∈ zT := z_m 313 (by decide +kernel) (by decide +kernel)
theorem wf_Ed_54 : Cond.fieldLink "StreamForge$Editor" 54 "StreamForge$Editor" "over" "Z" ∈ zT := z_m 314 (by decide +kernel) (by decide +kernel)
theorem wf_Ed_120 : Cond.fieldLink "StreamForge$Editor" 120 "StreamForge$Editor" "replaced" "Z" ∈ zT := z_m 315 (by decide +kernel) (by decide +kernel)
theorem wf_Ed_167 : Cond.fieldLink "StreamForge$Editor" 167 "StreamForge$Editor" "rangeEnds" "Z" ∈ zT := z_m 316 (by decide +kernel) (by decide +kernel)
theorem wf_It_9 : Cond.fieldLink "StreamForge$Items" 9 "StreamForge$Items" "kind" "[I" ∈ zT := z_m 368 (by decide +kernel) (by decide +kernel)
theorem wf_Ma_100 : Cond.fieldLink "StreamForge$Matcher" 100 "StreamForge$Items" "kind" "[I" ∈ zT := z_m 369 (by decide +kernel) (by decide +kernel)
theorem wf_It_15 : Cond.fieldLink "StreamForge$Items" 15 "StreamForge$Items" "group" "[I" ∈ zT := z_m 370 (by decide +kernel) (by decide +kernel)
theorem wf_Ma_97 : Cond.fieldLink "StreamForge$Matcher" 97 "StreamForge$Items" "group" "[I" ∈ zT := z_m 371 (by decide +kernel) (by decide +kernel)
theorem wf_It_18 : Cond.fieldLink "StreamForge$Items" 18 "StreamForge$Items" "low" "[J" ∈ zT := z_m 372 (by decide +kernel) (by decide +kernel)
theorem wf_It_22 : Cond.fieldLink "StreamForge$Items" 22 "StreamForge$Items" "high" "[J" ∈ zT := z_m 373 (by decide +kernel) (by decide +kernel)
theorem wf_It_25 : Cond.fieldLink "StreamForge$Items" 25 "StreamForge$Items" "size" "I" ∈ zT := z_m 374 (by decide +kernel) (by decide +kernel)
theorem wf_Pr_66 : Cond.fieldLink "StreamForge$PatternReader" 66 "StreamForge$Items" "size" "I" ∈ zT := z_m 375 (by decide +kernel) (by decide +kernel)
theorem wf_Pa_98 : Cond.fieldLink "StreamForge$Parser" 98 "StreamForge$Items" "size" "I" ∈ zT := z_m 376 (by decide +kernel) (by decide +kernel)
theorem wf_Ma_36 : Cond.fieldLink "StreamForge$Matcher" 36 "StreamForge$Pattern" "atBeginning" "Z" ∈ zT := z_m 408 (by decide +kernel) (by decide +kernel)
theorem wf_Pr_83 : Cond.fieldLink "StreamForge$PatternReader" 83 "StreamForge$Pattern" "atBeginning" "Z" ∈ zT := z_m 409 (by decide +kernel) (by decide +kernel)
theorem wf_Pr_80 : Cond.fieldLink "StreamForge$PatternReader" 80 "StreamForge$Pattern" "atEnd" "Z" ∈ zT := z_m 410 (by decide +kernel) (by decide +kernel)
theorem wf_Ma_85 : Cond.fieldLink "StreamForge$Matcher" 85 "StreamForge$Pattern" "atEnd" "Z" ∈ zT := z_m 411 (by decide +kernel) (by decide +kernel)
theorem wf_Pr_72 : Cond.fieldLink "StreamForge$PatternReader" 72 "StreamForge$Pattern" "from" "I" ∈ zT := z_m 412 (by decide +kernel) (by decide +kernel)
theorem wf_Ma_61 : Cond.fieldLink "StreamForge$Matcher" 61 "StreamForge$Pattern" "from" "I" ∈ zT := z_m 413 (by decide +kernel) (by decide +kernel)
theorem wf_Pr_98 : Cond.fieldLink "StreamForge$PatternReader" 98 "StreamForge$Pattern" "to" "I" ∈ zT := z_m 414 (by decide +kernel) (by decide +kernel)
theorem wf_Ma_78 : Cond.fieldLink "StreamForge$Matcher" 78 "StreamForge$Pattern" "to" "I" ∈ zT := z_m 415 (by decide +kernel) (by decide +kernel)
theorem wf_Pr_101 : Cond.fieldLink "StreamForge$PatternReader" 101 "StreamForge$Pattern" "firstStar" "I" ∈ zT := z_m 416 (by decide +kernel) (by decide +kernel)
theorem wf_Ma_64 : Cond.fieldLink "StreamForge$Matcher" 64 "StreamForge$Pattern" "firstStar" "I" ∈ zT := z_m 417 (by decide +kernel) (by decide +kernel)
theorem wf_Pr_104 : Cond.fieldLink "StreamForge$PatternReader" 104 "StreamForge$Pattern" "secondStar" "I" ∈ zT := z_m 418 (by decide +kernel) (by decide +kernel)
theorem wf_Ma_75 : Cond.fieldLink "StreamForge$Matcher" 75 "StreamForge$Pattern" "secondStar" "I" ∈ zT := z_m 419 (by decide +kernel) (by decide +kernel)
theorem wf_Pr_77 : Cond.fieldLink "StreamForge$PatternReader" 77 "StreamForge$Pattern" "groups" "I" ∈ zT := z_m 420 (by decide +kernel) (by decide +kernel)
theorem wf_Ma_52 : Cond.fieldLink "StreamForge$Matcher" 52 "StreamForge$Pattern" "groups" "I" ∈ zT := z_m 421 (by decide +kernel) (by decide +kernel)
theorem wf_Pa_212 : Cond.fieldLink "StreamForge$Parser" 212 "StreamForge$Pattern" "groups" "I" ∈ zT := z_m 422 (by decide +kernel) (by decide +kernel)
theorem wf_Addr_10 : Cond.fieldLink "StreamForge$Address" 10 "StreamForge$Address" "pattern" "LStreamForge$Pattern;" ∈ zT := z_m 438 (by decide +kernel) (by decide +kernel)
theorem wf_Pa_150 : Cond.fieldLink "StreamForge$Parser" 150 "StreamForge$Address" "pattern" "LStreamForge$Pattern;" ∈ zT := z_m 439 (by decide +kernel) (by decide +kernel)
theorem wf_Ed_183 : Cond.fieldLink "StreamForge$Editor" 183 "StreamForge$Address" "pattern" "LStreamForge$Pattern;" ∈ zT := z_m 440 (by decide +kernel) (by decide +kernel)
theorem wf_Pa_147 : Cond.fieldLink "StreamForge$Parser" 147 "StreamForge$Address" "kind" "I" ∈ zT := z_m 441 (by decide +kernel) (by decide +kernel)
theorem wf_Ed_173 : Cond.fieldLink "StreamForge$Editor" 173 "StreamForge$Address" "kind" "I" ∈ zT := z_m 442 (by decide +kernel) (by decide +kernel)
theorem wf_Pa_158 : Cond.fieldLink "StreamForge$Parser" 158 "StreamForge$Address" "number" "I" ∈ zT := z_m 443 (by decide +kernel) (by decide +kernel)
theorem wf_Ed_176 : Cond.fieldLink "StreamForge$Editor" 176 "StreamForge$Address" "number" "I" ∈ zT := z_m 444 (by decide +kernel) (by decide +kernel)
theorem wf_Cmd_12 : Cond.fieldLink "StreamForge$Command" 12 "StreamForge$Command" "first" "LStreamForge$Address;" ∈ zT := z_m 454 (by decide +kernel) (by decide +kernel)
theorem wf_Pa_124 : Cond.fieldLink "StreamForge$Parser" 124 "StreamForge$Command" "first" "LStreamForge$Address;" ∈ zT := z_m 455 (by decide +kernel) (by decide +kernel)
theorem wf_Ed_153 : Cond.fieldLink "StreamForge$Editor" 153 "StreamForge$Command" "first" "LStreamForge$Address;" ∈ zT := z_m 456 (by decide +kernel) (by decide +kernel)
theorem wf_Cmd_18 : Cond.fieldLink "StreamForge$Command" 18 "StreamForge$Command" "second" "LStreamForge$Address;" ∈ zT := z_m 457 (by decide +kernel) (by decide +kernel)
theorem wf_Pa_135 : Cond.fieldLink "StreamForge$Parser" 135 "StreamForge$Command" "second" "LStreamForge$Address;" ∈ zT := z_m 458 (by decide +kernel) (by decide +kernel)
theorem wf_Ed_161 : Cond.fieldLink "StreamForge$Editor" 161 "StreamForge$Command" "second" "LStreamForge$Address;" ∈ zT := z_m 459 (by decide +kernel) (by decide +kernel)
theorem wf_Cmd_24 : Cond.fieldLink "StreamForge$Command" 24 "StreamForge$Command" "pattern" "LStreamForge$Pattern;" ∈ zT := z_m 460 (by decide +kernel) (by decide +kernel)
theorem wf_SF_147 : Cond.fieldLink "StreamForge" 147 "StreamForge$Command" "pattern" "LStreamForge$Pattern;" ∈ zT := z_m 461 (by decide +kernel) (by decide +kernel)
theorem wf_Pa_202 : Cond.fieldLink "StreamForge$Parser" 202 "StreamForge$Command" "pattern" "LStreamForge$Pattern;" ∈ zT := z_m 462 (by decide +kernel) (by decide +kernel)
theorem wf_Ed_256 : Cond.fieldLink "StreamForge$Editor" 256 "StreamForge$Command" "pattern" "LStreamForge$Pattern;" ∈ zT := z_m 463 (by decide +kernel) (by decide +kernel)
theorem wf_Ed_88 : Cond.fieldLink "StreamForge$Editor" 88 "StreamForge$Command" "kind" "I" ∈ zT := z_m 464 (by decide +kernel) (by decide +kernel)
theorem wf_Pa_161 : Cond.fieldLink "StreamForge$Parser" 161 "StreamForge$Command" "kind" "I" ∈ zT := z_m 465 (by decide +kernel) (by decide +kernel)
theorem wf_SF_138 : Cond.fieldLink "StreamForge" 138 "StreamForge$Command" "kind" "I" ∈ zT := z_m 466 (by decide +kernel) (by decide +kernel)
theorem wf_Pa_162 : Cond.fieldLink "StreamForge$Parser" 162 "StreamForge$Command" "at" "I" ∈ zT := z_m 467 (by decide +kernel) (by decide +kernel)
theorem wf_Cmd_28 : Cond.fieldLink "StreamForge$Command" 28 "StreamForge$Command" "addresses" "I" ∈ zT := z_m 468 (by decide +kernel) (by decide +kernel)
theorem wf_Pa_132 : Cond.fieldLink "StreamForge$Parser" 132 "StreamForge$Command" "addresses" "I" ∈ zT := z_m 469 (by decide +kernel) (by decide +kernel)
theorem wf_Ed_150 : Cond.fieldLink "StreamForge$Editor" 150 "StreamForge$Command" "addresses" "I" ∈ zT := z_m 470 (by decide +kernel) (by decide +kernel)
theorem wf_Cmd_32 : Cond.fieldLink "StreamForge$Command" 32 "StreamForge$Command" "inverted" "Z" ∈ zT := z_m 471 (by decide +kernel) (by decide +kernel)
theorem wf_Pa_141 : Cond.fieldLink "StreamForge$Parser" 141 "StreamForge$Command" "inverted" "Z" ∈ zT := z_m 472 (by decide +kernel) (by decide +kernel)
theorem wf_Ed_170 : Cond.fieldLink "StreamForge$Editor" 170 "StreamForge$Command" "inverted" "Z" ∈ zT := z_m 473 (by decide +kernel) (by decide +kernel)
theorem wf_Ed_93 : Cond.fieldLink "StreamForge$Editor" 93 "StreamForge$Command" "target" "I" ∈ zT := z_m 474 (by decide +kernel) (by decide +kernel)
theorem wf_Pa_109 : Cond.fieldLink "StreamForge$Parser" 109 "StreamForge$Command" "target" "I" ∈ zT := z_m 475 (by decide +kernel) (by decide +kernel)
theorem wf_Cmd_36 : Cond.fieldLink "StreamForge$Command" 36 "StreamForge$Command" "label" "I" ∈ zT := z_m 476 (by decide +kernel) (by decide +kernel)
theorem wf_Pa_187 : Cond.fieldLink "StreamForge$Parser" 187 "StreamForge$Command" "label" "I" ∈ zT := z_m 477 (by decide +kernel) (by decide +kernel)
theorem wf_Ed_206 : Cond.fieldLink "StreamForge$Editor" 206 "StreamForge$Command" "textFrom" "I" ∈ zT := z_m 478 (by decide +kernel) (by decide +kernel)
theorem wf_Pa_193 : Cond.fieldLink "StreamForge$Parser" 193 "StreamForge$Command" "textFrom" "I" ∈ zT := z_m 479 (by decide +kernel) (by decide +kernel)
theorem wf_Ed_209 : Cond.fieldLink "StreamForge$Editor" 209 "StreamForge$Command" "textTo" "I" ∈ zT := z_m 480 (by decide +kernel) (by decide +kernel)
theorem wf_Pa_199 : Cond.fieldLink "StreamForge$Parser" 199 "StreamForge$Command" "textTo" "I" ∈ zT := z_m 481 (by decide +kernel) (by decide +kernel)
theorem wf_Pa_232 : Cond.fieldLink "StreamForge$Parser" 232 "StreamForge$Command" "counterpart" "I" ∈ zT := z_m 482 (by decide +kernel) (by decide +kernel)
theorem wf_Ed_250 : Cond.fieldLink "StreamForge$Editor" 250 "StreamForge$Command" "counterpart" "I" ∈ zT := z_m 483 (by decide +kernel) (by decide +kernel)
theorem wf_Cmd_39 : Cond.fieldLink "StreamForge$Command" 39 "StreamForge$Command" "all" "Z" ∈ zT := z_m 484 (by decide +kernel) (by decide +kernel)
theorem wf_Pa_217 : Cond.fieldLink "StreamForge$Parser" 217 "StreamForge$Command" "all" "Z" ∈ zT := z_m 485 (by decide +kernel) (by decide +kernel)
theorem wf_Ed_253 : Cond.fieldLink "StreamForge$Editor" 253 "StreamForge$Command" "all" "Z" ∈ zT := z_m 486 (by decide +kernel) (by decide +kernel)
theorem wf_Cmd_42 : Cond.fieldLink "StreamForge$Command" 42 "StreamForge$Command" "print" "Z" ∈ zT := z_m 487 (by decide +kernel) (by decide +kernel)
theorem wf_Pa_220 : Cond.fieldLink "StreamForge$Parser" 220 "StreamForge$Command" "print" "Z" ∈ zT := z_m 488 (by decide +kernel) (by decide +kernel)
theorem wf_Ed_276 : Cond.fieldLink "StreamForge$Editor" 276 "StreamForge$Command" "print" "Z" ∈ zT := z_m 489 (by decide +kernel) (by decide +kernel)
theorem wf_Cmd_45 : Cond.fieldLink "StreamForge$Command" 45 "StreamForge$Command" "digit" "I" ∈ zT := z_m 490 (by decide +kernel) (by decide +kernel)
theorem wf_Pa_223 : Cond.fieldLink "StreamForge$Parser" 223 "StreamForge$Command" "digit" "I" ∈ zT := z_m 491 (by decide +kernel) (by decide +kernel)
theorem wf_Ed_108 : Cond.fieldLink "StreamForge$Editor" 108 "StreamForge$Command" "inRange" "Z" ∈ zT := z_m 492 (by decide +kernel) (by decide +kernel)
theorem wf_Prog_14 : Cond.fieldLink "StreamForge$Program" 14 "StreamForge$Program" "text" "LStreamForge$Row;" ∈ zT := z_m 526 (by decide +kernel) (by decide +kernel)
theorem wf_Pa_76 : Cond.fieldLink "StreamForge$Parser" 76 "StreamForge$Program" "text" "LStreamForge$Row;" ∈ zT := z_m 527 (by decide +kernel) (by decide +kernel)
theorem wf_Ed_203 : Cond.fieldLink "StreamForge$Editor" 203 "StreamForge$Program" "text" "LStreamForge$Row;" ∈ zT := z_m 528 (by decide +kernel) (by decide +kernel)
theorem wf_Prog_23 : Cond.fieldLink "StreamForge$Program" 23 "StreamForge$Program" "items" "LStreamForge$Items;" ∈ zT := z_m 529 (by decide +kernel) (by decide +kernel)
theorem wf_Pa_94 : Cond.fieldLink "StreamForge$Parser" 94 "StreamForge$Program" "items" "LStreamForge$Items;" ∈ zT := z_m 530 (by decide +kernel) (by decide +kernel)
theorem wf_SF_143 : Cond.fieldLink "StreamForge" 143 "StreamForge$Program" "items" "LStreamForge$Items;" ∈ zT := z_m 531 (by decide +kernel) (by decide +kernel)
theorem wf_Ed_179 : Cond.fieldLink "StreamForge$Editor" 179 "StreamForge$Program" "items" "LStreamForge$Items;" ∈ zT := z_m 532 (by decide +kernel) (by decide +kernel)
theorem wf_Prog_29 : Cond.fieldLink "StreamForge$Program" 29 "StreamForge$Program" "commands" "[LStreamForge$Command;" ∈ zT := z_m 533 (by decide +kernel) (by decide +kernel)
theorem wf_Ed_76 : Cond.fieldLink "StreamForge$Editor" 76 "StreamForge$Program" "commands" "[LStreamForge$Command;" ∈ zT := z_m 534 (by decide +kernel) (by decide +kernel)
theorem wf_Pa_105 : Cond.fieldLink "StreamForge$Parser" 105 "StreamForge$Program" "commands" "[LStreamForge$Command;" ∈ zT := z_m 535 (by decide +kernel) (by decide +kernel)
theorem wf_SF_134 : Cond.fieldLink "StreamForge" 134 "StreamForge$Program" "commands" "[LStreamForge$Command;" ∈ zT := z_m 536 (by decide +kernel) (by decide +kernel)
theorem wf_Ed_61 : Cond.fieldLink "StreamForge$Editor" 61 "StreamForge$Program" "size" "I" ∈ zT := z_m 537 (by decide +kernel) (by decide +kernel)
theorem wf_Pa_103 : Cond.fieldLink "StreamForge$Parser" 103 "StreamForge$Program" "size" "I" ∈ zT := z_m 538 (by decide +kernel) (by decide +kernel)
theorem wf_SF_99 : Cond.fieldLink "StreamForge" 99 "StreamForge$Program" "size" "I" ∈ zT := z_m 539 (by decide +kernel) (by decide +kernel)
theorem wf_SF_14 : Cond.fieldLink "StreamForge" 14 "StreamForge" "script" "LStreamForge$Row;" ∈ zT := z_m 549 (by decide +kernel) (by decide +kernel)
theorem wf_SF_18 : Cond.fieldLink "StreamForge" 18 "StreamForge" "lines" "[LStreamForge$Row;" ∈ zT := z_m 550 (by decide +kernel) (by decide +kernel)
theorem wf_SF_25 : Cond.fieldLink "StreamForge" 25 "StreamForge" "parser" "LStreamForge$Parser;" ∈ zT := z_m 551 (by decide +kernel) (by decide +kernel)
theorem wf_SF_32 : Cond.fieldLink "StreamForge" 32 "StreamForge" "editor" "LStreamForge$Editor;" ∈ zT := z_m 552 (by decide +kernel) (by decide +kernel)
theorem wf_SF_39 : Cond.fieldLink "StreamForge" 39 "StreamForge" "matcher" "LStreamForge$Matcher;" ∈ zT := z_m 553 (by decide +kernel) (by decide +kernel)
theorem wf_SF_85 : Cond.fieldLink "StreamForge" 85 "StreamForge" "lineCount" "I" ∈ zT := z_m 554 (by decide +kernel) (by decide +kernel)
theorem wf_SF_46 : Cond.fieldLink "StreamForge" 46 "StreamForge" "program" "LStreamForge$Program;" ∈ zT := z_m 555 (by decide +kernel) (by decide +kernel)
theorem wf_SF_50 : Cond.fieldLink "StreamForge" 50 "StreamForge" "spare" "LStreamForge$Program;" ∈ zT := z_m 556 (by decide +kernel) (by decide +kernel)
theorem wf_SF_95 : Cond.fieldLink "StreamForge" 95 "StreamForge" "parsed" "Z" ∈ zT := z_m 557 (by decide +kernel) (by decide +kernel)
theorem wf_SF_53 : Cond.fieldLink "StreamForge" 53 "StreamForge" "refusedAt" "I" ∈ zT := z_m 558 (by decide +kernel) (by decide +kernel)
theorem wf_Mod_7 : Cond.fieldLink "StreamForgeModel" 7 "StreamForgeModel" "text" "[I" ∈ zT := z_m 1177 (by decide +kernel) (by decide +kernel)
theorem wf_Mod_13 : Cond.fieldLink "StreamForgeModel" 13 "StreamForgeModel" "lineLength" "[I" ∈ zT := z_m 1178 (by decide +kernel) (by decide +kernel)
theorem wf_Mod_16 : Cond.fieldLink "StreamForgeModel" 16 "StreamForgeModel" "lines" "[I" ∈ zT := z_m 1179 (by decide +kernel) (by decide +kernel)
theorem wf_Mod_166 : Cond.fieldLink "StreamForgeModel" 166 "StreamForgeModel" "length" "I" ∈ zT := z_m 1180 (by decide +kernel) (by decide +kernel)
theorem wf_Mod_169 : Cond.fieldLink "StreamForgeModel" 169 "StreamForgeModel" "lineMany" "I" ∈ zT := z_m 1181 (by decide +kernel) (by decide +kernel)
theorem wf_Mod_19 : Cond.fieldLink "StreamForgeModel" 19 "StreamForgeModel" "where" "I" ∈ zT := z_m 1182 (by decide +kernel) (by decide +kernel)
theorem wf_Mod_151 : Cond.fieldLink "StreamForgeModel" 151 "StreamForgeModel" "thrown" "I" ∈ zT := z_m 1183 (by decide +kernel) (by decide +kernel)
theorem wf_Mod_284 : Cond.fieldLink "StreamForgeModel" 284 "StreamForgeModel" "live" "I" ∈ zT := z_m 1184 (by decide +kernel) (by decide +kernel)
theorem wf_Mod_293 : Cond.fieldLink "StreamForgeModel" 293 "StreamForgeModel" "parsed" "Z" ∈ zT := z_m 1185 (by decide +kernel) (by decide +kernel)
theorem wf_Mod_23 : Cond.fieldLink "StreamForgeModel" 23 "StreamForgeModel" "name" "[I" ∈ zT := z_m 1186 (by decide +kernel) (by decide +kernel)
theorem wf_Mod_26 : Cond.fieldLink "StreamForgeModel" 26 "StreamForgeModel" "one" "[I" ∈ zT := z_m 1187 (by decide +kernel) (by decide +kernel)
theorem wf_Mod_29 : Cond.fieldLink "StreamForgeModel" 29 "StreamForgeModel" "oneValue" "[I" ∈ zT := z_m 1188 (by decide +kernel) (by decide +kernel)
theorem wf_Mod_32 : Cond.fieldLink "StreamForgeModel" 32 "StreamForgeModel" "two" "[I" ∈ zT := z_m 1189 (by decide +kernel) (by decide +kernel)
theorem wf_Mod_35 : Cond.fieldLink "StreamForgeModel" 35 "StreamForgeModel" "twoValue" "[I" ∈ zT := z_m 1190 (by decide +kernel) (by decide +kernel)
theorem wf_Mod_38 : Cond.fieldLink "StreamForgeModel" 38 "StreamForgeModel" "pattern" "[I" ∈ zT := z_m 1191 (by decide +kernel) (by decide +kernel)
theorem wf_Mod_41 : Cond.fieldLink "StreamForgeModel" 41 "StreamForgeModel" "from" "[I" ∈ zT := z_m 1192 (by decide +kernel) (by decide +kernel)
theorem wf_Mod_44 : Cond.fieldLink "StreamForgeModel" 44 "StreamForgeModel" "to" "[I" ∈ zT := z_m 1193 (by decide +kernel) (by decide +kernel)
theorem wf_Mod_47 : Cond.fieldLink "StreamForgeModel" 47 "StreamForgeModel" "more" "[I" ∈ zT := z_m 1194 (by decide +kernel) (by decide +kernel)
theorem wf_Mod_50 : Cond.fieldLink "StreamForgeModel" 50 "StreamForgeModel" "goal" "[I" ∈ zT := z_m 1195 (by decide +kernel) (by decide +kernel)
theorem wf_Mod_53 : Cond.fieldLink "StreamForgeModel" 53 "StreamForgeModel" "which" "[I" ∈ zT := z_m 1196 (by decide +kernel) (by decide +kernel)
theorem wf_Mod_56 : Cond.fieldLink "StreamForgeModel" 56 "StreamForgeModel" "placeOf" "[I" ∈ zT := z_m 1197 (by decide +kernel) (by decide +kernel)
theorem wf_Mod_59 : Cond.fieldLink "StreamForgeModel" 59 "StreamForgeModel" "not" "[Z" ∈ zT := z_m 1198 (by decide +kernel) (by decide +kernel)
theorem wf_Mod_63 : Cond.fieldLink "StreamForgeModel" 63 "StreamForgeModel" "all" "[Z" ∈ zT := z_m 1199 (by decide +kernel) (by decide +kernel)
theorem wf_Mod_66 : Cond.fieldLink "StreamForgeModel" 66 "StreamForgeModel" "tells" "[Z" ∈ zT := z_m 1200 (by decide +kernel) (by decide +kernel)
theorem wf_Mod_69 : Cond.fieldLink "StreamForgeModel" 69 "StreamForgeModel" "commands" "[I" ∈ zT := z_m 1201 (by decide +kernel) (by decide +kernel)
theorem wf_Mod_72 : Cond.fieldLink "StreamForgeModel" 72 "StreamForgeModel" "patterns" "[I" ∈ zT := z_m 1202 (by decide +kernel) (by decide +kernel)
theorem wf_Mod_75 : Cond.fieldLink "StreamForgeModel" 75 "StreamForgeModel" "items" "[I" ∈ zT := z_m 1203 (by decide +kernel) (by decide +kernel)
theorem wf_Mod_78 : Cond.fieldLink "StreamForgeModel" 78 "StreamForgeModel" "chars" "[I" ∈ zT := z_m 1204 (by decide +kernel) (by decide +kernel)
theorem wf_Mod_81 : Cond.fieldLink "StreamForgeModel" 81 "StreamForgeModel" "itemFrom" "[I" ∈ zT := z_m 1205 (by decide +kernel) (by decide +kernel)
theorem wf_Mod_84 : Cond.fieldLink "StreamForgeModel" 84 "StreamForgeModel" "itemEnd" "[I" ∈ zT := z_m 1206 (by decide +kernel) (by decide +kernel)
theorem wf_Mod_87 : Cond.fieldLink "StreamForgeModel" 87 "StreamForgeModel" "groups" "[I" ∈ zT := z_m 1207 (by decide +kernel) (by decide +kernel)
theorem wf_Mod_90 : Cond.fieldLink "StreamForgeModel" 90 "StreamForgeModel" "item" "[I" ∈ zT := z_m 1208 (by decide +kernel) (by decide +kernel)
theorem wf_Mod_93 : Cond.fieldLink "StreamForgeModel" 93 "StreamForgeModel" "value" "[I" ∈ zT := z_m 1209 (by decide +kernel) (by decide +kernel)
theorem wf_Mod_96 : Cond.fieldLink "StreamForgeModel" 96 "StreamForgeModel" "store" "[I" ∈ zT := z_m 1210 (by decide +kernel) (by decide +kernel)
theorem wf_Mod_99 : Cond.fieldLink "StreamForgeModel" 99 "StreamForgeModel" "starred" "[Z" ∈ zT := z_m 1211 (by decide +kernel) (by decide +kernel)
theorem wf_Mod_102 : Cond.fieldLink "StreamForgeModel" 102 "StreamForgeModel" "atBegin" "[Z" ∈ zT := z_m 1212 (by decide +kernel) (by decide +kernel)
theorem wf_Mod_105 : Cond.fieldLink "StreamForgeModel" 105 "StreamForgeModel" "atEnd" "[Z" ∈ zT := z_m 1213 (by decide +kernel) (by decide +kernel)
theorem wf_Mod_108 : Cond.fieldLink "StreamForgeModel" 108 "StreamForgeModel" "low" "[J" ∈ zT := z_m 1214 (by decide +kernel) (by decide +kernel)
theorem wf_Mod_112 : Cond.fieldLink "StreamForgeModel" 112 "StreamForgeModel" "high" "[J" ∈ zT := z_m 1215 (by decide +kernel) (by decide +kernel)
theorem wf_Mod_115 : Cond.fieldLink "StreamForgeModel" 115 "StreamForgeModel" "labels" "[I" ∈ zT := z_m 1216 (by decide +kernel) (by decide +kernel)
theorem wf_Mod_118 : Cond.fieldLink "StreamForgeModel" 118 "StreamForgeModel" "open" "[I" ∈ zT := z_m 1217 (by decide +kernel) (by decide +kernel)
theorem wf_Mod_176 : Cond.fieldLink "StreamForgeModel" 176 "StreamForgeModel" "at" "I" ∈ zT := z_m 1218 (by decide +kernel) (by decide +kernel)
theorem wf_Mod_191 : Cond.fieldLink "StreamForgeModel" 191 "StreamForgeModel" "half" "I" ∈ zT := z_m 1219 (by decide +kernel) (by decide +kernel)
theorem wf_Mod_261 : Cond.fieldLink "StreamForgeModel" 261 "StreamForgeModel" "deep" "I" ∈ zT := z_m 1220 (by decide +kernel) (by decide +kernel)
theorem wf_Mod_206 : Cond.fieldLink "StreamForgeModel" 206 "StreamForgeModel" "group" "I" ∈ zT := z_m 1221 (by decide +kernel) (by decide +kernel)
theorem wf_Mod_222 : Cond.fieldLink "StreamForgeModel" 222 "StreamForgeModel" "stars" "I" ∈ zT := z_m 1222 (by decide +kernel) (by decide +kernel)
theorem wf_Mod_194 : Cond.fieldLink "StreamForgeModel" 194 "StreamForgeModel" "counted" "I" ∈ zT := z_m 1223 (by decide +kernel) (by decide +kernel)
theorem wf_Mod_234 : Cond.fieldLink "StreamForgeModel" 234 "StreamForgeModel" "number" "I" ∈ zT := z_m 1224 (by decide +kernel) (by decide +kernel)
theorem wf_Mod_179 : Cond.fieldLink "StreamForgeModel" 179 "StreamForgeModel" "bad" "Z" ∈ zT := z_m 1225 (by decide +kernel) (by decide +kernel)
theorem wf_Mod_203 : Cond.fieldLink "StreamForgeModel" 203 "StreamForgeModel" "inGroup" "Z" ∈ zT := z_m 1226 (by decide +kernel) (by decide +kernel)
theorem wf_Mod_197 : Cond.fieldLink "StreamForgeModel" 197 "StreamForgeModel" "may" "Z" ∈ zT := z_m 1227 (by decide +kernel) (by decide +kernel)
theorem wf_Mod_121 : Cond.fieldLink "StreamForgeModel" 121 "StreamForgeModel" "subject" "[I" ∈ zT := z_m 1228 (by decide +kernel) (by decide +kernel)
theorem wf_Mod_124 : Cond.fieldLink "StreamForgeModel" 124 "StreamForgeModel" "groupFrom" "[I" ∈ zT := z_m 1229 (by decide +kernel) (by decide +kernel)
theorem wf_Mod_127 : Cond.fieldLink "StreamForgeModel" 127 "StreamForgeModel" "groupLong" "[I" ∈ zT := z_m 1230 (by decide +kernel) (by decide +kernel)
theorem wf_Mod_299 : Cond.fieldLink "StreamForgeModel" 299 "StreamForgeModel" "subjectLong" "I" ∈ zT := z_m 1231 (by decide +kernel) (by decide +kernel)
theorem wf_Mod_296 : Cond.fieldLink "StreamForgeModel" 296 "StreamForgeModel" "stuck" "I" ∈ zT := z_m 1232 (by decide +kernel) (by decide +kernel)
theorem wf_Mod_313 : Cond.fieldLink "StreamForgeModel" 313 "StreamForgeModel" "foundAt" "I" ∈ zT := z_m 1233 (by decide +kernel) (by decide +kernel)
theorem wf_Mod_316 : Cond.fieldLink "StreamForgeModel" 316 "StreamForgeModel" "foundEnd" "I" ∈ zT := z_m 1234 (by decide +kernel) (by decide +kernel)
theorem wf_Mod_130 : Cond.fieldLink "StreamForgeModel" 130 "StreamForgeModel" "space" "[I" ∈ zT := z_m 1235 (by decide +kernel) (by decide +kernel)
theorem wf_Mod_133 : Cond.fieldLink "StreamForgeModel" 133 "StreamForgeModel" "hold" "[I" ∈ zT := z_m 1236 (by decide +kernel) (by decide +kernel)
theorem wf_Mod_136 : Cond.fieldLink "StreamForgeModel" 136 "StreamForgeModel" "work" "[I" ∈ zT := z_m 1237 (by decide +kernel) (by decide +kernel)
theorem wf_Mod_139 : Cond.fieldLink "StreamForgeModel" 139 "StreamForgeModel" "appended" "[I" ∈ zT := z_m 1238 (by decide +kernel) (by decide +kernel)
theorem wf_Mod_142 : Cond.fieldLink "StreamForgeModel" 142 "StreamForgeModel" "out" "[I" ∈ zT := z_m 1239 (by decide +kernel) (by decide +kernel)
theorem wf_Mod_145 : Cond.fieldLink "StreamForgeModel" 145 "StreamForgeModel" "began" "[I" ∈ zT := z_m 1240 (by decide +kernel) (by decide +kernel)
theorem wf_Mod_148 : Cond.fieldLink "StreamForgeModel" 148 "StreamForgeModel" "active" "[Z" ∈ zT := z_m 1241 (by decide +kernel) (by decide +kernel)
theorem wf_Mod_319 : Cond.fieldLink "StreamForgeModel" 319 "StreamForgeModel" "spaceLong" "I" ∈ zT := z_m 1242 (by decide +kernel) (by decide +kernel)
theorem wf_Mod_378 : Cond.fieldLink "StreamForgeModel" 378 "StreamForgeModel" "holdLong" "I" ∈ zT := z_m 1243 (by decide +kernel) (by decide +kernel)
theorem wf_Mod_334 : Cond.fieldLink "StreamForgeModel" 334 "StreamForgeModel" "workLong" "I" ∈ zT := z_m 1244 (by decide +kernel) (by decide +kernel)
theorem wf_Mod_343 : Cond.fieldLink "StreamForgeModel" 343 "StreamForgeModel" "appendedLong" "I" ∈ zT := z_m 1245 (by decide +kernel) (by decide +kernel)
theorem wf_Mod_331 : Cond.fieldLink "StreamForgeModel" 331 "StreamForgeModel" "outLong" "I" ∈ zT := z_m 1246 (by decide +kernel) (by decide +kernel)
theorem wf_Mod_346 : Cond.fieldLink "StreamForgeModel" 346 "StreamForgeModel" "read" "I" ∈ zT := z_m 1247 (by decide +kernel) (by decide +kernel)
theorem wf_Mod_419 : Cond.fieldLink "StreamForgeModel" 419 "StreamForgeModel" "begun" "I" ∈ zT := z_m 1248 (by decide +kernel) (by decide +kernel)
theorem wf_Mod_387 : Cond.fieldLink "StreamForgeModel" 387 "StreamForgeModel" "cycles" "I" ∈ zT := z_m 1249 (by decide +kernel) (by decide +kernel)
theorem wf_Mod_368 : Cond.fieldLink "StreamForgeModel" 368 "StreamForgeModel" "replaced" "I" ∈ zT := z_m 1250 (by decide +kernel) (by decide +kernel)
theorem wf_Mod_371 : Cond.fieldLink "StreamForgeModel" 371 "StreamForgeModel" "some" "Z" ∈ zT := z_m 1251 (by decide +kernel) (by decide +kernel)
theorem wf_Mod_352 : Cond.fieldLink "StreamForgeModel" 352 "StreamForgeModel" "ended" "Z" ∈ zT := z_m 1252 (by decide +kernel) (by decide +kernel)
theorem wf_Mod_328 : Cond.fieldLink "StreamForgeModel" 328 "StreamForgeModel" "over" "Z" ∈ zT := z_m 1253 (by decide +kernel) (by decide +kernel)
theorem wc_It_29 : Cond.constantLong "StreamForge$Items" 29 (-1) ∈ zT := z_m 815 (by decide +kernel) (by decide +kernel)
theorem wc_Mod_220 : Cond.constantLong "StreamForgeModel" 220 (-1) ∈ zT := z_m 1492 (by decide +kernel) (by decide +kernel)
theorem wc_Law_56 : Cond.constantLong "StreamForgeLaw" 56 (4294967295) ∈ zT := z_m 1676 (by decide +kernel) (by decide +kernel)
end
section
theorem d_Row_hasRoom_0 : decode prog_12_method_2_code 0 = .ok (.iload_n 1, 1) := by decide +kernel
theorem d_Row_hasRoom_1 : decode prog_12_method_2_code 1 = .ok (.aload_n 0, 1) := by decide +kernel
theorem d_Row_hasRoom_2 : decode prog_12_method_2_code 2 = .ok (.getfield 9, 3) := by decide +kernel
theorem d_Row_hasRoom_5 : decode prog_12_method_2_code 5 = .ok (.arraylength, 1) := by decide +kernel
theorem d_Row_hasRoom_6 : decode prog_12_method_2_code 6 = .ok (.aload_n 0, 1) := by decide +kernel
theorem d_Row_hasRoom_7 : decode prog_12_method_2_code 7 = .ok (.getfield 15, 3) := by decide +kernel
theorem d_Row_hasRoom_10 : decode prog_12_method_2_code 10 = .ok (.isub, 1) := by decide +kernel
theorem d_Row_hasRoom_11 : decode prog_12_method_2_code 11 = .ok (.if_icmp .gt 7, 3) := by decide +kernel
theorem d_Row_hasRoom_14 : decode prog_12_method_2_code 14 = .ok (.iconst 1, 1) := by decide +kernel
theorem d_Row_hasRoom_15 : decode prog_12_method_2_code 15 = .ok (.goto 4, 3) := by decide +kernel
theorem d_Row_hasRoom_18 : decode prog_12_method_2_code 18 = .ok (.iconst 0, 1) := by decide +kernel
theorem d_Row_hasRoom_19 : decode prog_12_method_2_code 19 = .ok (.ireturn, 1) := by decide +kernel
theorem d_Row_at_0 : decode prog_12_method_3_code 0 = .ok (.iload_n 1, 1) := by decide +kernel
theorem d_Row_at_1 : decode prog_12_method_3_code 1 = .ok (.ifCond .lt 20, 3) := by decide +kernel
theorem d_Row_at_4 : decode prog_12_method_3_code 4 = .ok (.iload_n 1, 1) := by decide +kernel
theorem d_Row_at_5 : decode prog_12_method_3_code 5 = .ok (.aload_n 0, 1) := by decide +kernel
theorem d_Row_at_6 : decode prog_12_method_3_code 6 = .ok (.getfield 15, 3) := by decide +kernel
theorem d_Row_at_9 : decode prog_12_method_3_code 9 = .ok (.if_icmp .ge 12, 3) := by decide +kernel
theorem d_Row_at_12 : decode prog_12_method_3_code 12 = .ok (.aload_n 0, 1) := by decide +kernel
theorem d_Row_at_13 : decode prog_12_method_3_code 13 = .ok (.getfield 9, 3) := by decide +kernel
theorem d_Row_at_16 : decode prog_12_method_3_code 16 = .ok (.iload_n 1, 1) := by decide +kernel
theorem d_Row_at_17 : decode prog_12_method_3_code 17 = .ok (.caload, 1) := by decide +kernel
theorem d_Row_at_18 : decode prog_12_method_3_code 18 = .ok (.goto 4, 3) := by decide +kernel
theorem d_Row_at_21 : decode prog_12_method_3_code 21 = .ok (.iconst (-1), 1) := by decide +kernel
theorem d_Row_at_22 : decode prog_12_method_3_code 22 = .ok (.ireturn, 1) := by decide +kernel
theorem d_Row_empty_0 : decode prog_12_method_4_code 0 = .ok (.aload_n 0, 1) := by decide +kernel
theorem d_Row_empty_1 : decode prog_12_method_4_code 1 = .ok (.iconst 0, 1) := by decide +kernel
theorem d_Row_empty_2 : decode prog_12_method_4_code 2 = .ok (.putfield 15, 3) := by decide +kernel
theorem d_Row_empty_5 : decode prog_12_method_4_code 5 = .ok (.return_, 1) := by decide +kernel
theorem d_Row_add_0 : decode prog_12_method_5_code 0 = .ok (.aload_n 0, 1) := by decide +kernel
theorem d_Row_add_1 : decode prog_12_method_5_code 1 = .ok (.getfield 15, 3) := by decide +kernel
theorem d_Row_add_4 : decode prog_12_method_5_code 4 = .ok (.aload_n 0, 1) := by decide +kernel
theorem d_Row_add_5 : decode prog_12_method_5_code 5 = .ok (.getfield 9, 3) := by decide +kernel
theorem d_Row_add_8 : decode prog_12_method_5_code 8 = .ok (.arraylength, 1) := by decide +kernel
theorem d_Row_add_9 : decode prog_12_method_5_code 9 = .ok (.if_icmp .ge 24, 3) := by decide +kernel
theorem d_Row_add_12 : decode prog_12_method_5_code 12 = .ok (.aload_n 0, 1) := by decide +kernel
theorem d_Row_add_13 : decode prog_12_method_5_code 13 = .ok (.getfield 9, 3) := by decide +kernel
theorem d_Row_add_16 : decode prog_12_method_5_code 16 = .ok (.aload_n 0, 1) := by decide +kernel
theorem d_Row_add_17 : decode prog_12_method_5_code 17 = .ok (.getfield 15, 3) := by decide +kernel
theorem d_Row_add_20 : decode prog_12_method_5_code 20 = .ok (.iload_n 1, 1) := by decide +kernel
theorem d_Row_add_21 : decode prog_12_method_5_code 21 = .ok (.i2c, 1) := by decide +kernel
theorem d_Row_add_22 : decode prog_12_method_5_code 22 = .ok (.castore, 1) := by decide +kernel
theorem d_Row_add_23 : decode prog_12_method_5_code 23 = .ok (.aload_n 0, 1) := by decide +kernel
theorem d_Row_add_24 : decode prog_12_method_5_code 24 = .ok (.dup, 1) := by decide +kernel
theorem d_Row_add_25 : decode prog_12_method_5_code 25 = .ok (.getfield 15, 3) := by decide +kernel
theorem d_Row_add_28 : decode prog_12_method_5_code 28 = .ok (.iconst 1, 1) := by decide +kernel
theorem d_Row_add_29 : decode prog_12_method_5_code 29 = .ok (.iadd, 1) := by decide +kernel
theorem d_Row_add_30 : decode prog_12_method_5_code 30 = .ok (.putfield 15, 3) := by decide +kernel
theorem d_Row_add_33 : decode prog_12_method_5_code 33 = .ok (.return_, 1) := by decide +kernel
theorem d_Row_addPart_0 : decode prog_12_method_6_code 0 = .ok (.iload_n 2, 1) := by decide +kernel
theorem d_Row_addPart_1 : decode prog_12_method_6_code 1 = .ok (.istore 4, 2) := by decide +kernel
theorem d_Row_addPart_3 : decode prog_12_method_6_code 3 = .ok (.iload 4, 2) := by decide +kernel
theorem d_Row_addPart_5 : decode prog_12_method_6_code 5 = .ok (.iload_n 3, 1) := by decide +kernel
theorem d_Row_addPart_6 : decode prog_12_method_6_code 6 = .ok (.if_icmp .ge 56, 3) := by decide +kernel
theorem d_Row_addPart_9 : decode prog_12_method_6_code 9 = .ok (.iload 4, 2) := by decide +kernel
theorem d_Row_addPart_11 : decode prog_12_method_6_code 11 = .ok (.aload_n 1, 1) := by decide +kernel
theorem d_Row_addPart_12 : decode prog_12_method_6_code 12 = .ok (.getfield 15, 3) := by decide +kernel
theorem d_Row_addPart_15 : decode prog_12_method_6_code 15 = .ok (.if_icmp .ge 47, 3) := by decide +kernel
theorem d_Row_addPart_18 : decode prog_12_method_6_code 18 = .ok (.aload_n 0, 1) := by decide +kernel
theorem d_Row_addPart_19 : decode prog_12_method_6_code 19 = .ok (.getfield 15, 3) := by decide +kernel
theorem d_Row_addPart_22 : decode prog_12_method_6_code 22 = .ok (.aload_n 0, 1) := by decide +kernel
theorem d_Row_addPart_23 : decode prog_12_method_6_code 23 = .ok (.getfield 9, 3) := by decide +kernel
theorem d_Row_addPart_26 : decode prog_12_method_6_code 26 = .ok (.arraylength, 1) := by decide +kernel
theorem d_Row_addPart_27 : decode prog_12_method_6_code 27 = .ok (.if_icmp .ge 35, 3) := by decide +kernel
theorem d_Row_addPart_30 : decode prog_12_method_6_code 30 = .ok (.aload_n 0, 1) := by decide +kernel
theorem d_Row_addPart_31 : decode prog_12_method_6_code 31 = .ok (.getfield 9, 3) := by decide +kernel
theorem d_Row_addPart_34 : decode prog_12_method_6_code 34 = .ok (.aload_n 0, 1) := by decide +kernel
theorem d_Row_addPart_35 : decode prog_12_method_6_code 35 = .ok (.getfield 15, 3) := by decide +kernel
theorem d_Row_addPart_38 : decode prog_12_method_6_code 38 = .ok (.aload_n 1, 1) := by decide +kernel
theorem d_Row_addPart_39 : decode prog_12_method_6_code 39 = .ok (.getfield 9, 3) := by decide +kernel
theorem d_Row_addPart_42 : decode prog_12_method_6_code 42 = .ok (.iload 4, 2) := by decide +kernel
theorem d_Row_addPart_44 : decode prog_12_method_6_code 44 = .ok (.caload, 1) := by decide +kernel
theorem d_Row_addPart_45 : decode prog_12_method_6_code 45 = .ok (.castore, 1) := by decide +kernel
theorem d_Row_addPart_46 : decode prog_12_method_6_code 46 = .ok (.aload_n 0, 1) := by decide +kernel
theorem d_Row_addPart_47 : decode prog_12_method_6_code 47 = .ok (.dup, 1) := by decide +kernel
theorem d_Row_addPart_48 : decode prog_12_method_6_code 48 = .ok (.getfield 15, 3) := by decide +kernel
theorem d_Row_addPart_51 : decode prog_12_method_6_code 51 = .ok (.iconst 1, 1) := by decide +kernel
theorem d_Row_addPart_52 : decode prog_12_method_6_code 52 = .ok (.iadd, 1) := by decide +kernel
theorem d_Row_addPart_53 : decode prog_12_method_6_code 53 = .ok (.putfield 15, 3) := by decide +kernel
theorem d_Row_addPart_56 : decode prog_12_method_6_code 56 = .ok (.iinc 4 1, 3) := by decide +kernel
theorem d_Row_addPart_59 : decode prog_12_method_6_code 59 = .ok (.goto (-56), 3) := by decide +kernel
theorem d_Row_addPart_62 : decode prog_12_method_6_code 62 = .ok (.return_, 1) := by decide +kernel
theorem d_Row_dropFirst_0 : decode prog_12_method_7_code 0 = .ok (.iload_n 1, 1) := by decide +kernel
theorem d_Row_dropFirst_1 : decode prog_12_method_7_code 1 = .ok (.istore_n 2, 1) := by decide +kernel
theorem d_Row_dropFirst_2 : decode prog_12_method_7_code 2 = .ok (.iload_n 2, 1) := by decide +kernel
theorem d_Row_dropFirst_3 : decode prog_12_method_7_code 3 = .ok (.aload_n 0, 1) := by decide +kernel
theorem d_Row_dropFirst_4 : decode prog_12_method_7_code 4 = .ok (.getfield 15, 3) := by decide +kernel
theorem d_Row_dropFirst_7 : decode prog_12_method_7_code 7 = .ok (.if_icmp .ge 23, 3) := by decide +kernel
theorem d_Row_dropFirst_10 : decode prog_12_method_7_code 10 = .ok (.aload_n 0, 1) := by decide +kernel
theorem d_Row_dropFirst_11 : decode prog_12_method_7_code 11 = .ok (.getfield 9, 3) := by decide +kernel
theorem d_Row_dropFirst_14 : decode prog_12_method_7_code 14 = .ok (.iload_n 2, 1) := by decide +kernel
theorem d_Row_dropFirst_15 : decode prog_12_method_7_code 15 = .ok (.iload_n 1, 1) := by decide +kernel
theorem d_Row_dropFirst_16 : decode prog_12_method_7_code 16 = .ok (.isub, 1) := by decide +kernel
theorem d_Row_dropFirst_17 : decode prog_12_method_7_code 17 = .ok (.aload_n 0, 1) := by decide +kernel
theorem d_Row_dropFirst_18 : decode prog_12_method_7_code 18 = .ok (.getfield 9, 3) := by decide +kernel
theorem d_Row_dropFirst_21 : decode prog_12_method_7_code 21 = .ok (.iload_n 2, 1) := by decide +kernel
theorem d_Row_dropFirst_22 : decode prog_12_method_7_code 22 = .ok (.caload, 1) := by decide +kernel
theorem d_Row_dropFirst_23 : decode prog_12_method_7_code 23 = .ok (.castore, 1) := by decide +kernel
theorem d_Row_dropFirst_24 : decode prog_12_method_7_code 24 = .ok (.iinc 2 1, 3) := by decide +kernel
theorem d_Row_dropFirst_27 : decode prog_12_method_7_code 27 = .ok (.goto (-25), 3) := by decide +kernel
theorem d_Row_dropFirst_30 : decode prog_12_method_7_code 30 = .ok (.aload_n 0, 1) := by decide +kernel
theorem d_Row_dropFirst_31 : decode prog_12_method_7_code 31 = .ok (.dup, 1) := by decide +kernel
theorem d_Row_dropFirst_32 : decode prog_12_method_7_code 32 = .ok (.getfield 15, 3) := by decide +kernel
theorem d_Row_dropFirst_35 : decode prog_12_method_7_code 35 = .ok (.iload_n 1, 1) := by decide +kernel
theorem d_Row_dropFirst_36 : decode prog_12_method_7_code 36 = .ok (.isub, 1) := by decide +kernel
theorem d_Row_dropFirst_37 : decode prog_12_method_7_code 37 = .ok (.putfield 15, 3) := by decide +kernel
theorem d_Row_dropFirst_40 : decode prog_12_method_7_code 40 = .ok (.return_, 1) := by decide +kernel
theorem d_Row_newlineFrom_0 : decode prog_12_method_8_code 0 = .ok (.iload_n 1, 1) := by decide +kernel
theorem d_Row_newlineFrom_1 : decode prog_12_method_8_code 1 = .ok (.istore_n 2, 1) := by decide +kernel
theorem d_Row_newlineFrom_2 : decode prog_12_method_8_code 2 = .ok (.iload_n 2, 1) := by decide +kernel
theorem d_Row_newlineFrom_3 : decode prog_12_method_8_code 3 = .ok (.aload_n 0, 1) := by decide +kernel
theorem d_Row_newlineFrom_4 : decode prog_12_method_8_code 4 = .ok (.getfield 15, 3) := by decide +kernel
theorem d_Row_newlineFrom_7 : decode prog_12_method_8_code 7 = .ok (.if_icmp .ge 20, 3) := by decide +kernel
theorem d_Row_newlineFrom_10 : decode prog_12_method_8_code 10 = .ok (.aload_n 0, 1) := by decide +kernel
theorem d_Row_newlineFrom_11 : decode prog_12_method_8_code 11 = .ok (.getfield 9, 3) := by decide +kernel
theorem d_Row_newlineFrom_14 : decode prog_12_method_8_code 14 = .ok (.iload_n 2, 1) := by decide +kernel
theorem d_Row_newlineFrom_15 : decode prog_12_method_8_code 15 = .ok (.caload, 1) := by decide +kernel
theorem d_Row_newlineFrom_16 : decode prog_12_method_8_code 16 = .ok (.bipush 10, 2) := by decide +kernel
theorem d_Row_newlineFrom_18 : decode prog_12_method_8_code 18 = .ok (.if_icmp .eq 9, 3) := by decide +kernel
theorem d_Row_newlineFrom_21 : decode prog_12_method_8_code 21 = .ok (.iinc 2 1, 3) := by decide +kernel
theorem d_Row_newlineFrom_24 : decode prog_12_method_8_code 24 = .ok (.goto (-22), 3) := by decide +kernel
theorem d_Row_newlineFrom_27 : decode prog_12_method_8_code 27 = .ok (.iload_n 2, 1) := by decide +kernel
theorem d_Row_newlineFrom_28 : decode prog_12_method_8_code 28 = .ok (.ireturn, 1) := by decide +kernel
end
section
section
variable {p : Program} {l : Launch} {e : Env} {s : State} {m : MethodId} {args : Array Value} {below : List Frame} {meth : Method} {c : Code} {Ts : List Cond} {own : String} {D : va_G} {dA : Nat → ClassId} {B : Nat}
def f_Row_hasRoom (N : Nat) (v0 : Nat) (v1 : Int32) (h : z_H) : Option (Int32 × z_H) :=
  z_b (gR h v0 10 0) fun x1 =>
  z_b (aN h x1) fun x2 =>
  z_b (gI h v0 10 1) fun x3 =>
  if (x2 - x3) < v1 then
  (some (0, h))
  else
  (some (1, h))
set_option maxRecDepth 20000 in
set_option maxHeartbeats 2000000 in
theorem s_Row_hasRoom {l : Launch} {D : va_G} {dA : Nat → ClassId} {B N : Nat} {v0 : Nat} {v1 : Int32} {h h' : z_H} {r : Int32} (hf : f_Row_hasRoom N v0 v1 h = some (r, h')) : z_Met l y_Row_hasRoom prog_12_method_2_code 2 (some .boolean) 0 0 D dA B [.ref v0, .int v1] h (some (.int r)) h' := by
  refine z_of (by decide) (Nat.le_of_ble_eq_true rfl) (fun p e s m below meth c ls X hI hl => ?_)
  have hx := z_hx X
  have hb := z_hb X
  have hl : lv_has ls 2 [(0, .ref v0), (1, .int v1)] := hl
  unfold f_Row_hasRoom at hf
  obtain ⟨locs, hlo⟩ : ∃ z : List Loc, z = [] := ⟨_, rfl⟩
  rw [← hlo] at hI ⊢
  refine lv_iload_n hx hb d_Row_hasRoom_0 rfl (lv_at hl 1 rfl) ?_
  refine lv_aload_n hx hb d_Row_hasRoom_1 rfl (lv_at hl 0 rfl) ?_
  obtain ⟨x1, ex1, hf⟩ := z_bs hf
  refine z_getF X hI (k := 0) (ci := 10) (gR_s ex1) i_Row rfl (by decide) wf_Row_9 d_Row_hasRoom_2 ?_
  obtain ⟨x2, ex2, hf⟩ := z_bs hf
  refine z_alen X hI ex2 d_Row_hasRoom_5 ?_
  refine lv_aload_n hx hb d_Row_hasRoom_6 rfl (lv_at hl 0 rfl) ?_
  obtain ⟨x3, ex3, hf⟩ := z_bs hf
  refine z_getF X hI (k := 1) (ci := 10) (gI_s ex3) i_Row rfl (by decide) wf_Row_15 d_Row_hasRoom_7 ?_
  refine lv_isub hx hb d_Row_hasRoom_10 ?_
  refine lv_icmp_gt (tgt := 18) hx hb d_Row_hasRoom_11 (by decide) (fun c4 => ?_) (fun c4 => ?_)
  · rw [if_pos c4] at hf
    refine lv_iconst (v := 0) hx hb d_Row_hasRoom_18 (by decide) ?_
    cases hf
    exact z_zret X hI (Or.inl rfl) d_Row_hasRoom_19
  · rw [if_neg c4] at hf
    refine lv_iconst (v := 1) hx hb d_Row_hasRoom_14 (by decide) ?_
    refine lv_goto (tgt := 19) hx hb d_Row_hasRoom_15 (by decide) ?_
    cases hf
    exact z_zret X hI (Or.inr rfl) d_Row_hasRoom_19
def f_Row_at (N : Nat) (v0 : Nat) (v1 : Int32) (h : z_H) : Option (Int32 × z_H) :=
  if v1 < 0 then
  (some ((-1), h))
  else
  (z_b (gI h v0 10 1) fun x2 =>
  if x2 ≤ v1 then
  (some ((-1), h))
  else
  (z_b (gR h v0 10 0) fun x4 =>
  z_b (aI h x4 1 v1) fun x5 =>
  some (x5, h)))
set_option maxRecDepth 20000 in
set_option maxHeartbeats 2000000 in
theorem s_Row_at {l : Launch} {D : va_G} {dA : Nat → ClassId} {B N : Nat} {v0 : Nat} {v1 : Int32} {h h' : z_H} {r : Int32} (hf : f_Row_at N v0 v1 h = some (r, h')) : z_Met l y_Row_at prog_12_method_3_code 2 (some .int) 0 0 D dA B [.ref v0, .int v1] h (some (.int r)) h' := by
  refine z_of (by decide) (Nat.le_of_ble_eq_true rfl) (fun p e s m below meth c ls X hI hl => ?_)
  have hx := z_hx X
  have hb := z_hb X
  have hl : lv_has ls 2 [(0, .ref v0), (1, .int v1)] := hl
  unfold f_Row_at at hf
  obtain ⟨locs, hlo⟩ : ∃ z : List Loc, z = [] := ⟨_, rfl⟩
  rw [← hlo] at hI ⊢
  refine lv_iload_n hx hb d_Row_at_0 rfl (lv_at hl 1 rfl) ?_
  refine lv_if_lt (tgt := 21) hx hb d_Row_at_1 (by decide) (fun c1 => ?_) (fun c1 => ?_)
  · rw [if_pos c1] at hf
    refine lv_iconst (v := (-1)) hx hb d_Row_at_21 (by decide) ?_
    cases hf
    exact z_iret X hI d_Row_at_22
  · rw [if_neg c1] at hf
    refine lv_iload_n hx hb d_Row_at_4 rfl (lv_at hl 1 rfl) ?_
    refine lv_aload_n hx hb d_Row_at_5 rfl (lv_at hl 0 rfl) ?_
    obtain ⟨x2, ex2, hf⟩ := z_bs hf
    refine z_getF X hI (k := 1) (ci := 10) (gI_s ex2) i_Row rfl (by decide) wf_Row_15 d_Row_at_6 ?_
    refine lv_icmp_ge (tgt := 21) hx hb d_Row_at_9 (by decide) (fun c3 => ?_) (fun c3 => ?_)
    · rw [if_pos c3] at hf
      refine lv_iconst (v := (-1)) hx hb d_Row_at_21 (by decide) ?_
      cases hf
      exact z_iret X hI d_Row_at_22
    · rw [if_neg c3] at hf
      refine lv_aload_n hx hb d_Row_at_12 rfl (lv_at hl 0 rfl) ?_
      obtain ⟨x4, ex4, hf⟩ := z_bs hf
      refine z_getF X hI (k := 0) (ci := 10) (gR_s ex4) i_Row rfl (by decide) wf_Row_9 d_Row_at_13 ?_
      refine lv_iload_n hx hb d_Row_at_16 rfl (lv_at hl 1 rfl) ?_
      obtain ⟨x5, ex5, hf⟩ := z_bs hf
      refine z_cald X hI ex5 d_Row_at_17 ?_
      refine lv_goto (tgt := 22) hx hb d_Row_at_18 (by decide) ?_
      cases hf
      exact z_iret X hI d_Row_at_22
def f_Row_empty (N : Nat) (v0 : Nat) (h : z_H) : Option z_H :=
  z_b (sF h v0 10 1 (.int 0)) fun h1 =>
  some h1
set_option maxRecDepth 20000 in
set_option maxHeartbeats 2000000 in
theorem s_Row_empty {l : Launch} {D : va_G} {dA : Nat → ClassId} {B N : Nat} {v0 : Nat} {h h' : z_H} (hf : f_Row_empty N v0 h = some h') : z_Met l y_Row_empty prog_12_method_4_code 1 none 0 0 D dA B [.ref v0] h none h' := by
  refine z_of (by decide) (Nat.le_of_ble_eq_true rfl) (fun p e s m below meth c ls X hI hl => ?_)
  have hx := z_hx X
  have hb := z_hb X
  have hl : lv_has ls 1 [(0, .ref v0)] := hl
  unfold f_Row_empty at hf
  obtain ⟨locs, hlo⟩ : ∃ z : List Loc, z = [] := ⟨_, rfl⟩
  rw [← hlo] at hI ⊢
  refine lv_aload_n hx hb d_Row_empty_0 rfl (lv_at hl 0 rfl) ?_
  refine lv_iconst (v := 0) hx hb d_Row_empty_1 (by decide) ?_
  obtain ⟨h1, eh1, hf⟩ := z_bs hf
  refine z_putF X hI (k := 1) (ci := 10) (ty0 := t_Row) eh1 i_Row t_Row_ok n_Row rfl (by decide) wf_Row_15 rfl rfl rfl d_Row_empty_2 (fun H locs hI => ?_)
  cases hf
  exact z_vret X hI d_Row_empty_5
def f_Row_add (N : Nat) (v0 : Nat) (v1 : Int32) (h : z_H) : Option z_H :=
  z_b (gI h v0 10 1) fun x1 =>
  z_b (gR h v0 10 0) fun x2 =>
  z_b (aN h x2) fun x3 =>
  if x3 ≤ x1 then
  (some h)
  else
  (z_b (gR h v0 10 0) fun x5 =>
  z_b (gI h v0 10 1) fun x6 =>
  z_b (uI h x5 1 x6 (vp_nar .char ((Int32.toUInt32 v1 % 65536).toInt32))) fun h7 =>
  z_b (gI h7 v0 10 1) fun x8 =>
  z_b (sF h7 v0 10 1 (.int (x8 + 1))) fun h9 =>
  some h9)
set_option maxRecDepth 20000 in
set_option maxHeartbeats 2000000 in
theorem s_Row_add {l : Launch} {D : va_G} {dA : Nat → ClassId} {B N : Nat} {v0 : Nat} {v1 : Int32} {h h' : z_H} (hf : f_Row_add N v0 v1 h = some h') : z_Met l y_Row_add prog_12_method_5_code 2 none 0 0 D dA B [.ref v0, .int v1] h none h' := by
  refine z_of (by decide) (Nat.le_of_ble_eq_true rfl) (fun p e s m below meth c ls X hI hl => ?_)
  have hx := z_hx X
  have hb := z_hb X
  have hl : lv_has ls 2 [(0, .ref v0), (1, .int v1)] := hl
  unfold f_Row_add at hf
  obtain ⟨locs, hlo⟩ : ∃ z : List Loc, z = [] := ⟨_, rfl⟩
  rw [← hlo] at hI ⊢
  refine lv_aload_n hx hb d_Row_add_0 rfl (lv_at hl 0 rfl) ?_
  obtain ⟨x1, ex1, hf⟩ := z_bs hf
  refine z_getF X hI (k := 1) (ci := 10) (gI_s ex1) i_Row rfl (by decide) wf_Row_15 d_Row_add_1 ?_
  refine lv_aload_n hx hb d_Row_add_4 rfl (lv_at hl 0 rfl) ?_
  obtain ⟨x2, ex2, hf⟩ := z_bs hf
  refine z_getF X hI (k := 0) (ci := 10) (gR_s ex2) i_Row rfl (by decide) wf_Row_9 d_Row_add_5 ?_
  obtain ⟨x3, ex3, hf⟩ := z_bs hf
  refine z_alen X hI ex3 d_Row_add_8 ?_
  refine lv_icmp_ge (tgt := 33) hx hb d_Row_add_9 (by decide) (fun c4 => ?_) (fun c4 => ?_)
  · rw [if_pos c4] at hf
    cases hf
    exact z_vret X hI d_Row_add_33
  · rw [if_neg c4] at hf
    refine lv_aload_n hx hb d_Row_add_12 rfl (lv_at hl 0 rfl) ?_
    obtain ⟨x5, ex5, hf⟩ := z_bs hf
    refine z_getF X hI (k := 0) (ci := 10) (gR_s ex5) i_Row rfl (by decide) wf_Row_9 d_Row_add_13 ?_
    refine lv_aload_n hx hb d_Row_add_16 rfl (lv_at hl 0 rfl) ?_
    obtain ⟨x6, ex6, hf⟩ := z_bs hf
    refine z_getF X hI (k := 1) (ci := 10) (gI_s ex6) i_Row rfl (by decide) wf_Row_15 d_Row_add_17 ?_
    refine lv_iload_n hx hb d_Row_add_20 rfl (lv_at hl 1 rfl) ?_
    refine lv_i2c hx hb d_Row_add_21 rfl ?_
    obtain ⟨h7, eh7, hf⟩ := z_bs hf
    refine z_cast X hI eh7 d_Row_add_22 (fun H locs hI => ?_)
    refine lv_aload_n hx hb d_Row_add_23 rfl (lv_at hl 0 rfl) ?_
    refine lv_dup hx hb d_Row_add_24 rfl ?_
    obtain ⟨x8, ex8, hf⟩ := z_bs hf
    refine z_getF X hI (k := 1) (ci := 10) (gI_s ex8) i_Row rfl (by decide) wf_Row_15 d_Row_add_25 ?_
    refine lv_iconst (v := 1) hx hb d_Row_add_28 (by decide) ?_
    refine lv_iadd hx hb d_Row_add_29 ?_
    obtain ⟨h9, eh9, hf⟩ := z_bs hf
    refine z_putF X hI (k := 1) (ci := 10) (ty0 := t_Row) eh9 i_Row t_Row_ok n_Row rfl (by decide) wf_Row_15 rfl rfl rfl d_Row_add_30 (fun H locs hI => ?_)
    cases hf
    exact z_vret X hI d_Row_add_33
def f_Row_addPart_3 (N : Nat)  : Nat → Nat → Nat → Int32 → Int32 → z_H → Option z_H
  | 0, _, _, _, _, _ => none
  | n + 1, v0, v1, v3, v4, h =>
    if v3 ≤ v4 then
    (some h)
    else
    (z_b (gI h v1 10 1) fun x2 =>
    if x2 ≤ v4 then
    (some h)
    else
    (z_b (gI h v0 10 1) fun x4 =>
    z_b (gR h v0 10 0) fun x5 =>
    z_b (aN h x5) fun x6 =>
    if x6 ≤ x4 then
    (some h)
    else
    (z_b (gR h v0 10 0) fun x8 =>
    z_b (gI h v0 10 1) fun x9 =>
    z_b (gR h v1 10 0) fun x10 =>
    z_b (aI h x10 1 v4) fun x11 =>
    z_b (uI h x8 1 x9 (vp_nar .char x11)) fun h12 =>
    z_b (gI h12 v0 10 1) fun x13 =>
    z_b (sF h12 v0 10 1 (.int (x13 + 1))) fun h14 =>
    z_b (some (v4 + 1)) fun x15 =>
    (f_Row_addPart_3 N  n) v0 v1 v3 x15 h14)))
set_option maxRecDepth 20000 in
set_option maxHeartbeats 2000000 in
theorem s_Row_addPart_3 (X : z_X p s m args meth c prog_12_method_6_code 5 none Ts "StreamForge$Row" D dA B) {N : Nat} {h' : z_H}   : ∀ n : Nat, ∀ (v0 : Nat) (v1 : Nat) (v3 : Int32) (v4 : Int32) (h : z_H) (H : Heap) (locs : List Loc) (ls : Array Slot), z_I D dA B h s.heap H locs → lv_has ls 5 [(0, .ref v0), (1, .ref v1), (3, .int v3), (4, .int v4)] → f_Row_addPart_3 N  n v0 v1 v3 v4 h = some h' → W p l e (z_rm 0 0) s m args below meth c H locs 0 0 (MQ below (z_Q D dA B none h') args s 0 0 (fun q => B ≤ q)) (F0 m 3 ls []) := by
  have hx := z_hx X
  have hb := z_hb X
  intro n
  induction n with
  | zero => intro v0 v1 v3 v4 h H locs ls hI hl hf; rw [f_Row_addPart_3] at hf; cases hf
  | succ n ih =>
    intro v0 v1 v3 v4 h H locs ls hI hl hf
    rw [f_Row_addPart_3] at hf
    refine lv_iload hx hb d_Row_addPart_3 (lv_at hl 3 rfl) ?_
    refine lv_iload_n hx hb d_Row_addPart_5 rfl (lv_at hl 2 rfl) ?_
    refine lv_icmp_ge (tgt := 62) hx hb d_Row_addPart_6 (by decide) (fun c1 => ?_) (fun c1 => ?_)
    · rw [if_pos c1] at hf
      cases hf
      exact z_vret X hI d_Row_addPart_62
    · rw [if_neg c1] at hf
      refine lv_iload hx hb d_Row_addPart_9 (lv_at hl 3 rfl) ?_
      refine lv_aload_n hx hb d_Row_addPart_11 rfl (lv_at hl 1 rfl) ?_
      obtain ⟨x2, ex2, hf⟩ := z_bs hf
      refine z_getF X hI (k := 1) (ci := 10) (gI_s ex2) i_Row rfl (by decide) wf_Row_15 d_Row_addPart_12 ?_
      refine lv_icmp_ge (tgt := 62) hx hb d_Row_addPart_15 (by decide) (fun c3 => ?_) (fun c3 => ?_)
      · rw [if_pos c3] at hf
        cases hf
        exact z_vret X hI d_Row_addPart_62
      · rw [if_neg c3] at hf
        refine lv_aload_n hx hb d_Row_addPart_18 rfl (lv_at hl 0 rfl) ?_
        obtain ⟨x4, ex4, hf⟩ := z_bs hf
        refine z_getF X hI (k := 1) (ci := 10) (gI_s ex4) i_Row rfl (by decide) wf_Row_15 d_Row_addPart_19 ?_
        refine lv_aload_n hx hb d_Row_addPart_22 rfl (lv_at hl 0 rfl) ?_
        obtain ⟨x5, ex5, hf⟩ := z_bs hf
        refine z_getF X hI (k := 0) (ci := 10) (gR_s ex5) i_Row rfl (by decide) wf_Row_9 d_Row_addPart_23 ?_
        obtain ⟨x6, ex6, hf⟩ := z_bs hf
        refine z_alen X hI ex6 d_Row_addPart_26 ?_
        refine lv_icmp_ge (tgt := 62) hx hb d_Row_addPart_27 (by decide) (fun c7 => ?_) (fun c7 => ?_)
        · rw [if_pos c7] at hf
          cases hf
          exact z_vret X hI d_Row_addPart_62
        · rw [if_neg c7] at hf
          refine lv_aload_n hx hb d_Row_addPart_30 rfl (lv_at hl 0 rfl) ?_
          obtain ⟨x8, ex8, hf⟩ := z_bs hf
          refine z_getF X hI (k := 0) (ci := 10) (gR_s ex8) i_Row rfl (by decide) wf_Row_9 d_Row_addPart_31 ?_
          refine lv_aload_n hx hb d_Row_addPart_34 rfl (lv_at hl 0 rfl) ?_
          obtain ⟨x9, ex9, hf⟩ := z_bs hf
          refine z_getF X hI (k := 1) (ci := 10) (gI_s ex9) i_Row rfl (by decide) wf_Row_15 d_Row_addPart_35 ?_
          refine lv_aload_n hx hb d_Row_addPart_38 rfl (lv_at hl 1 rfl) ?_
          obtain ⟨x10, ex10, hf⟩ := z_bs hf
          refine z_getF X hI (k := 0) (ci := 10) (gR_s ex10) i_Row rfl (by decide) wf_Row_9 d_Row_addPart_39 ?_
          refine lv_iload hx hb d_Row_addPart_42 (lv_at hl 3 rfl) ?_
          obtain ⟨x11, ex11, hf⟩ := z_bs hf
          refine z_cald X hI ex11 d_Row_addPart_44 ?_
          obtain ⟨h12, eh12, hf⟩ := z_bs hf
          refine z_cast X hI eh12 d_Row_addPart_45 (fun H locs hI => ?_)
          refine lv_aload_n hx hb d_Row_addPart_46 rfl (lv_at hl 0 rfl) ?_
          refine lv_dup hx hb d_Row_addPart_47 rfl ?_
          obtain ⟨x13, ex13, hf⟩ := z_bs hf
          refine z_getF X hI (k := 1) (ci := 10) (gI_s ex13) i_Row rfl (by decide) wf_Row_15 d_Row_addPart_48 ?_
          refine lv_iconst (v := 1) hx hb d_Row_addPart_51 (by decide) ?_
          refine lv_iadd hx hb d_Row_addPart_52 ?_
          obtain ⟨h14, eh14, hf⟩ := z_bs hf
          refine z_putF X hI (k := 1) (ci := 10) (ty0 := t_Row) eh14 i_Row t_Row_ok n_Row rfl (by decide) wf_Row_15 rfl rfl rfl d_Row_addPart_53 (fun H locs hI => ?_)
          obtain ⟨x15, ex15, hf⟩ := z_bs hf
          refine lv_iinc (v := x15) (lv' := [(4, .int x15), (0, .ref v0), (1, .ref v1), (3, .int v3)]) hx hb d_Row_addPart_56 hl (k := 3) rfl (by rw [← Option.some.inj ex15]; rfl) (by decide) rfl (fun ls hl => ?_)
          refine lv_goto (tgt := 3) hx hb d_Row_addPart_59 (by decide) ?_
          exact ih v0 v1 v3 x15 h14 _ _ _ hI (lv_sub hl [1, 2, 3, 0] rfl) hf
def f_Row_addPart (N : Nat) (v0 : Nat) (v1 : Nat) (v2 : Int32) (v3 : Int32) (h : z_H) : Option z_H :=
  f_Row_addPart_3 N N v0 v1 v3 v2 h
set_option maxRecDepth 20000 in
set_option maxHeartbeats 2000000 in
theorem s_Row_addPart {l : Launch} {D : va_G} {dA : Nat → ClassId} {B N : Nat} {v0 : Nat} {v1 : Nat} {v2 : Int32} {v3 : Int32} {h h' : z_H} (hf : f_Row_addPart N v0 v1 v2 v3 h = some h') : z_Met l y_Row_addPart prog_12_method_6_code 5 none 0 0 D dA B [.ref v0, .ref v1, .int v2, .int v3] h none h' := by
  refine z_of (by decide) (Nat.le_of_ble_eq_true rfl) (fun p e s m below meth c ls X hI hl => ?_)
  have hx := z_hx X
  have hb := z_hb X
  have hl : lv_has ls 5 [(0, .ref v0), (1, .ref v1), (2, .int v2), (3, .int v3)] := hl
  unfold f_Row_addPart at hf
  obtain ⟨locs, hlo⟩ : ∃ z : List Loc, z = [] := ⟨_, rfl⟩
  rw [← hlo] at hI ⊢
  refine lv_iload_n hx hb d_Row_addPart_0 rfl (lv_at hl 2 rfl) ?_
  refine lv_istore (lv' := [(4, .int v2), (0, .ref v0), (1, .ref v1), (2, .int v2), (3, .int v3)]) hx hb d_Row_addPart_1 hl (by decide) rfl (fun ls hl => ?_)
  exact s_Row_addPart_3 X  N v0 v1 v3 v2 h _ _ _ hI (lv_sub hl [1, 2, 4, 0] rfl) hf
def f_Row_dropFirst_2 (N : Nat)  : Nat → Nat → Int32 → Int32 → z_H → Option z_H
  | 0, _, _, _, _ => none
  | n + 1, v0, v1, v2, h =>
    z_b (gI h v0 10 1) fun x1 =>
    if x1 ≤ v2 then
    (z_b (gI h v0 10 1) fun x3 =>
    z_b (sF h v0 10 1 (.int (x3 - v1))) fun h4 =>
    some h4)
    else
    (z_b (gR h v0 10 0) fun x5 =>
    z_b (gR h v0 10 0) fun x6 =>
    z_b (aI h x6 1 v2) fun x7 =>
    z_b (uI h x5 1 (v2 - v1) (vp_nar .char x7)) fun h8 =>
    z_b (some (v2 + 1)) fun x9 =>
    (f_Row_dropFirst_2 N  n) v0 v1 x9 h8)
set_option maxRecDepth 20000 in
set_option maxHeartbeats 2000000 in
theorem s_Row_dropFirst_2 (X : z_X p s m args meth c prog_12_method_7_code 3 none Ts "StreamForge$Row" D dA B) {N : Nat} {h' : z_H}   : ∀ n : Nat, ∀ (v0 : Nat) (v1 : Int32) (v2 : Int32) (h : z_H) (H : Heap) (locs : List Loc) (ls : Array Slot), z_I D dA B h s.heap H locs → lv_has ls 3 [(0, .ref v0), (1, .int v1), (2, .int v2)] → f_Row_dropFirst_2 N  n v0 v1 v2 h = some h' → W p l e (z_rm 0 0) s m args below meth c H locs 0 0 (MQ below (z_Q D dA B none h') args s 0 0 (fun q => B ≤ q)) (F0 m 2 ls []) := by
  have hx := z_hx X
  have hb := z_hb X
  intro n
  induction n with
  | zero => intro v0 v1 v2 h H locs ls hI hl hf; rw [f_Row_dropFirst_2] at hf; cases hf
  | succ n ih =>
    intro v0 v1 v2 h H locs ls hI hl hf
    rw [f_Row_dropFirst_2] at hf
    refine lv_iload_n hx hb d_Row_dropFirst_2 rfl (lv_at hl 2 rfl) ?_
    refine lv_aload_n hx hb d_Row_dropFirst_3 rfl (lv_at hl 0 rfl) ?_
    obtain ⟨x1, ex1, hf⟩ := z_bs hf
    refine z_getF X hI (k := 1) (ci := 10) (gI_s ex1) i_Row rfl (by decide) wf_Row_15 d_Row_dropFirst_4 ?_
    refine lv_icmp_ge (tgt := 30) hx hb d_Row_dropFirst_7 (by decide) (fun c2 => ?_) (fun c2 => ?_)
    · rw [if_pos c2] at hf
      refine lv_aload_n hx hb d_Row_dropFirst_30 rfl (lv_at hl 0 rfl) ?_
      refine lv_dup hx hb d_Row_dropFirst_31 rfl ?_
      obtain ⟨x3, ex3, hf⟩ := z_bs hf
      refine z_getF X hI (k := 1) (ci := 10) (gI_s ex3) i_Row rfl (by decide) wf_Row_15 d_Row_dropFirst_32 ?_
      refine lv_iload_n hx hb d_Row_dropFirst_35 rfl (lv_at hl 1 rfl) ?_
      refine lv_isub hx hb d_Row_dropFirst_36 ?_
      obtain ⟨h4, eh4, hf⟩ := z_bs hf
      refine z_putF X hI (k := 1) (ci := 10) (ty0 := t_Row) eh4 i_Row t_Row_ok n_Row rfl (by decide) wf_Row_15 rfl rfl rfl d_Row_dropFirst_37 (fun H locs hI => ?_)
      cases hf
      exact z_vret X hI d_Row_dropFirst_40
    · rw [if_neg c2] at hf
      refine lv_aload_n hx hb d_Row_dropFirst_10 rfl (lv_at hl 0 rfl) ?_
      obtain ⟨x5, ex5, hf⟩ := z_bs hf
      refine z_getF X hI (k := 0) (ci := 10) (gR_s ex5) i_Row rfl (by decide) wf_Row_9 d_Row_dropFirst_11 ?_
      refine lv_iload_n hx hb d_Row_dropFirst_14 rfl (lv_at hl 2 rfl) ?_
      refine lv_iload_n hx hb d_Row_dropFirst_15 rfl (lv_at hl 1 rfl) ?_
      refine lv_isub hx hb d_Row_dropFirst_16 ?_
      refine lv_aload_n hx hb d_Row_dropFirst_17 rfl (lv_at hl 0 rfl) ?_
      obtain ⟨x6, ex6, hf⟩ := z_bs hf
      refine z_getF X hI (k := 0) (ci := 10) (gR_s ex6) i_Row rfl (by decide) wf_Row_9 d_Row_dropFirst_18 ?_
      refine lv_iload_n hx hb d_Row_dropFirst_21 rfl (lv_at hl 2 rfl) ?_
      obtain ⟨x7, ex7, hf⟩ := z_bs hf
      refine z_cald X hI ex7 d_Row_dropFirst_22 ?_
      obtain ⟨h8, eh8, hf⟩ := z_bs hf
      refine z_cast X hI eh8 d_Row_dropFirst_23 (fun H locs hI => ?_)
      obtain ⟨x9, ex9, hf⟩ := z_bs hf
      refine lv_iinc (v := x9) (lv' := [(2, .int x9), (0, .ref v0), (1, .int v1)]) hx hb d_Row_dropFirst_24 hl (k := 2) rfl (by rw [← Option.some.inj ex9]; rfl) (by decide) rfl (fun ls hl => ?_)
      refine lv_goto (tgt := 2) hx hb d_Row_dropFirst_27 (by decide) ?_
      exact ih v0 v1 x9 h8 _ _ _ hI (lv_sub hl [1, 2, 0] rfl) hf
def f_Row_dropFirst (N : Nat) (v0 : Nat) (v1 : Int32) (h : z_H) : Option z_H :=
  f_Row_dropFirst_2 N N v0 v1 v1 h
set_option maxRecDepth 20000 in
set_option maxHeartbeats 2000000 in
theorem s_Row_dropFirst {l : Launch} {D : va_G} {dA : Nat → ClassId} {B N : Nat} {v0 : Nat} {v1 : Int32} {h h' : z_H} (hf : f_Row_dropFirst N v0 v1 h = some h') : z_Met l y_Row_dropFirst prog_12_method_7_code 3 none 0 0 D dA B [.ref v0, .int v1] h none h' := by
  refine z_of (by decide) (Nat.le_of_ble_eq_true rfl) (fun p e s m below meth c ls X hI hl => ?_)
  have hx := z_hx X
  have hb := z_hb X
  have hl : lv_has ls 3 [(0, .ref v0), (1, .int v1)] := hl
  unfold f_Row_dropFirst at hf
  obtain ⟨locs, hlo⟩ : ∃ z : List Loc, z = [] := ⟨_, rfl⟩
  rw [← hlo] at hI ⊢
  refine lv_iload_n hx hb d_Row_dropFirst_0 rfl (lv_at hl 1 rfl) ?_
  refine lv_istore_n (lv' := [(2, .int v1), (0, .ref v0), (1, .int v1)]) hx hb d_Row_dropFirst_1 rfl hl (by decide) rfl (fun ls hl => ?_)
  exact s_Row_dropFirst_2 X  N v0 v1 v1 h _ _ _ hI (lv_sub hl [1, 2, 0] rfl) hf
def f_Row_newlineFrom_2 (N : Nat)  : Nat → Nat → Int32 → z_H → Option (Int32 × z_H)
  | 0, _, _, _ => none
  | n + 1, v0, v2, h =>
    z_b (gI h v0 10 1) fun x1 =>
    if x1 ≤ v2 then
    (some (v2, h))
    else
    (z_b (gR h v0 10 0) fun x3 =>
    z_b (aI h x3 1 v2) fun x4 =>
    if x4 = 10 then
    (some (v2, h))
    else
    (z_b (some (v2 + 1)) fun x6 =>
    (f_Row_newlineFrom_2 N  n) v0 x6 h))
set_option maxRecDepth 20000 in
set_option maxHeartbeats 2000000 in
theorem s_Row_newlineFrom_2 (X : z_X p s m args meth c prog_12_method_8_code 3 (some .int) Ts "StreamForge$Row" D dA B) {N : Nat} {r : Int32} {h' : z_H}   : ∀ n : Nat, ∀ (v0 : Nat) (v2 : Int32) (h : z_H) (H : Heap) (locs : List Loc) (ls : Array Slot), z_I D dA B h s.heap H locs → lv_has ls 3 [(0, .ref v0), (2, .int v2)] → f_Row_newlineFrom_2 N  n v0 v2 h = some (r, h') → W p l e (z_rm 0 0) s m args below meth c H locs 0 0 (MQ below (z_Q D dA B (some (.int r)) h') args s 0 0 (fun q => B ≤ q)) (F0 m 2 ls []) := by
  have hx := z_hx X
  have hb := z_hb X
  intro n
  induction n with
  | zero => intro v0 v2 h H locs ls hI hl hf; rw [f_Row_newlineFrom_2] at hf; cases hf
  | succ n ih =>
    intro v0 v2 h H locs ls hI hl hf
    rw [f_Row_newlineFrom_2] at hf
    refine lv_iload_n hx hb d_Row_newlineFrom_2 rfl (lv_at hl 1 rfl) ?_
    refine lv_aload_n hx hb d_Row_newlineFrom_3 rfl (lv_at hl 0 rfl) ?_
    obtain ⟨x1, ex1, hf⟩ := z_bs hf
    refine z_getF X hI (k := 1) (ci := 10) (gI_s ex1) i_Row rfl (by decide) wf_Row_15 d_Row_newlineFrom_4 ?_
    refine lv_icmp_ge (tgt := 27) hx hb d_Row_newlineFrom_7 (by decide) (fun c2 => ?_) (fun c2 => ?_)
    · rw [if_pos c2] at hf
      refine lv_iload_n hx hb d_Row_newlineFrom_27 rfl (lv_at hl 1 rfl) ?_
      cases hf
      exact z_iret X hI d_Row_newlineFrom_28
    · rw [if_neg c2] at hf
      refine lv_aload_n hx hb d_Row_newlineFrom_10 rfl (lv_at hl 0 rfl) ?_
      obtain ⟨x3, ex3, hf⟩ := z_bs hf
      refine z_getF X hI (k := 0) (ci := 10) (gR_s ex3) i_Row rfl (by decide) wf_Row_9 d_Row_newlineFrom_11 ?_
      refine lv_iload_n hx hb d_Row_newlineFrom_14 rfl (lv_at hl 1 rfl) ?_
      obtain ⟨x4, ex4, hf⟩ := z_bs hf
      refine z_cald X hI ex4 d_Row_newlineFrom_15 ?_
      refine lv_bipush (v := 10) hx hb d_Row_newlineFrom_16 (by decide) ?_
      refine lv_icmp_eq (tgt := 27) hx hb d_Row_newlineFrom_18 (by decide) (fun c5 => ?_) (fun c5 => ?_)
      · rw [if_pos c5] at hf
        refine lv_iload_n hx hb d_Row_newlineFrom_27 rfl (lv_at hl 1 rfl) ?_
        cases hf
        exact z_iret X hI d_Row_newlineFrom_28
      · rw [if_neg c5] at hf
        obtain ⟨x6, ex6, hf⟩ := z_bs hf
        refine lv_iinc (v := x6) (lv' := [(2, .int x6), (0, .ref v0)]) hx hb d_Row_newlineFrom_21 hl (k := 1) rfl (by rw [← Option.some.inj ex6]; rfl) (by decide) rfl (fun ls hl => ?_)
        refine lv_goto (tgt := 2) hx hb d_Row_newlineFrom_24 (by decide) ?_
        exact ih v0 x6 h _ _ _ hI (lv_sub hl [1, 0] rfl) hf
def f_Row_newlineFrom (N : Nat) (v0 : Nat) (v1 : Int32) (h : z_H) : Option (Int32 × z_H) :=
  f_Row_newlineFrom_2 N N v0 v1 h
set_option maxRecDepth 20000 in
set_option maxHeartbeats 2000000 in
theorem s_Row_newlineFrom {l : Launch} {D : va_G} {dA : Nat → ClassId} {B N : Nat} {v0 : Nat} {v1 : Int32} {h h' : z_H} {r : Int32} (hf : f_Row_newlineFrom N v0 v1 h = some (r, h')) : z_Met l y_Row_newlineFrom prog_12_method_8_code 3 (some .int) 0 0 D dA B [.ref v0, .int v1] h (some (.int r)) h' := by
  refine z_of (by decide) (Nat.le_of_ble_eq_true rfl) (fun p e s m below meth c ls X hI hl => ?_)
  have hx := z_hx X
  have hb := z_hb X
  have hl : lv_has ls 3 [(0, .ref v0), (1, .int v1)] := hl
  unfold f_Row_newlineFrom at hf
  obtain ⟨locs, hlo⟩ : ∃ z : List Loc, z = [] := ⟨_, rfl⟩
  rw [← hlo] at hI ⊢
  refine lv_iload_n hx hb d_Row_newlineFrom_0 rfl (lv_at hl 1 rfl) ?_
  refine lv_istore_n (lv' := [(2, .int v1), (0, .ref v0), (1, .int v1)]) hx hb d_Row_newlineFrom_1 rfl hl (by decide) rfl (fun ls hl => ?_)
  exact s_Row_newlineFrom_2 X  N v0 v1 h _ _ _ hI (lv_sub hl [1, 0] rfl) hf
end
end
