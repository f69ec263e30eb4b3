section
-- ===== PART A: goes FIRST, ahead of the names: the tables' words, and 'selects' of the private methods out of them =====
/-- a private method of a class that the tables say can be made, by its rows of tables_1 -/
def lw_okq (q : MethodName × Nat) : Prop := (q.1.cls ≠ "java/lang/invoke/MethodHandle" ∧ q.1.cls ≠ "java/lang/invoke/VarHandle") ∧ Cond.instantiable q.1.cls q.2 ∈ tables_1 ∧ Cond.privateMethod q.1 ∈ tables_1 ∧ Cond.instanceMethod q.1 ∈ tables_1
theorem lw_p0 : lw_okq (⟨"java/lang/Throwable", "fillInStackTrace", "(I)Ljava/lang/Throwable;"⟩, 6) := ⟨⟨by decide +kernel, by decide +kernel⟩, List.mem_of_getElem? (i := 520) (by decide +kernel), List.mem_of_getElem? (i := 518) (by decide +kernel), List.mem_of_getElem? (i := 519) (by decide +kernel)⟩
theorem lw_p1 : lw_okq (⟨"StreamForge$Parser", "begin", "(LStreamForge$Row;LStreamForge$Program;)V"⟩, 7) := ⟨⟨by decide +kernel, by decide +kernel⟩, List.mem_of_getElem? (i := 54) (by decide +kernel), List.mem_of_getElem? (i := 596) (by decide +kernel), List.mem_of_getElem? (i := 597) (by decide +kernel)⟩
theorem lw_p2 : lw_okq (⟨"StreamForge$Parser", "closeBlock", "()Z"⟩, 7) := ⟨⟨by decide +kernel, by decide +kernel⟩, List.mem_of_getElem? (i := 54) (by decide +kernel), List.mem_of_getElem? (i := 609) (by decide +kernel), List.mem_of_getElem? (i := 610) (by decide +kernel)⟩
theorem lw_p3 : lw_okq (⟨"StreamForge$Parser", "beginCommand", "()Z"⟩, 7) := ⟨⟨by decide +kernel, by decide +kernel⟩, List.mem_of_getElem? (i := 54) (by decide +kernel), List.mem_of_getElem? (i := 617) (by decide +kernel), List.mem_of_getElem? (i := 618) (by decide +kernel)⟩
theorem lw_p4 : lw_okq (⟨"StreamForge$Parser", "readAddresses", "()Z"⟩, 7) := ⟨⟨by decide +kernel, by decide +kernel⟩, List.mem_of_getElem? (i := 54) (by decide +kernel), List.mem_of_getElem? (i := 625) (by decide +kernel), List.mem_of_getElem? (i := 626) (by decide +kernel)⟩
theorem lw_p5 : lw_okq (⟨"StreamForge$Parser", "readAddress", "(LStreamForge$Address;)Z"⟩, 7) := ⟨⟨by decide +kernel, by decide +kernel⟩, List.mem_of_getElem? (i := 54) (by decide +kernel), List.mem_of_getElem? (i := 632) (by decide +kernel), List.mem_of_getElem? (i := 633) (by decide +kernel)⟩
theorem lw_p6 : lw_okq (⟨"StreamForge$PatternReader", "begin", "(LStreamForge$Pattern;LStreamForge$Items;)V"⟩, 7) := ⟨⟨by decide +kernel, by decide +kernel⟩, List.mem_of_getElem? (i := 80) (by decide +kernel), List.mem_of_getElem? (i := 640) (by decide +kernel), List.mem_of_getElem? (i := 641) (by decide +kernel)⟩
theorem lw_p7 : lw_okq (⟨"StreamForge$PatternReader", "readStar", "()Z"⟩, 7) := ⟨⟨by decide +kernel, by decide +kernel⟩, List.mem_of_getElem? (i := 80) (by decide +kernel), List.mem_of_getElem? (i := 645) (by decide +kernel), List.mem_of_getElem? (i := 646) (by decide +kernel)⟩
theorem lw_p8 : lw_okq (⟨"StreamForge$PatternReader", "readEscape", "()Z"⟩, 7) := ⟨⟨by decide +kernel, by decide +kernel⟩, List.mem_of_getElem? (i := 80) (by decide +kernel), List.mem_of_getElem? (i := 650) (by decide +kernel), List.mem_of_getElem? (i := 651) (by decide +kernel)⟩
theorem lw_p9 : lw_okq (⟨"StreamForge$PatternReader", "mayEscape", "()Z"⟩, 7) := ⟨⟨by decide +kernel, by decide +kernel⟩, List.mem_of_getElem? (i := 80) (by decide +kernel), List.mem_of_getElem? (i := 654) (by decide +kernel), List.mem_of_getElem? (i := 655) (by decide +kernel)⟩
theorem lw_p10 : lw_okq (⟨"StreamForge$PatternReader", "openGroup", "()Z"⟩, 7) := ⟨⟨by decide +kernel, by decide +kernel⟩, List.mem_of_getElem? (i := 80) (by decide +kernel), List.mem_of_getElem? (i := 658) (by decide +kernel), List.mem_of_getElem? (i := 659) (by decide +kernel)⟩
theorem lw_p11 : lw_okq (⟨"StreamForge$PatternReader", "closeGroup", "()Z"⟩, 7) := ⟨⟨by decide +kernel, by decide +kernel⟩, List.mem_of_getElem? (i := 80) (by decide +kernel), List.mem_of_getElem? (i := 666) (by decide +kernel), List.mem_of_getElem? (i := 667) (by decide +kernel)⟩
theorem lw_p12 : lw_okq (⟨"StreamForge$PatternReader", "readSame", "(I)Z"⟩, 7) := ⟨⟨by decide +kernel, by decide +kernel⟩, List.mem_of_getElem? (i := 80) (by decide +kernel), List.mem_of_getElem? (i := 670) (by decide +kernel), List.mem_of_getElem? (i := 671) (by decide +kernel)⟩
theorem lw_p13 : lw_okq (⟨"StreamForge$PatternReader", "addOne", "()Z"⟩, 7) := ⟨⟨by decide +kernel, by decide +kernel⟩, List.mem_of_getElem? (i := 80) (by decide +kernel), List.mem_of_getElem? (i := 674) (by decide +kernel), List.mem_of_getElem? (i := 675) (by decide +kernel)⟩
theorem lw_p14 : lw_okq (⟨"StreamForge$PatternReader", "readSet", "()Z"⟩, 7) := ⟨⟨by decide +kernel, by decide +kernel⟩, List.mem_of_getElem? (i := 80) (by decide +kernel), List.mem_of_getElem? (i := 682) (by decide +kernel), List.mem_of_getElem? (i := 683) (by decide +kernel)⟩
theorem lw_p15 : lw_okq (⟨"StreamForge$PatternReader", "readRange", "()Z"⟩, 7) := ⟨⟨by decide +kernel, by decide +kernel⟩, List.mem_of_getElem? (i := 80) (by decide +kernel), List.mem_of_getElem? (i := 686) (by decide +kernel), List.mem_of_getElem? (i := 687) (by decide +kernel)⟩
def lw_privs_1 : List (MethodName × Nat) := [(⟨"java/lang/Throwable", "fillInStackTrace", "(I)Ljava/lang/Throwable;"⟩, 6), (⟨"StreamForge$Parser", "begin", "(LStreamForge$Row;LStreamForge$Program;)V"⟩, 7), (⟨"StreamForge$Parser", "closeBlock", "()Z"⟩, 7), (⟨"StreamForge$Parser", "beginCommand", "()Z"⟩, 7), (⟨"StreamForge$Parser", "readAddresses", "()Z"⟩, 7), (⟨"StreamForge$Parser", "readAddress", "(LStreamForge$Address;)Z"⟩, 7), (⟨"StreamForge$PatternReader", "begin", "(LStreamForge$Pattern;LStreamForge$Items;)V"⟩, 7), (⟨"StreamForge$PatternReader", "readStar", "()Z"⟩, 7), (⟨"StreamForge$PatternReader", "readEscape", "()Z"⟩, 7), (⟨"StreamForge$PatternReader", "mayEscape", "()Z"⟩, 7), (⟨"StreamForge$PatternReader", "openGroup", "()Z"⟩, 7), (⟨"StreamForge$PatternReader", "closeGroup", "()Z"⟩, 7), (⟨"StreamForge$PatternReader", "readSame", "(I)Z"⟩, 7), (⟨"StreamForge$PatternReader", "addOne", "()Z"⟩, 7), (⟨"StreamForge$PatternReader", "readSet", "()Z"⟩, 7), (⟨"StreamForge$PatternReader", "readRange", "()Z"⟩, 7)]
theorem lw_r1 : ∀ q ∈ lw_privs_1, lw_okq q := List.forall_mem_cons.mpr ⟨lw_p0, List.forall_mem_cons.mpr ⟨lw_p1, List.forall_mem_cons.mpr ⟨lw_p2, List.forall_mem_cons.mpr ⟨lw_p3, List.forall_mem_cons.mpr ⟨lw_p4, List.forall_mem_cons.mpr ⟨lw_p5, List.forall_mem_cons.mpr ⟨lw_p6, List.forall_mem_cons.mpr ⟨lw_p7, List.forall_mem_cons.mpr ⟨lw_p8, List.forall_mem_cons.mpr ⟨lw_p9, List.forall_mem_cons.mpr ⟨lw_p10, List.forall_mem_cons.mpr ⟨lw_p11, List.forall_mem_cons.mpr ⟨lw_p12, List.forall_mem_cons.mpr ⟨lw_p13, List.forall_mem_cons.mpr ⟨lw_p14, List.forall_mem_cons.mpr ⟨lw_p15, fun _ h => absurd h List.not_mem_nil⟩⟩⟩⟩⟩⟩⟩⟩⟩⟩⟩⟩⟩⟩⟩⟩
theorem lw_p16 : lw_okq (⟨"StreamForge$PatternReader", "mayEnd", "()Z"⟩, 7) := ⟨⟨by decide +kernel, by decide +kernel⟩, List.mem_of_getElem? (i := 80) (by decide +kernel), List.mem_of_getElem? (i := 704) (by decide +kernel), List.mem_of_getElem? (i := 705) (by decide +kernel)⟩
theorem lw_p17 : lw_okq (⟨"StreamForge$PatternReader", "readEnd", "()Z"⟩, 7) := ⟨⟨by decide +kernel, by decide +kernel⟩, List.mem_of_getElem? (i := 80) (by decide +kernel), List.mem_of_getElem? (i := 708) (by decide +kernel), List.mem_of_getElem? (i := 709) (by decide +kernel)⟩
theorem lw_p18 : lw_okq (⟨"StreamForge$PatternReader", "readPlain", "()Z"⟩, 7) := ⟨⟨by decide +kernel, by decide +kernel⟩, List.mem_of_getElem? (i := 80) (by decide +kernel), List.mem_of_getElem? (i := 712) (by decide +kernel), List.mem_of_getElem? (i := 713) (by decide +kernel)⟩
theorem lw_p19 : lw_okq (⟨"StreamForge$PatternReader", "finish", "()V"⟩, 7) := ⟨⟨by decide +kernel, by decide +kernel⟩, List.mem_of_getElem? (i := 80) (by decide +kernel), List.mem_of_getElem? (i := 716) (by decide +kernel), List.mem_of_getElem? (i := 717) (by decide +kernel)⟩
theorem lw_p20 : lw_okq (⟨"StreamForge$Parser", "passBlanks", "()V"⟩, 7) := ⟨⟨by decide +kernel, by decide +kernel⟩, List.mem_of_getElem? (i := 54) (by decide +kernel), List.mem_of_getElem? (i := 720) (by decide +kernel), List.mem_of_getElem? (i := 721) (by decide +kernel)⟩
theorem lw_p21 : lw_okq (⟨"StreamForge$Parser", "readAction", "()Z"⟩, 7) := ⟨⟨by decide +kernel, by decide +kernel⟩, List.mem_of_getElem? (i := 54) (by decide +kernel), List.mem_of_getElem? (i := 724) (by decide +kernel), List.mem_of_getElem? (i := 725) (by decide +kernel)⟩
theorem lw_p22 : lw_okq (⟨"StreamForge$Parser", "openBlock", "()Z"⟩, 7) := ⟨⟨by decide +kernel, by decide +kernel⟩, List.mem_of_getElem? (i := 54) (by decide +kernel), List.mem_of_getElem? (i := 728) (by decide +kernel), List.mem_of_getElem? (i := 729) (by decide +kernel)⟩
theorem lw_p23 : lw_okq (⟨"StreamForge$Parser", "placeLabel", "()Z"⟩, 7) := ⟨⟨by decide +kernel, by decide +kernel⟩, List.mem_of_getElem? (i := 54) (by decide +kernel), List.mem_of_getElem? (i := 732) (by decide +kernel), List.mem_of_getElem? (i := 733) (by decide +kernel)⟩
theorem lw_p24 : lw_okq (⟨"StreamForge$Parser", "endCommand", "()Z"⟩, 7) := ⟨⟨by decide +kernel, by decide +kernel⟩, List.mem_of_getElem? (i := 54) (by decide +kernel), List.mem_of_getElem? (i := 739) (by decide +kernel), List.mem_of_getElem? (i := 740) (by decide +kernel)⟩
theorem lw_p25 : lw_okq (⟨"StreamForge$Parser", "readBranch", "()Z"⟩, 7) := ⟨⟨by decide +kernel, by decide +kernel⟩, List.mem_of_getElem? (i := 54) (by decide +kernel), List.mem_of_getElem? (i := 743) (by decide +kernel), List.mem_of_getElem? (i := 744) (by decide +kernel)⟩
theorem lw_p26 : lw_okq (⟨"StreamForge$Parser", "readSubstitution", "()Z"⟩, 7) := ⟨⟨by decide +kernel, by decide +kernel⟩, List.mem_of_getElem? (i := 54) (by decide +kernel), List.mem_of_getElem? (i := 747) (by decide +kernel), List.mem_of_getElem? (i := 748) (by decide +kernel)⟩
theorem lw_p27 : lw_okq (⟨"StreamForge$Parser", "readReplacement", "()Z"⟩, 7) := ⟨⟨by decide +kernel, by decide +kernel⟩, List.mem_of_getElem? (i := 54) (by decide +kernel), List.mem_of_getElem? (i := 752) (by decide +kernel), List.mem_of_getElem? (i := 753) (by decide +kernel)⟩
theorem lw_p28 : lw_okq (⟨"StreamForge$Parser", "mayFollowBackslash", "(I)Z"⟩, 7) := ⟨⟨by decide +kernel, by decide +kernel⟩, List.mem_of_getElem? (i := 54) (by decide +kernel), List.mem_of_getElem? (i := 756) (by decide +kernel), List.mem_of_getElem? (i := 757) (by decide +kernel)⟩
theorem lw_p29 : lw_okq (⟨"StreamForge$Parser", "readFlags", "()Z"⟩, 7) := ⟨⟨by decide +kernel, by decide +kernel⟩, List.mem_of_getElem? (i := 54) (by decide +kernel), List.mem_of_getElem? (i := 760) (by decide +kernel), List.mem_of_getElem? (i := 761) (by decide +kernel)⟩
theorem lw_p30 : lw_okq (⟨"StreamForge$Parser", "readExchange", "()Z"⟩, 7) := ⟨⟨by decide +kernel, by decide +kernel⟩, List.mem_of_getElem? (i := 54) (by decide +kernel), List.mem_of_getElem? (i := 764) (by decide +kernel), List.mem_of_getElem? (i := 765) (by decide +kernel)⟩
theorem lw_p31 : lw_okq (⟨"StreamForge$Parser", "wasExchanged", "(I)Z"⟩, 7) := ⟨⟨by decide +kernel, by decide +kernel⟩, List.mem_of_getElem? (i := 54) (by decide +kernel), List.mem_of_getElem? (i := 771) (by decide +kernel), List.mem_of_getElem? (i := 772) (by decide +kernel)⟩
def lw_privs_2 : List (MethodName × Nat) := [(⟨"StreamForge$PatternReader", "mayEnd", "()Z"⟩, 7), (⟨"StreamForge$PatternReader", "readEnd", "()Z"⟩, 7), (⟨"StreamForge$PatternReader", "readPlain", "()Z"⟩, 7), (⟨"StreamForge$PatternReader", "finish", "()V"⟩, 7), (⟨"StreamForge$Parser", "passBlanks", "()V"⟩, 7), (⟨"StreamForge$Parser", "readAction", "()Z"⟩, 7), (⟨"StreamForge$Parser", "openBlock", "()Z"⟩, 7), (⟨"StreamForge$Parser", "placeLabel", "()Z"⟩, 7), (⟨"StreamForge$Parser", "endCommand", "()Z"⟩, 7), (⟨"StreamForge$Parser", "readBranch", "()Z"⟩, 7), (⟨"StreamForge$Parser", "readSubstitution", "()Z"⟩, 7), (⟨"StreamForge$Parser", "readReplacement", "()Z"⟩, 7), (⟨"StreamForge$Parser", "mayFollowBackslash", "(I)Z"⟩, 7), (⟨"StreamForge$Parser", "readFlags", "()Z"⟩, 7), (⟨"StreamForge$Parser", "readExchange", "()Z"⟩, 7), (⟨"StreamForge$Parser", "wasExchanged", "(I)Z"⟩, 7)]
theorem lw_r2 : ∀ q ∈ lw_privs_2, lw_okq q := List.forall_mem_cons.mpr ⟨lw_p16, List.forall_mem_cons.mpr ⟨lw_p17, List.forall_mem_cons.mpr ⟨lw_p18, List.forall_mem_cons.mpr ⟨lw_p19, List.forall_mem_cons.mpr ⟨lw_p20, List.forall_mem_cons.mpr ⟨lw_p21, List.forall_mem_cons.mpr ⟨lw_p22, List.forall_mem_cons.mpr ⟨lw_p23, List.forall_mem_cons.mpr ⟨lw_p24, List.forall_mem_cons.mpr ⟨lw_p25, List.forall_mem_cons.mpr ⟨lw_p26, List.forall_mem_cons.mpr ⟨lw_p27, List.forall_mem_cons.mpr ⟨lw_p28, List.forall_mem_cons.mpr ⟨lw_p29, List.forall_mem_cons.mpr ⟨lw_p30, List.forall_mem_cons.mpr ⟨lw_p31, fun _ h => absurd h List.not_mem_nil⟩⟩⟩⟩⟩⟩⟩⟩⟩⟩⟩⟩⟩⟩⟩⟩
theorem lw_p32 : lw_okq (⟨"StreamForge$Parser", "readText", "()Z"⟩, 7) := ⟨⟨by decide +kernel, by decide +kernel⟩, List.mem_of_getElem? (i := 54) (by decide +kernel), List.mem_of_getElem? (i := 779) (by decide +kernel), List.mem_of_getElem? (i := 780) (by decide +kernel)⟩
theorem lw_p33 : lw_okq (⟨"StreamForge$Parser", "joinLabels", "()Z"⟩, 7) := ⟨⟨by decide +kernel, by decide +kernel⟩, List.mem_of_getElem? (i := 54) (by decide +kernel), List.mem_of_getElem? (i := 787) (by decide +kernel), List.mem_of_getElem? (i := 788) (by decide +kernel)⟩
theorem lw_p34 : lw_okq (⟨"StreamForge$Editor", "begin", "()V"⟩, 17) := ⟨⟨by decide +kernel, by decide +kernel⟩, List.mem_of_getElem? (i := 131) (by decide +kernel), List.mem_of_getElem? (i := 822) (by decide +kernel), List.mem_of_getElem? (i := 823) (by decide +kernel)⟩
theorem lw_p35 : lw_okq (⟨"StreamForge$Editor", "beginLine", "()V"⟩, 17) := ⟨⟨by decide +kernel, by decide +kernel⟩, List.mem_of_getElem? (i := 131) (by decide +kernel), List.mem_of_getElem? (i := 827) (by decide +kernel), List.mem_of_getElem? (i := 828) (by decide +kernel)⟩
theorem lw_p36 : lw_okq (⟨"StreamForge$Editor", "readLine", "()V"⟩, 17) := ⟨⟨by decide +kernel, by decide +kernel⟩, List.mem_of_getElem? (i := 131) (by decide +kernel), List.mem_of_getElem? (i := 831) (by decide +kernel), List.mem_of_getElem? (i := 832) (by decide +kernel)⟩
theorem lw_p37 : lw_okq (⟨"StreamForge$Editor", "beginCycle", "()V"⟩, 17) := ⟨⟨by decide +kernel, by decide +kernel⟩, List.mem_of_getElem? (i := 131) (by decide +kernel), List.mem_of_getElem? (i := 836) (by decide +kernel), List.mem_of_getElem? (i := 837) (by decide +kernel)⟩
theorem lw_p38 : lw_okq (⟨"StreamForge$Editor", "endCycle", "(Z)V"⟩, 17) := ⟨⟨by decide +kernel, by decide +kernel⟩, List.mem_of_getElem? (i := 131) (by decide +kernel), List.mem_of_getElem? (i := 840) (by decide +kernel), List.mem_of_getElem? (i := 841) (by decide +kernel)⟩
theorem lw_p39 : lw_okq (⟨"StreamForge$Editor", "tell", "(LStreamForge$Row;II)V"⟩, 17) := ⟨⟨by decide +kernel, by decide +kernel⟩, List.mem_of_getElem? (i := 131) (by decide +kernel), List.mem_of_getElem? (i := 844) (by decide +kernel), List.mem_of_getElem? (i := 845) (by decide +kernel)⟩
theorem lw_p40 : lw_okq (⟨"StreamForge$Editor", "tellAppended", "()V"⟩, 17) := ⟨⟨by decide +kernel, by decide +kernel⟩, List.mem_of_getElem? (i := 131) (by decide +kernel), List.mem_of_getElem? (i := 865) (by decide +kernel), List.mem_of_getElem? (i := 866) (by decide +kernel)⟩
theorem lw_p41 : lw_okq (⟨"StreamForge$Editor", "isDone", "(LStreamForge$Command;)Z"⟩, 17) := ⟨⟨by decide +kernel, by decide +kernel⟩, List.mem_of_getElem? (i := 131) (by decide +kernel), List.mem_of_getElem? (i := 884) (by decide +kernel), List.mem_of_getElem? (i := 885) (by decide +kernel)⟩
theorem lw_p42 : lw_okq (⟨"StreamForge$Editor", "fits", "(LStreamForge$Address;)Z"⟩, 17) := ⟨⟨by decide +kernel, by decide +kernel⟩, List.mem_of_getElem? (i := 131) (by decide +kernel), List.mem_of_getElem? (i := 888) (by decide +kernel), List.mem_of_getElem? (i := 889) (by decide +kernel)⟩
theorem lw_p43 : lw_okq (⟨"StreamForge$Matcher", "findLongest", "(I)Z"⟩, 9) := ⟨⟨by decide +kernel, by decide +kernel⟩, List.mem_of_getElem? (i := 139) (by decide +kernel), List.mem_of_getElem? (i := 896) (by decide +kernel), List.mem_of_getElem? (i := 897) (by decide +kernel)⟩
theorem lw_p44 : lw_okq (⟨"StreamForge$Matcher", "walk", "(III)I"⟩, 9) := ⟨⟨by decide +kernel, by decide +kernel⟩, List.mem_of_getElem? (i := 139) (by decide +kernel), List.mem_of_getElem? (i := 900) (by decide +kernel), List.mem_of_getElem? (i := 901) (by decide +kernel)⟩
theorem lw_p45 : lw_okq (⟨"StreamForge$Matcher", "standsAgain", "(II)Z"⟩, 9) := ⟨⟨by decide +kernel, by decide +kernel⟩, List.mem_of_getElem? (i := 139) (by decide +kernel), List.mem_of_getElem? (i := 904) (by decide +kernel), List.mem_of_getElem? (i := 905) (by decide +kernel)⟩
theorem lw_p46 : lw_okq (⟨"StreamForge$Matcher", "repeats", "(II)Z"⟩, 9) := ⟨⟨by decide +kernel, by decide +kernel⟩, List.mem_of_getElem? (i := 139) (by decide +kernel), List.mem_of_getElem? (i := 912) (by decide +kernel), List.mem_of_getElem? (i := 913) (by decide +kernel)⟩
theorem lw_p47 : lw_okq (⟨"StreamForge$Matcher", "keepIfLongest", "(II)V"⟩, 9) := ⟨⟨by decide +kernel, by decide +kernel⟩, List.mem_of_getElem? (i := 139) (by decide +kernel), List.mem_of_getElem? (i := 916) (by decide +kernel), List.mem_of_getElem? (i := 917) (by decide +kernel)⟩
def lw_privs_3 : List (MethodName × Nat) := [(⟨"StreamForge$Parser", "readText", "()Z"⟩, 7), (⟨"StreamForge$Parser", "joinLabels", "()Z"⟩, 7), (⟨"StreamForge$Editor", "begin", "()V"⟩, 17), (⟨"StreamForge$Editor", "beginLine", "()V"⟩, 17), (⟨"StreamForge$Editor", "readLine", "()V"⟩, 17), (⟨"StreamForge$Editor", "beginCycle", "()V"⟩, 17), (⟨"StreamForge$Editor", "endCycle", "(Z)V"⟩, 17), (⟨"StreamForge$Editor", "tell", "(LStreamForge$Row;II)V"⟩, 17), (⟨"StreamForge$Editor", "tellAppended", "()V"⟩, 17), (⟨"StreamForge$Editor", "isDone", "(LStreamForge$Command;)Z"⟩, 17), (⟨"StreamForge$Editor", "fits", "(LStreamForge$Address;)Z"⟩, 17), (⟨"StreamForge$Matcher", "findLongest", "(I)Z"⟩, 9), (⟨"StreamForge$Matcher", "walk", "(III)I"⟩, 9), (⟨"StreamForge$Matcher", "standsAgain", "(II)Z"⟩, 9), (⟨"StreamForge$Matcher", "repeats", "(II)Z"⟩, 9), (⟨"StreamForge$Matcher", "keepIfLongest", "(II)V"⟩, 9)]
theorem lw_r3 : ∀ q ∈ lw_privs_3, lw_okq q := List.forall_mem_cons.mpr ⟨lw_p32, List.forall_mem_cons.mpr ⟨lw_p33, List.forall_mem_cons.mpr ⟨lw_p34, List.forall_mem_cons.mpr ⟨lw_p35, List.forall_mem_cons.mpr ⟨lw_p36, List.forall_mem_cons.mpr ⟨lw_p37, List.forall_mem_cons.mpr ⟨lw_p38, List.forall_mem_cons.mpr ⟨lw_p39, List.forall_mem_cons.mpr ⟨lw_p40, List.forall_mem_cons.mpr ⟨lw_p41, List.forall_mem_cons.mpr ⟨lw_p42, List.forall_mem_cons.mpr ⟨lw_p43, List.forall_mem_cons.mpr ⟨lw_p44, List.forall_mem_cons.mpr ⟨lw_p45, List.forall_mem_cons.mpr ⟨lw_p46, List.forall_mem_cons.mpr ⟨lw_p47, fun _ h => absurd h List.not_mem_nil⟩⟩⟩⟩⟩⟩⟩⟩⟩⟩⟩⟩⟩⟩⟩⟩
theorem lw_p48 : lw_okq (⟨"StreamForge$Editor", "isReached", "(LStreamForge$Address;)Z"⟩, 17) := ⟨⟨by decide +kernel, by decide +kernel⟩, List.mem_of_getElem? (i := 131) (by decide +kernel), List.mem_of_getElem? (i := 920) (by decide +kernel), List.mem_of_getElem? (i := 921) (by decide +kernel)⟩
theorem lw_p49 : lw_okq (⟨"StreamForge$Editor", "perform", "(LStreamForge$Command;)V"⟩, 17) := ⟨⟨by decide +kernel, by decide +kernel⟩, List.mem_of_getElem? (i := 131) (by decide +kernel), List.mem_of_getElem? (i := 924) (by decide +kernel), List.mem_of_getElem? (i := 925) (by decide +kernel)⟩
theorem lw_p50 : lw_okq (⟨"StreamForge$Editor", "branchIfReplaced", "(LStreamForge$Command;)V"⟩, 17) := ⟨⟨by decide +kernel, by decide +kernel⟩, List.mem_of_getElem? (i := 131) (by decide +kernel), List.mem_of_getElem? (i := 928) (by decide +kernel), List.mem_of_getElem? (i := 929) (by decide +kernel)⟩
theorem lw_p51 : lw_okq (⟨"StreamForge$Editor", "substitute", "(LStreamForge$Command;)V"⟩, 17) := ⟨⟨by decide +kernel, by decide +kernel⟩, List.mem_of_getElem? (i := 131) (by decide +kernel), List.mem_of_getElem? (i := 932) (by decide +kernel), List.mem_of_getElem? (i := 933) (by decide +kernel)⟩
theorem lw_p52 : lw_okq (⟨"StreamForge$Editor", "draftPart", "(II)V"⟩, 17) := ⟨⟨by decide +kernel, by decide +kernel⟩, List.mem_of_getElem? (i := 131) (by decide +kernel), List.mem_of_getElem? (i := 943) (by decide +kernel), List.mem_of_getElem? (i := 944) (by decide +kernel)⟩
theorem lw_p53 : lw_okq (⟨"StreamForge$Editor", "draftReplacement", "(LStreamForge$Command;)V"⟩, 17) := ⟨⟨by decide +kernel, by decide +kernel⟩, List.mem_of_getElem? (i := 131) (by decide +kernel), List.mem_of_getElem? (i := 947) (by decide +kernel), List.mem_of_getElem? (i := 948) (by decide +kernel)⟩
theorem lw_p54 : lw_okq (⟨"StreamForge$Editor", "draftCharacter", "(I)V"⟩, 17) := ⟨⟨by decide +kernel, by decide +kernel⟩, List.mem_of_getElem? (i := 131) (by decide +kernel), List.mem_of_getElem? (i := 960) (by decide +kernel), List.mem_of_getElem? (i := 961) (by decide +kernel)⟩
theorem lw_p55 : lw_okq (⟨"StreamForge$Editor", "takeDraft", "(LStreamForge$Command;I)V"⟩, 17) := ⟨⟨by decide +kernel, by decide +kernel⟩, List.mem_of_getElem? (i := 131) (by decide +kernel), List.mem_of_getElem? (i := 964) (by decide +kernel), List.mem_of_getElem? (i := 965) (by decide +kernel)⟩
theorem lw_p56 : lw_okq (⟨"StreamForge$Editor", "exchange", "(LStreamForge$Command;)V"⟩, 17) := ⟨⟨by decide +kernel, by decide +kernel⟩, List.mem_of_getElem? (i := 131) (by decide +kernel), List.mem_of_getElem? (i := 968) (by decide +kernel), List.mem_of_getElem? (i := 969) (by decide +kernel)⟩
theorem lw_p57 : lw_okq (⟨"StreamForge$Editor", "append", "(LStreamForge$Command;)V"⟩, 17) := ⟨⟨by decide +kernel, by decide +kernel⟩, List.mem_of_getElem? (i := 131) (by decide +kernel), List.mem_of_getElem? (i := 972) (by decide +kernel), List.mem_of_getElem? (i := 973) (by decide +kernel)⟩
theorem lw_p58 : lw_okq (⟨"StreamForge$Editor", "change", "(LStreamForge$Command;)V"⟩, 17) := ⟨⟨by decide +kernel, by decide +kernel⟩, List.mem_of_getElem? (i := 131) (by decide +kernel), List.mem_of_getElem? (i := 976) (by decide +kernel), List.mem_of_getElem? (i := 977) (by decide +kernel)⟩
theorem lw_p59 : lw_okq (⟨"StreamForge$Editor", "deleteFirst", "()V"⟩, 17) := ⟨⟨by decide +kernel, by decide +kernel⟩, List.mem_of_getElem? (i := 131) (by decide +kernel), List.mem_of_getElem? (i := 980) (by decide +kernel), List.mem_of_getElem? (i := 981) (by decide +kernel)⟩
theorem lw_p60 : lw_okq (⟨"StreamForge$Editor", "replaceByNext", "()V"⟩, 17) := ⟨⟨by decide +kernel, by decide +kernel⟩, List.mem_of_getElem? (i := 131) (by decide +kernel), List.mem_of_getElem? (i := 989) (by decide +kernel), List.mem_of_getElem? (i := 990) (by decide +kernel)⟩
theorem lw_p61 : lw_okq (⟨"StreamForge$Editor", "quit", "()V"⟩, 17) := ⟨⟨by decide +kernel, by decide +kernel⟩, List.mem_of_getElem? (i := 131) (by decide +kernel), List.mem_of_getElem? (i := 993) (by decide +kernel), List.mem_of_getElem? (i := 994) (by decide +kernel)⟩
theorem lw_p62 : lw_okq (⟨"StreamForge$Editor", "joinNext", "()V"⟩, 17) := ⟨⟨by decide +kernel, by decide +kernel⟩, List.mem_of_getElem? (i := 131) (by decide +kernel), List.mem_of_getElem? (i := 997) (by decide +kernel), List.mem_of_getElem? (i := 998) (by decide +kernel)⟩
theorem lw_p63 : lw_okq (⟨"StreamForge$Editor", "copy", "(LStreamForge$Row;LStreamForge$Row;)V"⟩, 17) := ⟨⟨by decide +kernel, by decide +kernel⟩, List.mem_of_getElem? (i := 131) (by decide +kernel), List.mem_of_getElem? (i := 1001) (by decide +kernel), List.mem_of_getElem? (i := 1002) (by decide +kernel)⟩
def lw_privs_4 : List (MethodName × Nat) := [(⟨"StreamForge$Editor", "isReached", "(LStreamForge$Address;)Z"⟩, 17), (⟨"StreamForge$Editor", "perform", "(LStreamForge$Command;)V"⟩, 17), (⟨"StreamForge$Editor", "branchIfReplaced", "(LStreamForge$Command;)V"⟩, 17), (⟨"StreamForge$Editor", "substitute", "(LStreamForge$Command;)V"⟩, 17), (⟨"StreamForge$Editor", "draftPart", "(II)V"⟩, 17), (⟨"StreamForge$Editor", "draftReplacement", "(LStreamForge$Command;)V"⟩, 17), (⟨"StreamForge$Editor", "draftCharacter", "(I)V"⟩, 17), (⟨"StreamForge$Editor", "takeDraft", "(LStreamForge$Command;I)V"⟩, 17), (⟨"StreamForge$Editor", "exchange", "(LStreamForge$Command;)V"⟩, 17), (⟨"StreamForge$Editor", "append", "(LStreamForge$Command;)V"⟩, 17), (⟨"StreamForge$Editor", "change", "(LStreamForge$Command;)V"⟩, 17), (⟨"StreamForge$Editor", "deleteFirst", "()V"⟩, 17), (⟨"StreamForge$Editor", "replaceByNext", "()V"⟩, 17), (⟨"StreamForge$Editor", "quit", "()V"⟩, 17), (⟨"StreamForge$Editor", "joinNext", "()V"⟩, 17), (⟨"StreamForge$Editor", "copy", "(LStreamForge$Row;LStreamForge$Row;)V"⟩, 17)]
theorem lw_r4 : ∀ q ∈ lw_privs_4, lw_okq q := List.forall_mem_cons.mpr ⟨lw_p48, List.forall_mem_cons.mpr ⟨lw_p49, List.forall_mem_cons.mpr ⟨lw_p50, List.forall_mem_cons.mpr ⟨lw_p51, List.forall_mem_cons.mpr ⟨lw_p52, List.forall_mem_cons.mpr ⟨lw_p53, List.forall_mem_cons.mpr ⟨lw_p54, List.forall_mem_cons.mpr ⟨lw_p55, List.forall_mem_cons.mpr ⟨lw_p56, List.forall_mem_cons.mpr ⟨lw_p57, List.forall_mem_cons.mpr ⟨lw_p58, List.forall_mem_cons.mpr ⟨lw_p59, List.forall_mem_cons.mpr ⟨lw_p60, List.forall_mem_cons.mpr ⟨lw_p61, List.forall_mem_cons.mpr ⟨lw_p62, List.forall_mem_cons.mpr ⟨lw_p63, fun _ h => absurd h List.not_mem_nil⟩⟩⟩⟩⟩⟩⟩⟩⟩⟩⟩⟩⟩⟩⟩⟩
theorem lw_p64 : lw_okq (⟨"StreamForge$Editor", "join", "(LStreamForge$Row;LStreamForge$Row;)V"⟩, 17) := ⟨⟨by decide +kernel, by decide +kernel⟩, List.mem_of_getElem? (i := 131) (by decide +kernel), List.mem_of_getElem? (i := 1005) (by decide +kernel), List.mem_of_getElem? (i := 1006) (by decide +kernel)⟩
theorem lw_p65 : lw_okq (⟨"StreamForge$Editor", "swap", "()V"⟩, 17) := ⟨⟨by decide +kernel, by decide +kernel⟩, List.mem_of_getElem? (i := 131) (by decide +kernel), List.mem_of_getElem? (i := 1009) (by decide +kernel), List.mem_of_getElem? (i := 1010) (by decide +kernel)⟩
theorem lw_p66 : lw_okq (⟨"StreamForge$Editor", "tellNumber", "()V"⟩, 17) := ⟨⟨by decide +kernel, by decide +kernel⟩, List.mem_of_getElem? (i := 131) (by decide +kernel), List.mem_of_getElem? (i := 1013) (by decide +kernel), List.mem_of_getElem? (i := 1014) (by decide +kernel)⟩
theorem lw_p67 : lw_okq (⟨"StreamForgeModel", "fail", "(I)I"⟩, 77) := ⟨⟨by decide +kernel, by decide +kernel⟩, List.mem_of_getElem? (i := 1053) (by decide +kernel), List.mem_of_getElem? (i := 1306) (by decide +kernel), List.mem_of_getElem? (i := 1307) (by decide +kernel)⟩
theorem lw_p68 : lw_okq (⟨"StreamForgeModel", "addTo", "(IJ)V"⟩, 77) := ⟨⟨by decide +kernel, by decide +kernel⟩, List.mem_of_getElem? (i := 1053) (by decide +kernel), List.mem_of_getElem? (i := 1318) (by decide +kernel), List.mem_of_getElem? (i := 1319) (by decide +kernel)⟩
theorem lw_p69 : lw_okq (⟨"StreamForgeModel", "wrong", "(I)V"⟩, 77) := ⟨⟨by decide +kernel, by decide +kernel⟩, List.mem_of_getElem? (i := 1053) (by decide +kernel), List.mem_of_getElem? (i := 1330) (by decide +kernel), List.mem_of_getElem? (i := 1331) (by decide +kernel)⟩
theorem lw_p70 : lw_okq (⟨"StreamForgeModel", "command", "()V"⟩, 77) := ⟨⟨by decide +kernel, by decide +kernel⟩, List.mem_of_getElem? (i := 1053) (by decide +kernel), List.mem_of_getElem? (i := 1334) (by decide +kernel), List.mem_of_getElem? (i := 1335) (by decide +kernel)⟩
theorem lw_p71 : lw_okq (⟨"StreamForgeModel", "address", "()I"⟩, 77) := ⟨⟨by decide +kernel, by decide +kernel⟩, List.mem_of_getElem? (i := 1053) (by decide +kernel), List.mem_of_getElem? (i := 1338) (by decide +kernel), List.mem_of_getElem? (i := 1339) (by decide +kernel)⟩
theorem lw_p72 : lw_okq (⟨"StreamForgeModel", "here", "()I"⟩, 77) := ⟨⟨by decide +kernel, by decide +kernel⟩, List.mem_of_getElem? (i := 1053) (by decide +kernel), List.mem_of_getElem? (i := 1342) (by decide +kernel), List.mem_of_getElem? (i := 1343) (by decide +kernel)⟩
theorem lw_p73 : lw_okq (⟨"StreamForgeModel", "readPattern", "()I"⟩, 77) := ⟨⟨by decide +kernel, by decide +kernel⟩, List.mem_of_getElem? (i := 1053) (by decide +kernel), List.mem_of_getElem? (i := 1346) (by decide +kernel), List.mem_of_getElem? (i := 1347) (by decide +kernel)⟩
theorem lw_p74 : lw_okq (⟨"StreamForgeModel", "behind", "()I"⟩, 77) := ⟨⟨by decide +kernel, by decide +kernel⟩, List.mem_of_getElem? (i := 1053) (by decide +kernel), List.mem_of_getElem? (i := 1350) (by decide +kernel), List.mem_of_getElem? (i := 1351) (by decide +kernel)⟩
theorem lw_p75 : lw_okq (⟨"StreamForgeModel", "escaped", "(I)V"⟩, 77) := ⟨⟨by decide +kernel, by decide +kernel⟩, List.mem_of_getElem? (i := 1053) (by decide +kernel), List.mem_of_getElem? (i := 1354) (by decide +kernel), List.mem_of_getElem? (i := 1355) (by decide +kernel)⟩
theorem lw_p76 : lw_okq (⟨"StreamForgeModel", "addItem", "(III)V"⟩, 77) := ⟨⟨by decide +kernel, by decide +kernel⟩, List.mem_of_getElem? (i := 1053) (by decide +kernel), List.mem_of_getElem? (i := 1358) (by decide +kernel), List.mem_of_getElem? (i := 1359) (by decide +kernel)⟩
theorem lw_p77 : lw_okq (⟨"StreamForgeModel", "set", "(I)V"⟩, 77) := ⟨⟨by decide +kernel, by decide +kernel⟩, List.mem_of_getElem? (i := 1053) (by decide +kernel), List.mem_of_getElem? (i := 1362) (by decide +kernel), List.mem_of_getElem? (i := 1363) (by decide +kernel)⟩
theorem lw_p78 : lw_okq (⟨"StreamForgeModel", "isMember", "()Z"⟩, 77) := ⟨⟨by decide +kernel, by decide +kernel⟩, List.mem_of_getElem? (i := 1053) (by decide +kernel), List.mem_of_getElem? (i := 1366) (by decide +kernel), List.mem_of_getElem? (i := 1367) (by decide +kernel)⟩
theorem lw_p79 : lw_okq (⟨"StreamForgeModel", "put", "(III)V"⟩, 77) := ⟨⟨by decide +kernel, by decide +kernel⟩, List.mem_of_getElem? (i := 1053) (by decide +kernel), List.mem_of_getElem? (i := 1370) (by decide +kernel), List.mem_of_getElem? (i := 1371) (by decide +kernel)⟩
def lw_privs_5 : List (MethodName × Nat) := [(⟨"StreamForge$Editor", "join", "(LStreamForge$Row;LStreamForge$Row;)V"⟩, 17), (⟨"StreamForge$Editor", "swap", "()V"⟩, 17), (⟨"StreamForge$Editor", "tellNumber", "()V"⟩, 17), (⟨"StreamForgeModel", "fail", "(I)I"⟩, 77), (⟨"StreamForgeModel", "addTo", "(IJ)V"⟩, 77), (⟨"StreamForgeModel", "wrong", "(I)V"⟩, 77), (⟨"StreamForgeModel", "command", "()V"⟩, 77), (⟨"StreamForgeModel", "address", "()I"⟩, 77), (⟨"StreamForgeModel", "here", "()I"⟩, 77), (⟨"StreamForgeModel", "readPattern", "()I"⟩, 77), (⟨"StreamForgeModel", "behind", "()I"⟩, 77), (⟨"StreamForgeModel", "escaped", "(I)V"⟩, 77), (⟨"StreamForgeModel", "addItem", "(III)V"⟩, 77), (⟨"StreamForgeModel", "set", "(I)V"⟩, 77), (⟨"StreamForgeModel", "isMember", "()Z"⟩, 77), (⟨"StreamForgeModel", "put", "(III)V"⟩, 77)]
theorem lw_r5 : ∀ q ∈ lw_privs_5, lw_okq q := List.forall_mem_cons.mpr ⟨lw_p64, List.forall_mem_cons.mpr ⟨lw_p65, List.forall_mem_cons.mpr ⟨lw_p66, List.forall_mem_cons.mpr ⟨lw_p67, List.forall_mem_cons.mpr ⟨lw_p68, List.forall_mem_cons.mpr ⟨lw_p69, List.forall_mem_cons.mpr ⟨lw_p70, List.forall_mem_cons.mpr ⟨lw_p71, List.forall_mem_cons.mpr ⟨lw_p72, List.forall_mem_cons.mpr ⟨lw_p73, List.forall_mem_cons.mpr ⟨lw_p74, List.forall_mem_cons.mpr ⟨lw_p75, List.forall_mem_cons.mpr ⟨lw_p76, List.forall_mem_cons.mpr ⟨lw_p77, List.forall_mem_cons.mpr ⟨lw_p78, List.forall_mem_cons.mpr ⟨lw_p79, fun _ h => absurd h List.not_mem_nil⟩⟩⟩⟩⟩⟩⟩⟩⟩⟩⟩⟩⟩⟩⟩⟩
theorem lw_p80 : lw_okq (⟨"StreamForgeModel", "star", "()V"⟩, 77) := ⟨⟨by decide +kernel, by decide +kernel⟩, List.mem_of_getElem? (i := 1053) (by decide +kernel), List.mem_of_getElem? (i := 1375) (by decide +kernel), List.mem_of_getElem? (i := 1376) (by decide +kernel)⟩
theorem lw_p81 : lw_okq (⟨"StreamForgeModel", "blanks", "()V"⟩, 77) := ⟨⟨by decide +kernel, by decide +kernel⟩, List.mem_of_getElem? (i := 1053) (by decide +kernel), List.mem_of_getElem? (i := 1379) (by decide +kernel), List.mem_of_getElem? (i := 1380) (by decide +kernel)⟩
theorem lw_p82 : lw_okq (⟨"StreamForgeModel", "label", "(IZ)V"⟩, 77) := ⟨⟨by decide +kernel, by decide +kernel⟩, List.mem_of_getElem? (i := 1053) (by decide +kernel), List.mem_of_getElem? (i := 1383) (by decide +kernel), List.mem_of_getElem? (i := 1384) (by decide +kernel)⟩
theorem lw_p83 : lw_okq (⟨"StreamForgeModel", "closed", "()V"⟩, 77) := ⟨⟨by decide +kernel, by decide +kernel⟩, List.mem_of_getElem? (i := 1053) (by decide +kernel), List.mem_of_getElem? (i := 1387) (by decide +kernel), List.mem_of_getElem? (i := 1388) (by decide +kernel)⟩
theorem lw_p84 : lw_okq (⟨"StreamForgeModel", "branch", "(I)V"⟩, 77) := ⟨⟨by decide +kernel, by decide +kernel⟩, List.mem_of_getElem? (i := 1053) (by decide +kernel), List.mem_of_getElem? (i := 1391) (by decide +kernel), List.mem_of_getElem? (i := 1392) (by decide +kernel)⟩
theorem lw_p85 : lw_okq (⟨"StreamForgeModel", "substitute", "(I)V"⟩, 77) := ⟨⟨by decide +kernel, by decide +kernel⟩, List.mem_of_getElem? (i := 1053) (by decide +kernel), List.mem_of_getElem? (i := 1395) (by decide +kernel), List.mem_of_getElem? (i := 1396) (by decide +kernel)⟩
theorem lw_p86 : lw_okq (⟨"StreamForgeModel", "expect", "(I)V"⟩, 77) := ⟨⟨by decide +kernel, by decide +kernel⟩, List.mem_of_getElem? (i := 1053) (by decide +kernel), List.mem_of_getElem? (i := 1399) (by decide +kernel), List.mem_of_getElem? (i := 1400) (by decide +kernel)⟩
theorem lw_p87 : lw_okq (⟨"StreamForgeModel", "replacement", "(I)V"⟩, 77) := ⟨⟨by decide +kernel, by decide +kernel⟩, List.mem_of_getElem? (i := 1053) (by decide +kernel), List.mem_of_getElem? (i := 1403) (by decide +kernel), List.mem_of_getElem? (i := 1404) (by decide +kernel)⟩
theorem lw_p88 : lw_okq (⟨"StreamForgeModel", "stored", "()I"⟩, 77) := ⟨⟨by decide +kernel, by decide +kernel⟩, List.mem_of_getElem? (i := 1053) (by decide +kernel), List.mem_of_getElem? (i := 1407) (by decide +kernel), List.mem_of_getElem? (i := 1408) (by decide +kernel)⟩
theorem lw_p89 : lw_okq (⟨"StreamForgeModel", "keep", "(I)V"⟩, 77) := ⟨⟨by decide +kernel, by decide +kernel⟩, List.mem_of_getElem? (i := 1053) (by decide +kernel), List.mem_of_getElem? (i := 1411) (by decide +kernel), List.mem_of_getElem? (i := 1412) (by decide +kernel)⟩
theorem lw_p90 : lw_okq (⟨"StreamForgeModel", "exchange", "(I)V"⟩, 77) := ⟨⟨by decide +kernel, by decide +kernel⟩, List.mem_of_getElem? (i := 1053) (by decide +kernel), List.mem_of_getElem? (i := 1415) (by decide +kernel), List.mem_of_getElem? (i := 1416) (by decide +kernel)⟩
theorem lw_p91 : lw_okq (⟨"StreamForgeModel", "readText", "(I)V"⟩, 77) := ⟨⟨by decide +kernel, by decide +kernel⟩, List.mem_of_getElem? (i := 1053) (by decide +kernel), List.mem_of_getElem? (i := 1419) (by decide +kernel), List.mem_of_getElem? (i := 1420) (by decide +kernel)⟩
theorem lw_p92 : lw_okq (⟨"StreamForgeModel", "goals", "()V"⟩, 77) := ⟨⟨by decide +kernel, by decide +kernel⟩, List.mem_of_getElem? (i := 1053) (by decide +kernel), List.mem_of_getElem? (i := 1426) (by decide +kernel), List.mem_of_getElem? (i := 1427) (by decide +kernel)⟩
theorem lw_p93 : lw_okq (⟨"StreamForgeModel", "takeLine", "(I)V"⟩, 77) := ⟨⟨by decide +kernel, by decide +kernel⟩, List.mem_of_getElem? (i := 1053) (by decide +kernel), List.mem_of_getElem? (i := 1438) (by decide +kernel), List.mem_of_getElem? (i := 1439) (by decide +kernel)⟩
theorem lw_p94 : lw_okq (⟨"StreamForgeModel", "find", "(II)Z"⟩, 77) := ⟨⟨by decide +kernel, by decide +kernel⟩, List.mem_of_getElem? (i := 1053) (by decide +kernel), List.mem_of_getElem? (i := 1442) (by decide +kernel), List.mem_of_getElem? (i := 1443) (by decide +kernel)⟩
theorem lw_p95 : lw_okq (⟨"StreamForgeModel", "starsOf", "(I)I"⟩, 77) := ⟨⟨by decide +kernel, by decide +kernel⟩, List.mem_of_getElem? (i := 1053) (by decide +kernel), List.mem_of_getElem? (i := 1446) (by decide +kernel), List.mem_of_getElem? (i := 1447) (by decide +kernel)⟩
def lw_privs_6 : List (MethodName × Nat) := [(⟨"StreamForgeModel", "star", "()V"⟩, 77), (⟨"StreamForgeModel", "blanks", "()V"⟩, 77), (⟨"StreamForgeModel", "label", "(IZ)V"⟩, 77), (⟨"StreamForgeModel", "closed", "()V"⟩, 77), (⟨"StreamForgeModel", "branch", "(I)V"⟩, 77), (⟨"StreamForgeModel", "substitute", "(I)V"⟩, 77), (⟨"StreamForgeModel", "expect", "(I)V"⟩, 77), (⟨"StreamForgeModel", "replacement", "(I)V"⟩, 77), (⟨"StreamForgeModel", "stored", "()I"⟩, 77), (⟨"StreamForgeModel", "keep", "(I)V"⟩, 77), (⟨"StreamForgeModel", "exchange", "(I)V"⟩, 77), (⟨"StreamForgeModel", "readText", "(I)V"⟩, 77), (⟨"StreamForgeModel", "goals", "()V"⟩, 77), (⟨"StreamForgeModel", "takeLine", "(I)V"⟩, 77), (⟨"StreamForgeModel", "find", "(II)Z"⟩, 77), (⟨"StreamForgeModel", "starsOf", "(I)I"⟩, 77)]
theorem lw_r6 : ∀ q ∈ lw_privs_6, lw_okq q := List.forall_mem_cons.mpr ⟨lw_p80, List.forall_mem_cons.mpr ⟨lw_p81, List.forall_mem_cons.mpr ⟨lw_p82, List.forall_mem_cons.mpr ⟨lw_p83, List.forall_mem_cons.mpr ⟨lw_p84, List.forall_mem_cons.mpr ⟨lw_p85, List.forall_mem_cons.mpr ⟨lw_p86, List.forall_mem_cons.mpr ⟨lw_p87, List.forall_mem_cons.mpr ⟨lw_p88, List.forall_mem_cons.mpr ⟨lw_p89, List.forall_mem_cons.mpr ⟨lw_p90, List.forall_mem_cons.mpr ⟨lw_p91, List.forall_mem_cons.mpr ⟨lw_p92, List.forall_mem_cons.mpr ⟨lw_p93, List.forall_mem_cons.mpr ⟨lw_p94, List.forall_mem_cons.mpr ⟨lw_p95, fun _ h => absurd h List.not_mem_nil⟩⟩⟩⟩⟩⟩⟩⟩⟩⟩⟩⟩⟩⟩⟩⟩
theorem lw_p96 : lw_okq (⟨"StreamForgeModel", "way", "(IIII)I"⟩, 77) := ⟨⟨by decide +kernel, by decide +kernel⟩, List.mem_of_getElem? (i := 1053) (by decide +kernel), List.mem_of_getElem? (i := 1450) (by decide +kernel), List.mem_of_getElem? (i := 1451) (by decide +kernel)⟩
theorem lw_p97 : lw_okq (⟨"StreamForgeModel", "fits", "(II)Z"⟩, 77) := ⟨⟨by decide +kernel, by decide +kernel⟩, List.mem_of_getElem? (i := 1053) (by decide +kernel), List.mem_of_getElem? (i := 1454) (by decide +kernel), List.mem_of_getElem? (i := 1455) (by decide +kernel)⟩
theorem lw_p98 : lw_okq (⟨"StreamForgeModel", "readLine", "()V"⟩, 77) := ⟨⟨by decide +kernel, by decide +kernel⟩, List.mem_of_getElem? (i := 1053) (by decide +kernel), List.mem_of_getElem? (i := 1462) (by decide +kernel), List.mem_of_getElem? (i := 1463) (by decide +kernel)⟩
theorem lw_p99 : lw_okq (⟨"StreamForgeModel", "endCycle", "(Z)I"⟩, 77) := ⟨⟨by decide +kernel, by decide +kernel⟩, List.mem_of_getElem? (i := 1053) (by decide +kernel), List.mem_of_getElem? (i := 1466) (by decide +kernel), List.mem_of_getElem? (i := 1467) (by decide +kernel)⟩
theorem lw_p100 : lw_okq (⟨"StreamForgeModel", "tellSpace", "(Z)Z"⟩, 77) := ⟨⟨by decide +kernel, by decide +kernel⟩, List.mem_of_getElem? (i := 1053) (by decide +kernel), List.mem_of_getElem? (i := 1470) (by decide +kernel), List.mem_of_getElem? (i := 1471) (by decide +kernel)⟩
theorem lw_p101 : lw_okq (⟨"StreamForgeModel", "tell", "()Z"⟩, 77) := ⟨⟨by decide +kernel, by decide +kernel⟩, List.mem_of_getElem? (i := 1053) (by decide +kernel), List.mem_of_getElem? (i := 1474) (by decide +kernel), List.mem_of_getElem? (i := 1475) (by decide +kernel)⟩
theorem lw_p102 : lw_okq (⟨"StreamForgeModel", "full", "()Z"⟩, 77) := ⟨⟨by decide +kernel, by decide +kernel⟩, List.mem_of_getElem? (i := 1053) (by decide +kernel), List.mem_of_getElem? (i := 1478) (by decide +kernel), List.mem_of_getElem? (i := 1479) (by decide +kernel)⟩
theorem lw_p103 : lw_okq (⟨"StreamForgeModel", "tellAppended", "()Z"⟩, 77) := ⟨⟨by decide +kernel, by decide +kernel⟩, List.mem_of_getElem? (i := 1053) (by decide +kernel), List.mem_of_getElem? (i := 1482) (by decide +kernel), List.mem_of_getElem? (i := 1483) (by decide +kernel)⟩
theorem lw_p104 : lw_okq (⟨"StreamForgeModel", "isDone", "(I)Z"⟩, 77) := ⟨⟨by decide +kernel, by decide +kernel⟩, List.mem_of_getElem? (i := 1053) (by decide +kernel), List.mem_of_getElem? (i := 1486) (by decide +kernel), List.mem_of_getElem? (i := 1487) (by decide +kernel)⟩
theorem lw_p105 : lw_okq (⟨"StreamForgeModel", "fitsAddress", "(II)Z"⟩, 77) := ⟨⟨by decide +kernel, by decide +kernel⟩, List.mem_of_getElem? (i := 1053) (by decide +kernel), List.mem_of_getElem? (i := 1490) (by decide +kernel), List.mem_of_getElem? (i := 1491) (by decide +kernel)⟩
theorem lw_p106 : lw_okq (⟨"StreamForgeModel", "takeSpace", "()V"⟩, 77) := ⟨⟨by decide +kernel, by decide +kernel⟩, List.mem_of_getElem? (i := 1053) (by decide +kernel), List.mem_of_getElem? (i := 1494) (by decide +kernel), List.mem_of_getElem? (i := 1495) (by decide +kernel)⟩
theorem lw_p107 : lw_okq (⟨"StreamForgeModel", "perform", "(II)I"⟩, 77) := ⟨⟨by decide +kernel, by decide +kernel⟩, List.mem_of_getElem? (i := 1053) (by decide +kernel), List.mem_of_getElem? (i := 1498) (by decide +kernel), List.mem_of_getElem? (i := 1499) (by decide +kernel)⟩
theorem lw_p108 : lw_okq (⟨"StreamForgeModel", "substituted", "(I)Z"⟩, 77) := ⟨⟨by decide +kernel, by decide +kernel⟩, List.mem_of_getElem? (i := 1053) (by decide +kernel), List.mem_of_getElem? (i := 1502) (by decide +kernel), List.mem_of_getElem? (i := 1503) (by decide +kernel)⟩
theorem lw_p109 : lw_okq (⟨"StreamForgeModel", "copyOf", "(II)V"⟩, 77) := ⟨⟨by decide +kernel, by decide +kernel⟩, List.mem_of_getElem? (i := 1053) (by decide +kernel), List.mem_of_getElem? (i := 1506) (by decide +kernel), List.mem_of_getElem? (i := 1507) (by decide +kernel)⟩
theorem lw_p110 : lw_okq (⟨"StreamForgeModel", "add", "(I)V"⟩, 77) := ⟨⟨by decide +kernel, by decide +kernel⟩, List.mem_of_getElem? (i := 1053) (by decide +kernel), List.mem_of_getElem? (i := 1510) (by decide +kernel), List.mem_of_getElem? (i := 1511) (by decide +kernel)⟩
theorem lw_p111 : lw_okq (⟨"StreamForgeModel", "addReplacement", "(I)V"⟩, 77) := ⟨⟨by decide +kernel, by decide +kernel⟩, List.mem_of_getElem? (i := 1053) (by decide +kernel), List.mem_of_getElem? (i := 1514) (by decide +kernel), List.mem_of_getElem? (i := 1515) (by decide +kernel)⟩
def lw_privs_7 : List (MethodName × Nat) := [(⟨"StreamForgeModel", "way", "(IIII)I"⟩, 77), (⟨"StreamForgeModel", "fits", "(II)Z"⟩, 77), (⟨"StreamForgeModel", "readLine", "()V"⟩, 77), (⟨"StreamForgeModel", "endCycle", "(Z)I"⟩, 77), (⟨"StreamForgeModel", "tellSpace", "(Z)Z"⟩, 77), (⟨"StreamForgeModel", "tell", "()Z"⟩, 77), (⟨"StreamForgeModel", "full", "()Z"⟩, 77), (⟨"StreamForgeModel", "tellAppended", "()Z"⟩, 77), (⟨"StreamForgeModel", "isDone", "(I)Z"⟩, 77), (⟨"StreamForgeModel", "fitsAddress", "(II)Z"⟩, 77), (⟨"StreamForgeModel", "takeSpace", "()V"⟩, 77), (⟨"StreamForgeModel", "perform", "(II)I"⟩, 77), (⟨"StreamForgeModel", "substituted", "(I)Z"⟩, 77), (⟨"StreamForgeModel", "copyOf", "(II)V"⟩, 77), (⟨"StreamForgeModel", "add", "(I)V"⟩, 77), (⟨"StreamForgeModel", "addReplacement", "(I)V"⟩, 77)]
theorem lw_r7 : ∀ q ∈ lw_privs_7, lw_okq q := List.forall_mem_cons.mpr ⟨lw_p96, List.forall_mem_cons.mpr ⟨lw_p97, List.forall_mem_cons.mpr ⟨lw_p98, List.forall_mem_cons.mpr ⟨lw_p99, List.forall_mem_cons.mpr ⟨lw_p100, List.forall_mem_cons.mpr ⟨lw_p101, List.forall_mem_cons.mpr ⟨lw_p102, List.forall_mem_cons.mpr ⟨lw_p103, List.forall_mem_cons.mpr ⟨lw_p104, List.forall_mem_cons.mpr ⟨lw_p105, List.forall_mem_cons.mpr ⟨lw_p106, List.forall_mem_cons.mpr ⟨lw_p107, List.forall_mem_cons.mpr ⟨lw_p108, List.forall_mem_cons.mpr ⟨lw_p109, List.forall_mem_cons.mpr ⟨lw_p110, List.forall_mem_cons.mpr ⟨lw_p111, fun _ h => absurd h List.not_mem_nil⟩⟩⟩⟩⟩⟩⟩⟩⟩⟩⟩⟩⟩⟩⟩⟩
theorem lw_p112 : lw_okq (⟨"StreamForgeModel", "exchanged", "(I)V"⟩, 77) := ⟨⟨by decide +kernel, by decide +kernel⟩, List.mem_of_getElem? (i := 1053) (by decide +kernel), List.mem_of_getElem? (i := 1518) (by decide +kernel), List.mem_of_getElem? (i := 1519) (by decide +kernel)⟩
theorem lw_p113 : lw_okq (⟨"StreamForgeModel", "append", "(I)Z"⟩, 77) := ⟨⟨by decide +kernel, by decide +kernel⟩, List.mem_of_getElem? (i := 1053) (by decide +kernel), List.mem_of_getElem? (i := 1522) (by decide +kernel), List.mem_of_getElem? (i := 1523) (by decide +kernel)⟩
theorem lw_p114 : lw_okq (⟨"StreamForgeModel", "tellText", "(I)Z"⟩, 77) := ⟨⟨by decide +kernel, by decide +kernel⟩, List.mem_of_getElem? (i := 1053) (by decide +kernel), List.mem_of_getElem? (i := 1526) (by decide +kernel), List.mem_of_getElem? (i := 1527) (by decide +kernel)⟩
theorem lw_p115 : lw_okq (⟨"StreamForgeModel", "cut", "()I"⟩, 77) := ⟨⟨by decide +kernel, by decide +kernel⟩, List.mem_of_getElem? (i := 1053) (by decide +kernel), List.mem_of_getElem? (i := 1530) (by decide +kernel), List.mem_of_getElem? (i := 1531) (by decide +kernel)⟩
theorem lw_p116 : lw_okq (⟨"StreamForgeModel", "nextLine", "(II)I"⟩, 77) := ⟨⟨by decide +kernel, by decide +kernel⟩, List.mem_of_getElem? (i := 1053) (by decide +kernel), List.mem_of_getElem? (i := 1534) (by decide +kernel), List.mem_of_getElem? (i := 1535) (by decide +kernel)⟩
theorem lw_p117 : lw_okq (⟨"StreamForgeModel", "tellNumber", "()Z"⟩, 77) := ⟨⟨by decide +kernel, by decide +kernel⟩, List.mem_of_getElem? (i := 1053) (by decide +kernel), List.mem_of_getElem? (i := 1538) (by decide +kernel), List.mem_of_getElem? (i := 1539) (by decide +kernel)⟩
theorem lw_p118 : lw_okq (⟨"StreamForgeModel", "holds", "(I)Z"⟩, 77) := ⟨⟨by decide +kernel, by decide +kernel⟩, List.mem_of_getElem? (i := 1053) (by decide +kernel), List.mem_of_getElem? (i := 1542) (by decide +kernel), List.mem_of_getElem? (i := 1543) (by decide +kernel)⟩
def lw_privs_8 : List (MethodName × Nat) := [(⟨"StreamForgeModel", "exchanged", "(I)V"⟩, 77), (⟨"StreamForgeModel", "append", "(I)Z"⟩, 77), (⟨"StreamForgeModel", "tellText", "(I)Z"⟩, 77), (⟨"StreamForgeModel", "cut", "()I"⟩, 77), (⟨"StreamForgeModel", "nextLine", "(II)I"⟩, 77), (⟨"StreamForgeModel", "tellNumber", "()Z"⟩, 77), (⟨"StreamForgeModel", "holds", "(I)Z"⟩, 77)]
theorem lw_r8 : ∀ q ∈ lw_privs_8, lw_okq q := List.forall_mem_cons.mpr ⟨lw_p112, List.forall_mem_cons.mpr ⟨lw_p113, List.forall_mem_cons.mpr ⟨lw_p114, List.forall_mem_cons.mpr ⟨lw_p115, List.forall_mem_cons.mpr ⟨lw_p116, List.forall_mem_cons.mpr ⟨lw_p117, List.forall_mem_cons.mpr ⟨lw_p118, fun _ h => absurd h List.not_mem_nil⟩⟩⟩⟩⟩⟩⟩
def lw_privs : List (MethodName × Nat) := lw_privs_1 ++ (lw_privs_2 ++ (lw_privs_3 ++ (lw_privs_4 ++ (lw_privs_5 ++ (lw_privs_6 ++ (lw_privs_7 ++ (lw_privs_8)))))))
def lw_tbl : List Cond := k2_sels lw_privs ++ tables_1
theorem lw_privs_ok : ∀ q ∈ lw_privs, lw_okq q := by
  show ∀ q ∈ lw_privs_1 ++ (lw_privs_2 ++ (lw_privs_3 ++ (lw_privs_4 ++ (lw_privs_5 ++ (lw_privs_6 ++ (lw_privs_7 ++ (lw_privs_8))))))), lw_okq q
  exact List.forall_mem_append.mpr ⟨lw_r1, List.forall_mem_append.mpr ⟨lw_r2, List.forall_mem_append.mpr ⟨lw_r3, List.forall_mem_append.mpr ⟨lw_r4, List.forall_mem_append.mpr ⟨lw_r5, List.forall_mem_append.mpr ⟨lw_r6, List.forall_mem_append.mpr ⟨lw_r7, lw_r8⟩⟩⟩⟩⟩⟩⟩
-- ===== end of PART A; then your names; then what follows =====
end
section
def zT : List Cond := lw_tbl.filter goodWord
theorem z_m {w : Cond} (i : Nat) (h : lw_tbl[i]? = some w) (g : goodWord w = true) : w ∈ zT := List.mem_filter.mpr ⟨List.mem_of_getElem? h, g⟩
theorem z_ms {ws : List Cond} (ps : List Nat) (hp : ws = ps.filterMap (fun i => lw_tbl[i]?)) (hg : ws.all goodWord = true) : ∀ w ∈ ws, w ∈ zT := by
  intro w hw
  have h1 := List.all_eq_true.mp hg w hw
  rw [hp] at hw
  obtain ⟨i, -, hi⟩ := List.mem_filterMap.mp hw
  exact z_m i hi h1
theorem z_good {w : Cond} (h : w ∈ zT) : (w.onTables && w.keeps) = true ∨ ∃ ty, w = .arrayClass ty := good_of_word (List.mem_filter.mp h).2
theorem z_zin {w : Cond} (h : w ∈ zT) : w ∈ lw_tbl := (List.mem_filter.mp h).1
def R_Addr : String := "StreamForge$Address"
def T_Addr : u_T := fun k => match k with
  | 0 => ("StreamForge$Address", "pattern", "LStreamForge$Pattern;", true)
  | 1 => ("StreamForge$Address", "kind", "I", false)
  | _ => ("StreamForge$Address", "number", "I", false)
def t_Addr : Nat → FieldType := fun k => match k with
  | 0 => .object "StreamForge$Pattern"
  | 1 => .int
  | _ => .int
theorem n_Addr : ∀ a, a < 3 → ∀ b, b < 3 → a ≠ b → (T_Addr a).2.1 ≠ (T_Addr b).2.1 := by decide +kernel
theorem t_Addr_ok : ∀ k, k < 3 → parseFieldDescriptor (T_Addr k).2.2.1 = some (t_Addr k) := by decide +kernel
theorem i_Addr : ∀ w ∈ u_ws R_Addr T_Addr 3, w ∈ zT := z_ms [445, 447, 449] (by decide +kernel) (by decide +kernel)
def R_Cmd : String := "StreamForge$Command"
def T_Cmd : u_T := fun k => match k with
  | 0 => ("StreamForge$Command", "first", "LStreamForge$Address;", true)
  | 1 => ("StreamForge$Command", "second", "LStreamForge$Address;", true)
  | 2 => ("StreamForge$Command", "pattern", "LStreamForge$Pattern;", true)
  | 3 => ("StreamForge$Command", "kind", "I", false)
  | 4 => ("StreamForge$Command", "at", "I", false)
  | 5 => ("StreamForge$Command", "addresses", "I", false)
  | 6 => ("StreamForge$Command", "inverted", "Z", false)
  | 7 => ("StreamForge$Command", "target", "I", false)
  | 8 => ("StreamForge$Command", "label", "I", false)
  | 9 => ("StreamForge$Command", "textFrom", "I", false)
  | 10 => ("StreamForge$Command", "textTo", "I", false)
  | 11 => ("StreamForge$Command", "counterpart", "I", false)
  | 12 => ("StreamForge$Command", "all", "Z", false)
  | 13 => ("StreamForge$Command", "print", "Z", false)
  | 14 => ("StreamForge$Command", "digit", "I", false)
  | _ => ("StreamForge$Command", "inRange", "Z", false)
def t_Cmd : Nat → FieldType := fun k => match k with
  | 0 => .object "StreamForge$Address"
  | 1 => .object "StreamForge$Address"
  | 2 => .object "StreamForge$Pattern"
  | 3 => .int
  | 4 => .int
  | 5 => .int
  | 6 => .boolean
  | 7 => .int
  | 8 => .int
  | 9 => .int
  | 10 => .int
  | 11 => .int
  | 12 => .boolean
  | 13 => .boolean
  | 14 => .int
  | _ => .boolean
theorem n_Cmd : ∀ a, a < 16 → ∀ b, b < 16 → a ≠ b → (T_Cmd a).2.1 ≠ (T_Cmd b).2.1 := by decide +kernel
theorem t_Cmd_ok : ∀ k, k < 16 → parseFieldDescriptor (T_Cmd k).2.2.1 = some (t_Cmd k) := by decide +kernel
theorem i_Cmd : ∀ w ∈ u_ws R_Cmd T_Cmd 16, w ∈ zT := z_ms [493, 495, 497, 499, 501, 503, 505, 507, 509, 511, 513, 515, 517, 519, 521, 523] (by decide +kernel) (by decide +kernel)
def R_Cur : String := "StreamForge$Cursor"
def T_Cur : u_T := fun k => match k with
  | 0 => ("StreamForge$Cursor", "text", "LStreamForge$Row;", false)
  | 1 => ("StreamForge$Cursor", "at", "I", false)
  | _ => ("StreamForge$Cursor", "refusedAt", "I", false)
def t_Cur : Nat → FieldType := fun k => match k with
  | 0 => .object "StreamForge$Row"
  | 1 => .int
  | _ => .int
theorem n_Cur : ∀ a, a < 3 → ∀ b, b < 3 → a ≠ b → (T_Cur a).2.1 ≠ (T_Cur b).2.1 := by decide +kernel
theorem t_Cur_ok : ∀ k, k < 3 → parseFieldDescriptor (T_Cur k).2.2.1 = some (t_Cur k) := by decide +kernel
theorem i_Cur : ∀ w ∈ u_ws R_Cur T_Cur 3, w ∈ zT := z_ms [191, 193, 195] (by decide +kernel) (by decide +kernel)
def R_Ed : String := "StreamForge$Editor"
def T_Ed : u_T := fun k => match k with
  | 0 => ("StreamForge$Editor", "output", "LStreamForge$Row;", true)
  | 1 => ("StreamForge$Editor", "space", "LStreamForge$Row;", false)
  | 2 => ("StreamForge$Editor", "hold", "LStreamForge$Row;", false)
  | 3 => ("StreamForge$Editor", "linesRead", "I", false)
  | 4 => ("StreamForge$Editor", "begun", "I", false)
  | 5 => ("StreamForge$Editor", "cycles", "I", false)
  | 6 => ("StreamForge$Editor", "replacements", "I", false)
  | 7 => ("StreamForge$Editor", "appended", "LStreamForge$Row;", true)
  | 8 => ("StreamForge$Editor", "matcher", "LStreamForge$Matcher;", true)
  | 9 => ("StreamForge$Editor", "draft", "LStreamForge$Row;", false)
  | 10 => ("StreamForge$Editor", "program", "LStreamForge$Program;", false)
  | 11 => ("StreamForge$Editor", "lines", "[LStreamForge$Row;", false)
  | 12 => ("StreamForge$Editor", "lineCount", "I", false)
  | 13 => ("StreamForge$Editor", "next", "I", false)
  | 14 => ("StreamForge$Editor", "over", "Z", false)
  | 15 => ("StreamForge$Editor", "replaced", "Z", false)
  | _ => ("StreamForge$Editor", "rangeEnds", "Z", false)
def t_Ed : Nat → FieldType := fun k => match k with
  | 0 => .object "StreamForge$Row"
  | 1 => .object "StreamForge$Row"
  | 2 => .object "StreamForge$Row"
  | 3 => .int
  | 4 => .int
  | 5 => .int
  | 6 => .int
  | 7 => .object "StreamForge$Row"
  | 8 => .object "StreamForge$Matcher"
  | 9 => .object "StreamForge$Row"
  | 10 => .object "StreamForge$Program"
  | 11 => .array (.object "StreamForge$Row")
  | 12 => .int
  | 13 => .int
  | 14 => .boolean
  | 15 => .boolean
  | _ => .boolean
theorem n_Ed : ∀ a, a < 17 → ∀ b, b < 17 → a ≠ b → (T_Ed a).2.1 ≠ (T_Ed b).2.1 := by decide +kernel
theorem t_Ed_ok : ∀ k, k < 17 → parseFieldDescriptor (T_Ed k).2.2.1 = some (t_Ed k) := by decide +kernel
theorem i_Ed : ∀ w ∈ u_ws R_Ed T_Ed 17, w ∈ zT := z_ms [317, 319, 321, 323, 325, 327, 329, 331, 333, 335, 337, 339, 341, 343, 345, 347, 349] (by decide +kernel) (by decide +kernel)
def R_It : String := "StreamForge$Items"
def T_It : u_T := fun k => match k with
  | 0 => ("StreamForge$Items", "kind", "[I", true)
  | 1 => ("StreamForge$Items", "group", "[I", true)
  | 2 => ("StreamForge$Items", "low", "[J", true)
  | 3 => ("StreamForge$Items", "high", "[J", true)
  | _ => ("StreamForge$Items", "size", "I", false)
def t_It : Nat → FieldType := fun k => match k with
  | 0 => .array (.int)
  | 1 => .array (.int)
  | 2 => .array (.long)
  | 3 => .array (.long)
  | _ => .int
theorem n_It : ∀ a, a < 5 → ∀ b, b < 5 → a ≠ b → (T_It a).2.1 ≠ (T_It b).2.1 := by decide +kernel
theorem t_It_ok : ∀ k, k < 5 → parseFieldDescriptor (T_It k).2.2.1 = some (t_It k) := by decide +kernel
theorem i_It : ∀ w ∈ u_ws R_It T_It 5, w ∈ zT := z_ms [377, 379, 381, 383, 385] (by decide +kernel) (by decide +kernel)
def R_Ma : String := "StreamForge$Matcher"
def T_Ma : u_T := fun k => match k with
  | 0 => ("StreamForge$Matcher", "begin", "I", false)
  | 1 => ("StreamForge$Matcher", "end", "I", false)
  | 2 => ("StreamForge$Matcher", "items", "LStreamForge$Items;", false)
  | 3 => ("StreamForge$Matcher", "pattern", "LStreamForge$Pattern;", false)
  | 4 => ("StreamForge$Matcher", "text", "LStreamForge$Row;", false)
  | 5 => ("StreamForge$Matcher", "groupBegin", "[I", true)
  | 6 => ("StreamForge$Matcher", "groupEnd", "[I", true)
  | 7 => ("StreamForge$Matcher", "triedBegin", "[I", true)
  | _ => ("StreamForge$Matcher", "triedEnd", "[I", true)
def t_Ma : Nat → FieldType := fun k => match k with
  | 0 => .int
  | 1 => .int
  | 2 => .object "StreamForge$Items"
  | 3 => .object "StreamForge$Pattern"
  | 4 => .object "StreamForge$Row"
  | 5 => .array (.int)
  | 6 => .array (.int)
  | 7 => .array (.int)
  | _ => .array (.int)
theorem n_Ma : ∀ a, a < 9 → ∀ b, b < 9 → a ≠ b → (T_Ma a).2.1 ≠ (T_Ma b).2.1 := by decide +kernel
theorem t_Ma_ok : ∀ k, k < 9 → parseFieldDescriptor (T_Ma k).2.2.1 = some (t_Ma k) := by decide +kernel
theorem i_Ma : ∀ w ∈ u_ws R_Ma T_Ma 9, w ∈ zT := z_ms [274, 276, 278, 280, 282, 284, 286, 288, 290] (by decide +kernel) (by decide +kernel)
def R_Pa : String := "StreamForge$Parser"
def T_Pa : u_T := fun k => match k with
  | 0 => ("StreamForge$Parser", "cursor", "LStreamForge$Cursor;", true)
  | 1 => ("StreamForge$Parser", "patterns", "LStreamForge$PatternReader;", true)
  | 2 => ("StreamForge$Parser", "openBlocks", "[I", true)
  | 3 => ("StreamForge$Parser", "behindLabel", "[I", true)
  | 4 => ("StreamForge$Parser", "depth", "I", false)
  | 5 => ("StreamForge$Parser", "program", "LStreamForge$Program;", false)
  | _ => ("StreamForge$Parser", "command", "LStreamForge$Command;", false)
def t_Pa : Nat → FieldType := fun k => match k with
  | 0 => .object "StreamForge$Cursor"
  | 1 => .object "StreamForge$PatternReader"
  | 2 => .array (.int)
  | 3 => .array (.int)
  | 4 => .int
  | 5 => .object "StreamForge$Program"
  | _ => .object "StreamForge$Command"
theorem n_Pa : ∀ a, a < 7 → ∀ b, b < 7 → a ≠ b → (T_Pa a).2.1 ≠ (T_Pa b).2.1 := by decide +kernel
theorem t_Pa_ok : ∀ k, k < 7 → parseFieldDescriptor (T_Pa k).2.2.1 = some (t_Pa k) := by decide +kernel
theorem i_Pa : ∀ w ∈ u_ws R_Pa T_Pa 7, w ∈ zT := z_ms [233, 235, 237, 239, 241, 243, 245] (by decide +kernel) (by decide +kernel)
def R_Pt : String := "StreamForge$Pattern"
def T_Pt : u_T := fun k => match k with
  | 0 => ("StreamForge$Pattern", "atBeginning", "Z", false)
  | 1 => ("StreamForge$Pattern", "atEnd", "Z", false)
  | 2 => ("StreamForge$Pattern", "from", "I", false)
  | 3 => ("StreamForge$Pattern", "to", "I", false)
  | 4 => ("StreamForge$Pattern", "firstStar", "I", false)
  | 5 => ("StreamForge$Pattern", "secondStar", "I", false)
  | _ => ("StreamForge$Pattern", "groups", "I", false)
def t_Pt : Nat → FieldType := fun k => match k with
  | 0 => .boolean
  | 1 => .boolean
  | 2 => .int
  | 3 => .int
  | 4 => .int
  | 5 => .int
  | _ => .int
theorem n_Pt : ∀ a, a < 7 → ∀ b, b < 7 → a ≠ b → (T_Pt a).2.1 ≠ (T_Pt b).2.1 := by decide +kernel
theorem t_Pt_ok : ∀ k, k < 7 → parseFieldDescriptor (T_Pt k).2.2.1 = some (t_Pt k) := by decide +kernel
theorem i_Pt : ∀ w ∈ u_ws R_Pt T_Pt 7, w ∈ zT := z_ms [423, 425, 427, 429, 431, 433, 435] (by decide +kernel) (by decide +kernel)
def R_Pr : String := "StreamForge$PatternReader"
def T_Pr : u_T := fun k => match k with
  | 0 => ("StreamForge$PatternReader", "cursor", "LStreamForge$Cursor;", true)
  | 1 => ("StreamForge$PatternReader", "items", "LStreamForge$Items;", false)
  | 2 => ("StreamForge$PatternReader", "pattern", "LStreamForge$Pattern;", false)
  | 3 => ("StreamForge$PatternReader", "itemCount", "I", false)
  | 4 => ("StreamForge$PatternReader", "starCount", "I", false)
  | 5 => ("StreamForge$PatternReader", "groupOpen", "Z", false)
  | _ => ("StreamForge$PatternReader", "repeatable", "Z", false)
def t_Pr : Nat → FieldType := fun k => match k with
  | 0 => .object "StreamForge$Cursor"
  | 1 => .object "StreamForge$Items"
  | 2 => .object "StreamForge$Pattern"
  | 3 => .int
  | 4 => .int
  | 5 => .boolean
  | _ => .boolean
theorem n_Pr : ∀ a, a < 7 → ∀ b, b < 7 → a ≠ b → (T_Pr a).2.1 ≠ (T_Pr b).2.1 := by decide +kernel
theorem t_Pr_ok : ∀ k, k < 7 → parseFieldDescriptor (T_Pr k).2.2.1 = some (t_Pr k) := by decide +kernel
theorem i_Pr : ∀ w ∈ u_ws R_Pr T_Pr 7, w ∈ zT := z_ms [211, 213, 215, 217, 219, 221, 223] (by decide +kernel) (by decide +kernel)
def R_Prog : String := "StreamForge$Program"
def T_Prog : u_T := fun k => match k with
  | 0 => ("StreamForge$Program", "text", "LStreamForge$Row;", true)
  | 1 => ("StreamForge$Program", "items", "LStreamForge$Items;", true)
  | 2 => ("StreamForge$Program", "commands", "[LStreamForge$Command;", true)
  | _ => ("StreamForge$Program", "size", "I", false)
def t_Prog : Nat → FieldType := fun k => match k with
  | 0 => .object "StreamForge$Row"
  | 1 => .object "StreamForge$Items"
  | 2 => .array (.object "StreamForge$Command")
  | _ => .int
theorem n_Prog : ∀ a, a < 4 → ∀ b, b < 4 → a ≠ b → (T_Prog a).2.1 ≠ (T_Prog b).2.1 := by decide +kernel
theorem t_Prog_ok : ∀ k, k < 4 → parseFieldDescriptor (T_Prog k).2.2.1 = some (t_Prog k) := by decide +kernel
theorem i_Prog : ∀ w ∈ u_ws R_Prog T_Prog 4, w ∈ zT := z_ms [540, 542, 544, 546] (by decide +kernel) (by decide +kernel)
def R_Row : String := "StreamForge$Row"
def T_Row : u_T := fun k => match k with
  | 0 => ("StreamForge$Row", "chars", "[C", true)
  | _ => ("StreamForge$Row", "length", "I", false)
def t_Row : Nat → FieldType := fun k => match k with
  | 0 => .array (.char)
  | _ => .int
theorem n_Row : ∀ a, a < 2 → ∀ b, b < 2 → a ≠ b → (T_Row a).2.1 ≠ (T_Row b).2.1 := by decide +kernel
theorem t_Row_ok : ∀ k, k < 2 → parseFieldDescriptor (T_Row k).2.2.1 = some (t_Row k) := by decide +kernel
theorem i_Row : ∀ w ∈ u_ws R_Row T_Row 2, w ∈ zT := z_ms [165, 167] (by decide +kernel) (by decide +kernel)
def R_SF : String := "StreamForge"
def T_SF : u_T := fun k => match k with
  | 0 => ("StreamForge", "script", "LStreamForge$Row;", true)
  | 1 => ("StreamForge", "lines", "[LStreamForge$Row;", true)
  | 2 => ("StreamForge", "parser", "LStreamForge$Parser;", true)
  | 3 => ("StreamForge", "editor", "LStreamForge$Editor;", true)
  | 4 => ("StreamForge", "matcher", "LStreamForge$Matcher;", true)
  | 5 => ("StreamForge", "lineCount", "I", false)
  | 6 => ("StreamForge", "program", "LStreamForge$Program;", false)
  | 7 => ("StreamForge", "spare", "LStreamForge$Program;", false)
  | 8 => ("StreamForge", "parsed", "Z", false)
  | _ => ("StreamForge", "refusedAt", "I", false)
def t_SF : Nat → FieldType := fun k => match k with
  | 0 => .object "StreamForge$Row"
  | 1 => .array (.object "StreamForge$Row")
  | 2 => .object "StreamForge$Parser"
  | 3 => .object "StreamForge$Editor"
  | 4 => .object "StreamForge$Matcher"
  | 5 => .int
  | 6 => .object "StreamForge$Program"
  | 7 => .object "StreamForge$Program"
  | 8 => .boolean
  | _ => .int
theorem n_SF : ∀ a, a < 10 → ∀ b, b < 10 → a ≠ b → (T_SF a).2.1 ≠ (T_SF b).2.1 := by decide +kernel
theorem t_SF_ok : ∀ k, k < 10 → parseFieldDescriptor (T_SF k).2.2.1 = some (t_SF k) := by decide +kernel
theorem i_SF : ∀ w ∈ u_ws R_SF T_SF 10, w ∈ zT := z_ms [559, 561, 563, 565, 567, 569, 571, 573, 575, 577] (by decide +kernel) (by decide +kernel)
def R_Mod : String := "StreamForgeModel"
def T_Mod : u_T := fun k => match k with
  | 0 => ("StreamForgeModel", "text", "[I", true)
  | 1 => ("StreamForgeModel", "lineLength", "[I", true)
  | 2 => ("StreamForgeModel", "lines", "[I", true)
  | 3 => ("StreamForgeModel", "length", "I", false)
  | 4 => ("StreamForgeModel", "lineMany", "I", false)
  | 5 => ("StreamForgeModel", "where", "I", false)
  | 6 => ("StreamForgeModel", "thrown", "I", false)
  | 7 => ("StreamForgeModel", "live", "I", false)
  | 8 => ("StreamForgeModel", "parsed", "Z", false)
  | 9 => ("StreamForgeModel", "name", "[I", true)
  | 10 => ("StreamForgeModel", "one", "[I", true)
  | 11 => ("StreamForgeModel", "oneValue", "[I", true)
  | 12 => ("StreamForgeModel", "two", "[I", true)
  | 13 => ("StreamForgeModel", "twoValue", "[I", true)
  | 14 => ("StreamForgeModel", "pattern", "[I", true)
  | 15 => ("StreamForgeModel", "from", "[I", true)
  | 16 => ("StreamForgeModel", "to", "[I", true)
  | 17 => ("StreamForgeModel", "more", "[I", true)
  | 18 => ("StreamForgeModel", "goal", "[I", true)
  | 19 => ("StreamForgeModel", "which", "[I", true)
  | 20 => ("StreamForgeModel", "placeOf", "[I", true)
  | 21 => ("StreamForgeModel", "not", "[Z", true)
  | 22 => ("StreamForgeModel", "all", "[Z", true)
  | 23 => ("StreamForgeModel", "tells", "[Z", true)
  | 24 => ("StreamForgeModel", "commands", "[I", true)
  | 25 => ("StreamForgeModel", "patterns", "[I", true)
  | 26 => ("StreamForgeModel", "items", "[I", true)
  | 27 => ("StreamForgeModel", "chars", "[I", true)
  | 28 => ("StreamForgeModel", "itemFrom", "[I", true)
  | 29 => ("StreamForgeModel", "itemEnd", "[I", true)
  | 30 => ("StreamForgeModel", "groups", "[I", true)
  | 31 => ("StreamForgeModel", "item", "[I", true)
  | 32 => ("StreamForgeModel", "value", "[I", true)
  | 33 => ("StreamForgeModel", "store", "[I", true)
  | 34 => ("StreamForgeModel", "starred", "[Z", true)
  | 35 => ("StreamForgeModel", "atBegin", "[Z", true)
  | 36 => ("StreamForgeModel", "atEnd", "[Z", true)
  | 37 => ("StreamForgeModel", "low", "[J", true)
  | 38 => ("StreamForgeModel", "high", "[J", true)
  | 39 => ("StreamForgeModel", "labels", "[I", true)
  | 40 => ("StreamForgeModel", "open", "[I", true)
  | 41 => ("StreamForgeModel", "at", "I", false)
  | 42 => ("StreamForgeModel", "half", "I", false)
  | 43 => ("StreamForgeModel", "deep", "I", false)
  | 44 => ("StreamForgeModel", "group", "I", false)
  | 45 => ("StreamForgeModel", "stars", "I", false)
  | 46 => ("StreamForgeModel", "counted", "I", false)
  | 47 => ("StreamForgeModel", "number", "I", false)
  | 48 => ("StreamForgeModel", "bad", "Z", false)
  | 49 => ("StreamForgeModel", "inGroup", "Z", false)
  | 50 => ("StreamForgeModel", "may", "Z", false)
  | 51 => ("StreamForgeModel", "subject", "[I", true)
  | 52 => ("StreamForgeModel", "groupFrom", "[I", true)
  | 53 => ("StreamForgeModel", "groupLong", "[I", true)
  | 54 => ("StreamForgeModel", "subjectLong", "I", false)
  | 55 => ("StreamForgeModel", "stuck", "I", false)
  | 56 => ("StreamForgeModel", "foundAt", "I", false)
  | 57 => ("StreamForgeModel", "foundEnd", "I", false)
  | 58 => ("StreamForgeModel", "space", "[I", true)
  | 59 => ("StreamForgeModel", "hold", "[I", true)
  | 60 => ("StreamForgeModel", "work", "[I", true)
  | 61 => ("StreamForgeModel", "appended", "[I", true)
  | 62 => ("StreamForgeModel", "out", "[I", true)
  | 63 => ("StreamForgeModel", "began", "[I", true)
  | 64 => ("StreamForgeModel", "active", "[Z", true)
  | 65 => ("StreamForgeModel", "spaceLong", "I", false)
  | 66 => ("StreamForgeModel", "holdLong", "I", false)
  | 67 => ("StreamForgeModel", "workLong", "I", false)
  | 68 => ("StreamForgeModel", "appendedLong", "I", false)
  | 69 => ("StreamForgeModel", "outLong", "I", false)
  | 70 => ("StreamForgeModel", "read", "I", false)
  | 71 => ("StreamForgeModel", "begun", "I", false)
  | 72 => ("StreamForgeModel", "cycles", "I", false)
  | 73 => ("StreamForgeModel", "replaced", "I", false)
  | 74 => ("StreamForgeModel", "some", "Z", false)
  | 75 => ("StreamForgeModel", "ended", "Z", false)
  | _ => ("StreamForgeModel", "over", "Z", false)
def t_Mod : Nat → FieldType := fun k => match k with
  | 0 => .array (.int)
  | 1 => .array (.int)
  | 2 => .array (.int)
  | 3 => .int
  | 4 => .int
  | 5 => .int
  | 6 => .int
  | 7 => .int
  | 8 => .boolean
  | 9 => .array (.int)
  | 10 => .array (.int)
  | 11 => .array (.int)
  | 12 => .array (.int)
  | 13 => .array (.int)
  | 14 => .array (.int)
  | 15 => .array (.int)
  | 16 => .array (.int)
  | 17 => .array (.int)
  | 18 => .array (.int)
  | 19 => .array (.int)
  | 20 => .array (.int)
  | 21 => .array (.boolean)
  | 22 => .array (.boolean)
  | 23 => .array (.boolean)
  | 24 => .array (.int)
  | 25 => .array (.int)
  | 26 => .array (.int)
  | 27 => .array (.int)
  | 28 => .array (.int)
  | 29 => .array (.int)
  | 30 => .array (.int)
  | 31 => .array (.int)
  | 32 => .array (.int)
  | 33 => .array (.int)
  | 34 => .array (.boolean)
  | 35 => .array (.boolean)
  | 36 => .array (.boolean)
  | 37 => .array (.long)
  | 38 => .array (.long)
  | 39 => .array (.int)
  | 40 => .array (.int)
  | 41 => .int
  | 42 => .int
  | 43 => .int
  | 44 => .int
  | 45 => .int
  | 46 => .int
  | 47 => .int
  | 48 => .boolean
  | 49 => .boolean
  | 50 => .boolean
  | 51 => .array (.int)
  | 52 => .array (.int)
  | 53 => .array (.int)
  | 54 => .int
  | 55 => .int
  | 56 => .int
  | 57 => .int
  | 58 => .array (.int)
  | 59 => .array (.int)
  | 60 => .array (.int)
  | 61 => .array (.int)
  | 62 => .array (.int)
  | 63 => .array (.int)
  | 64 => .array (.boolean)
  | 65 => .int
  | 66 => .int
  | 67 => .int
  | 68 => .int
  | 69 => .int
  | 70 => .int
  | 71 => .int
  | 72 => .int
  | 73 => .int
  | 74 => .boolean
  | 75 => .boolean
  | _ => .boolean
theorem n_Mod : ∀ a, a < 77 → ∀ b, b < 77 → a ≠ b → (T_Mod a).2.1 ≠ (T_Mod b).2.1 := by decide +kernel
theorem t_Mod_ok : ∀ k, k < 77 → parseFieldDescriptor (T_Mod k).2.2.1 = some (t_Mod k) := by decide +kernel
theorem i_Mod : ∀ w ∈ u_ws R_Mod T_Mod 77, w ∈ zT := z_ms [1254, 1256, 1258, 1260, 1262, 1264, 1266, 1268, 1270, 1272, 1274, 1276, 1278, 1280, 1282, 1284, 1286, 1288, 1290, 1292, 1294, 1296, 1298, 1300, 1302, 1304, 1306, 1308, 1310, 1312, 1314, 1316, 1318, 1320, 1322, 1324, 1326, 1328, 1330, 1332, 1334, 1336, 1338, 1340, 1342, 1344, 1346, 1348, 1350, 1352, 1354, 1356, 1358, 1360, 1362, 1364, 1366, 1368, 1370, 1372, 1374, 1376, 1378, 1380, 1382, 1384, 1386, 1388, 1390, 1392, 1394, 1396, 1398, 1400, 1402, 1404, 1406] (by decide +kernel) (by decide +kernel)
abbrev zcl : List vw_C := [(R_Addr, T_Addr, 3), (R_Cmd, T_Cmd, 16), (R_Cur, T_Cur, 3), (R_Ed, T_Ed, 17), (R_It, T_It, 5), (R_Ma, T_Ma, 9), (R_Pa, T_Pa, 7), (R_Pt, T_Pt, 7), (R_Pr, T_Pr, 7), (R_Prog, T_Prog, 4), (R_Row, T_Row, 2), (R_SF, T_SF, 10), (R_Mod, T_Mod, 77)]
abbrev z_ty (dA : Nat → ClassId) : List (ClassId × FieldType) := [(dA 0, .int), (dA 1, .char), (dA 2, .long), (dA 3, .boolean), (dA 4, .object "StreamForge$Row"), (dA 5, .object "StreamForge$Command")]
end
section
/-! abstract heaps: an address holds an array (its type's number, its contents) or an object (its class's number, its fields) -/
abbrev z_E : Type := (Nat × vp_A) ⊕ (Nat × List Value)
abbrev z_H : Type := Nat → Option z_E
def z_cv (dA : Nat → ClassId) (e : Option z_E) : va_E := match e with
  | some (.inl a) => .inl (dA a.1, a.2)
  | some (.inr o) => .inr o
  | none => .inl (0, (0, .inl fun _ => 0))
def z_up (h : z_H) (a : Nat) (e : z_E) : z_H := fun q => if q = a then some e else h q
def z_b {α β : Type} (o : Option α) (f : α → Option β) : Option β := match o with
  | some x => f x
  | none => none
theorem z_bs {α β : Type} {o : Option α} {f : α → Option β} {r : β} (h : z_b o f = some r) : ∃ x, o = some x ∧ f x = some r := by
  cases o with
  | none => cases h
  | some x => exact ⟨x, rfl, h⟩
theorem z_b_some {α β : Type} (x : α) (f : α → Option β) : z_b (some x) f = f x := rfl
def zB (x : Int32) : Option Int32 := if x = 0 ∨ x = 1 then some x else none
theorem zB_s {x y : Int32} (h : zB x = some y) : x = y ∧ (x = 0 ∨ x = 1) := by
  unfold zB at h
  split at h
  · next q => exact ⟨Option.some.inj h, q⟩
  · cases h
/-- fields -/
def gF (h : z_H) (a ci k : Nat) : Option Value := match h a with
  | some (.inr o) => if o.1 = ci then o.2[k]? else none
  | _ => none
def gI (h : z_H) (a ci k : Nat) : Option Int32 := match gF h a ci k with
  | some (.int x) => some x
  | _ => none
def gR (h : z_H) (a ci k : Nat) : Option Nat := match gF h a ci k with
  | some (.ref x) => some x
  | _ => none
def sF (h : z_H) (a ci k : Nat) (v : Value) : Option z_H := match h a with
  | some (.inr o) => if o.1 = ci ∧ k < o.2.length then some (z_up h a (.inr (ci, o.2.set k v))) else none
  | _ => none
theorem gF_s {h : z_H} {a ci k : Nat} {v : Value} (e : gF h a ci k = some v) : ∃ fs, h a = some (.inr (ci, fs)) ∧ fs[k]? = some v := by
  unfold gF at e
  split at e
  · next o ho =>
    split at e
    · next q => exact ⟨o.2, by rw [ho, ← q], e⟩
    · cases e
  · cases e
theorem gI_s {h : z_H} {a ci k : Nat} {x : Int32} (e : gI h a ci k = some x) : ∃ fs, h a = some (.inr (ci, fs)) ∧ fs[k]? = some (.int x) := by
  unfold gI at e
  split at e
  · next y hy => cases e; exact gF_s hy
  · cases e
theorem gR_s {h : z_H} {a ci k : Nat} {x : Nat} (e : gR h a ci k = some x) : ∃ fs, h a = some (.inr (ci, fs)) ∧ fs[k]? = some (.ref x) := by
  unfold gR at e
  split at e
  · next y hy => cases e; exact gF_s hy
  · cases e
theorem sF_s {h h' : z_H} {a ci k : Nat} {v : Value} (e : sF h a ci k v = some h') : ∃ fs, h a = some (.inr (ci, fs)) ∧ k < fs.length ∧ h' = z_up h a (.inr (ci, fs.set k v)) := by
  unfold sF at e
  split at e
  · next o ho =>
    split at e
    · next q => cases e; exact ⟨o.2, by rw [ho, ← q.1], q.2, rfl⟩
    · cases e
  · cases e
/-- arrays -/
def aN (h : z_H) (a : Nat) : Option (Nat × Int32) := match h a with
  | some (.inl x) => if x.1 < 6 then some (x.1, Int32.ofNat x.2.1) else none
  | _ => none
def aI (h : z_H) (a t : Nat) (i : Int32) : Option Int32 := match h a with
  | some (.inl (t', n, .inl f)) => if t' = t ∧ ¬ (i < 0 ∨ n ≤ i.toNatClampNeg) then some (f i.toNatClampNeg) else none
  | _ => none
def aL (h : z_H) (a : Nat) (i : Int32) : Option Int64 := match h a with
  | some (.inl (t', n, .inr (.inl f))) => if t' = 2 ∧ ¬ (i < 0 ∨ n ≤ i.toNatClampNeg) then some (f i.toNatClampNeg) else none
  | _ => none
def aR (h : z_H) (a t : Nat) (i : Int32) : Option Nat := match h a with
  | some (.inl (t', n, .inr (.inr (.inr (.inr f))))) => if t' = t ∧ ¬ (i < 0 ∨ n ≤ i.toNatClampNeg) then f i.toNatClampNeg else none
  | _ => none
def uI (h : z_H) (a t : Nat) (i x : Int32) : Option z_H := match h a with
  | some (.inl (t', n, .inl f)) => if t' = t ∧ ¬ (i < 0 ∨ n ≤ i.toNatClampNeg) then some (z_up h a (.inl (t, n, .inl (upd f i.toNatClampNeg x)))) else none
  | _ => none
def uL (h : z_H) (a : Nat) (i : Int32) (x : Int64) : Option z_H := match h a with
  | some (.inl (t', n, .inr (.inl f))) => if t' = 2 ∧ ¬ (i < 0 ∨ n ≤ i.toNatClampNeg) then some (z_up h a (.inl (2, n, .inr (.inl (vp_updL f i.toNatClampNeg x))))) else none
  | _ => none
theorem aN_s {h : z_H} {a : Nat} {r : Nat × Int32} (e : aN h a = some r) : ∃ x : Nat × vp_A, h a = some (.inl x) ∧ x.1 < 6 ∧ r = (x.1, Int32.ofNat x.2.1) := by
  unfold aN at e
  split at e
  · next x hx =>
    split at e
    · next q => cases e; exact ⟨x, hx, q, rfl⟩
    · cases e
  · cases e
theorem aI_s {h : z_H} {a t : Nat} {i x : Int32} (e : aI h a t i = some x) : ∃ n f, h a = some (.inl (t, n, .inl f)) ∧ vp_in i n ∧ x = f i.toNatClampNeg := by
  unfold aI at e
  split at e
  · next t' n f hx =>
    split at e
    · next q => cases e; exact ⟨n, f, by rw [hx, q.1], q.2, rfl⟩
    · cases e
  · cases e
theorem aL_s {h : z_H} {a : Nat} {i : Int32} {x : Int64} (e : aL h a i = some x) : ∃ n f, h a = some (.inl (2, n, .inr (.inl f))) ∧ vp_in i n ∧ x = f i.toNatClampNeg := by
  unfold aL at e
  split at e
  · next t' n f hx =>
    split at e
    · next q => cases e; exact ⟨n, f, by rw [hx, q.1], q.2, rfl⟩
    · cases e
  · cases e
theorem aR_s {h : z_H} {a t : Nat} {i : Int32} {x : Nat} (e : aR h a t i = some x) : ∃ n f, h a = some (.inl (t, n, .inr (.inr (.inr (.inr f))))) ∧ vp_in i n ∧ f i.toNatClampNeg = some x := by
  unfold aR at e
  split at e
  · next t' n f hx =>
    split at e
    · next q => exact ⟨n, f, by rw [hx, q.1], q.2, e⟩
    · cases e
  · cases e
theorem uI_s {h h' : z_H} {a t : Nat} {i x : Int32} (e : uI h a t i x = some h') : ∃ n f, h a = some (.inl (t, n, .inl f)) ∧ vp_in i n ∧ h' = z_up h a (.inl (t, n, .inl (upd f i.toNatClampNeg x))) := by
  unfold uI at e
  split at e
  · next t' n f hx =>
    split at e
    · next q => cases e; exact ⟨n, f, by rw [hx, q.1], q.2, rfl⟩
    · cases e
  · cases e
theorem uL_s {h h' : z_H} {a : Nat} {i : Int32} {x : Int64} (e : uL h a i x = some h') : ∃ n f, h a = some (.inl (2, n, .inr (.inl f))) ∧ vp_in i n ∧ h' = z_up h a (.inl (2, n, .inr (.inl (vp_updL f i.toNatClampNeg x)))) := by
  unfold uL at e
  split at e
  · next t' n f hx =>
    split at e
    · next q => cases e; exact ⟨n, f, by rw [hx, q.1], q.2, rfl⟩
    · cases e
  · cases e
/-! the machine's heap holds an abstract one -/
abbrev z_wl (dA : Nat → ClassId) (L : List Nat) (h : z_H) : va_W := va_pl L (fun a => z_cv dA (h a))
def z_V (D : va_G) (dA : Nat → ClassId) (B : Nat) (h : z_H) (H : Heap) : Prop := ∃ L : List Nat, va_P D zcl (z_wl dA L h) H ∧ va_D (fun q => B ≤ q) (z_wl dA L h) ∧ ∀ a : Nat, (h a).isSome = true → a ∈ L
def z_I (D : va_G) (dA : Nat → ClassId) (B : Nat) (h : z_H) (H0 H : Heap) (locs : List Loc) : Prop := z_V D dA B h H ∧ va_S (fun q => B ≤ q) H0 H locs
def z_G (D : va_G) (dA : Nat → ClassId) (B : Nat) (h : z_H) (U : State) : Prop := z_V D dA B h U.heap ∧ va_K D zcl (z_ty dA) U ∧ B ≤ U.heap.size
theorem z_V.rd {D : va_G} {dA : Nat → ClassId} {B : Nat} {h : z_H} {H : Heap} {a : Nat} {e : z_E} (hI : z_V D dA B h H) (he : h a = some e) :
    ∃ (ws : va_W) (q0 : Nat), va_P D zcl ws H ∧ va_D (fun q => B ≤ q) ws ∧ ws[q0]? = some (a, z_cv dA (some e)) ∧ (∀ (e1 : z_E) (H1 : Heap), va_P D zcl (ws.set q0 (a, z_cv dA (some e1))) H1 → va_D (fun q => B ≤ q) (ws.set q0 (a, z_cv dA (some e1))) → z_V D dA B (z_up h a e1) H1) := by
  obtain ⟨L, hP, hD, hL⟩ := hI
  have ha : a ∈ L := hL a (by rw [he]; rfl)
  obtain ⟨q0, hq⟩ := va_pl_get (X := []) (f := fun a => z_cv dA (h a)) ha
  have hq' : (z_wl dA L h)[q0]? = some (a, z_cv dA (some e)) := by
    rw [← he]
    exact hq
  refine ⟨z_wl dA L h, q0, hP, hD, hq', fun e1 H1 p1 d1 => ?_⟩
  have hs : (z_wl dA L h).set q0 (a, z_cv dA (some e1)) = z_wl dA L (z_up h a e1) := by
    have h9 := va_pl_set (A := fun q => B ≤ q) (X := []) (f := fun a => z_cv dA (h a)) (e := z_cv dA (some e1)) hD ha hq
    refine (show (z_wl dA L h).set q0 (a, z_cv dA (some e1)) = va_pl L (va_up (fun a => z_cv dA (h a)) a (z_cv dA (some e1))) from h9).trans ?_
    refine va_pl_congr (fun q => ?_)
    unfold va_up z_up
    by_cases hqa : q = a
    · simp [hqa]
    · simp [hqa]
  rw [hs] at p1 d1
  refine ⟨L, p1, d1, fun q hq9 => ?_⟩
  by_cases hqa : q = a
  · rw [hqa]; exact ha
  · refine hL q ?_
    unfold z_up at hq9
    rw [if_neg hqa] at hq9
    exact hq9
theorem z_I.rd {D : va_G} {dA : Nat → ClassId} {B : Nat} {h : z_H} {H0 H : Heap} {locs : List Loc} {a : Nat} {e : z_E} (hI : z_I D dA B h H0 H locs) (he : h a = some e) :
    ∃ (ws : va_W) (q0 : Nat), va_P D zcl ws H ∧ va_D (fun q => B ≤ q) ws ∧ va_S (fun q => B ≤ q) H0 H locs ∧ ws[q0]? = some (a, z_cv dA (some e)) ∧ (∀ (e1 : z_E) (H1 : Heap) (locs1 : List Loc), va_P D zcl (ws.set q0 (a, z_cv dA (some e1))) H1 → va_D (fun q => B ≤ q) (ws.set q0 (a, z_cv dA (some e1))) → va_S (fun q => B ≤ q) H0 H1 locs1 → z_I D dA B (z_up h a e1) H0 H1 locs1) := by
  obtain ⟨ws, q0, hP, hD, hq, hu⟩ := hI.1.rd he
  exact ⟨ws, q0, hP, hD, hI.2, hq, fun e1 H1 l1 p1 d1 s1 => ⟨hu e1 H1 p1 d1, s1⟩⟩
/-- a method's surroundings -/
def z_ws (y : MethodName) (cc : ByteArray) (n : Nat) (ret : Option FieldType) : List Cond := .code y cc n ret :: zT
def z_X (p : Program) (s : State) (m : MethodId) (args : Array Value) (meth : Method) (c : Code) (cc : ByteArray) (nL : Nat) (ret : Option FieldType) (Ts : List Cond) (own : String) (D : va_G) (dA : Nat → ClassId) (B : Nat) : Prop :=
  CallFix p m c cc nL s args Ts own ∧ (∀ w ∈ zT, w ∈ Ts) ∧ va_K D zcl (z_ty dA) s ∧ B ≤ s.heap.size ∧ meth.locks = false ∧ meth.sig.returnType = ret
section ZC
variable {p : Program} {l : Launch} {e : Env} {R : Room} {s : State} {m : MethodId} {args : Array Value} {below : List Frame} {meth : Method} {c : Code} {H : Heap} {locs : List Loc} {cells slots : Nat} {Q : State → Prop}
variable {cc : ByteArray} {pc nL : Nat} {ret : Option FieldType} {ls : Array Slot} {rest : List Value} {Ts : List Cond} {own : String} {D : va_G} {dA : Nat → ClassId} {B a : Nat} {h : z_H} {H0 : Heap}
theorem z_hx (X : z_X p s m args meth c cc nL ret Ts own D dA B) : p.tables.exec = Jvm.exec := X.1.1
theorem z_hb (X : z_X p s m args meth c cc nL ret Ts own D dA B) : c.code = cc := X.1.2.1
theorem z_w (X : z_X p s m args meth c cc nL ret Ts own D dA B) {w : Cond} (h : w ∈ zT) : w.before args s = true := X.1.2.2.2.2 w (X.2.1 w h)
theorem z_getF (X : z_X p s m args meth c cc nL ret Ts own D dA B) (hI : z_I D dA B h H0 H locs) {ci k N index : Nat} {C : String} {T : u_T} {v : Value} (hv : ∃ fs, h a = some (.inr (ci, fs)) ∧ fs[k]? = some v) (hin : ∀ w ∈ u_ws C T N, w ∈ zT) (hc : zcl[ci]? = some (C, T, N)) (hk : k < N) (hl : Cond.fieldLink own index (T k).1 (T k).2.1 (T k).2.2.1 ∈ zT) (hdg : decode cc pc = .ok (.getfield index, 3))
    (kk : W p l e R s m args below meth c H locs cells slots Q (F0 m (pc + 3) ls (v :: rest))) : W p l e R s m args below meth c H locs cells slots Q (F0 m pc ls (.ref a :: rest)) := by
  obtain ⟨fs, he, hf⟩ := hv
  obtain ⟨ws, q0, hP, hD, hS, hq, -⟩ := hI.rd he
  exact va_get (z_hx X) (z_hb X) (Ts := Ts) X.1.2.2.2.2 (fun w hw => X.2.1 w (hin w hw)) X.1.2.2.2.1 X.2.2.1 hP q0 hq hc k hk (z_w X hl) (fun _ h9 => h9) hf hdg kk
theorem z_putF (X : z_X p s m args meth c cc nL ret Ts own D dA B) (hI : z_I D dA B h H0 H locs) {ci k N index : Nat} {C : String} {T : u_T} {ty0 : Nat → FieldType} {v : Value} {h1 : z_H} (hv : sF h a ci k v = some h1) (hin : ∀ w ∈ u_ws C T N, w ∈ zT) (hty : ∀ k, k < N → parseFieldDescriptor (T k).2.2.1 = some (ty0 k)) (hnm : ∀ a, a < N → ∀ b, b < N → a ≠ b → (T a).2.1 ≠ (T b).2.1) (hc : zcl[ci]? = some (C, T, N)) (hk : k < N) (hl : Cond.fieldLink own index (T k).1 (T k).2.1 (T k).2.2.1 ∈ zT) (hfin : (T k).2.2.2 = false) (hn : narrow (ty0 k) v = v) (hfit : fits (ty0 k) v = true) (hdg : decode cc pc = .ok (.putfield index, 3))
    (kk : ∀ (H1 : Heap) (locs1 : List Loc), z_I D dA B h1 H0 H1 locs1 → W p l e R s m args below meth c H1 locs1 cells slots Q (F0 m (pc + 3) ls rest)) : W p l e R s m args below meth c H locs cells slots Q (F0 m pc ls (v :: .ref a :: rest)) := by
  obtain ⟨fs, he, hkl, rfl⟩ := sF_s hv
  obtain ⟨ws, q0, hP, hD, hS, hq, hu⟩ := hI.rd he
  exact va_put (z_hx X) (z_hb X) (Ts := Ts) X.1.2.2.2.2 (fun w hw => X.2.1 w (hin w hw)) ty0 hty hnm X.1.2.2.2.1 X.2.2.1 hP hD hS q0 hq hc k hk (z_w X hl) (fun _ h9 => h9) hfin (hty k hk) hn hfit hkl hdg (fun H1 l1 p1 d1 s1 => kk H1 l1 (hu (.inr (ci, fs.set k v)) H1 l1 p1 d1 s1))
theorem z_alen (X : z_X p s m args meth c cc nL ret Ts own D dA B) (hI : z_I D dA B h H0 H locs) {x : Nat × Int32} (hv : aN h a = some x) (hdg : decode cc pc = .ok (.arraylength, 1))
    (kk : W p l e R s m args below meth c H locs cells slots Q (F0 m (pc + 1) ls (.int x.2 :: rest))) : W p l e R s m args below meth c H locs cells slots Q (F0 m pc ls (.ref a :: rest)) := by
  obtain ⟨⟨t, y⟩, he, ht, rfl⟩ := aN_s hv
  obtain ⟨ws, q0, hP, hD, hS, hq, -⟩ := hI.rd he
  have h6 : ∃ ty, (z_ty dA)[t]? = some (dA t, ty) := by
    have ht : t < 6 := ht
    match t, ht with
    | 0, _ => exact ⟨_, rfl⟩
    | 1, _ => exact ⟨_, rfl⟩
    | 2, _ => exact ⟨_, rfl⟩
    | 3, _ => exact ⟨_, rfl⟩
    | 4, _ => exact ⟨_, rfl⟩
    | 5, _ => exact ⟨_, rfl⟩
  obtain ⟨ty, h7⟩ := h6
  exact va_alen (z_hx X) (z_hb X) X.2.2.1 hP q0 t hq h7 rfl hdg kk
theorem z_iald (X : z_X p s m args meth c cc nL ret Ts own D dA B) (hI : z_I D dA B h H0 H locs) {i x : Int32} (hv : aI h a 0 i = some x) (hdg : decode cc pc = .ok (.iaload, 1))
    (kk : W p l e R s m args below meth c H locs cells slots Q (F0 m (pc + 1) ls (.int x :: rest))) : W p l e R s m args below meth c H locs cells slots Q (F0 m pc ls (.int i :: .ref a :: rest)) := by
  obtain ⟨n, f, he, hin, rfl⟩ := aI_s hv
  obtain ⟨ws, q0, hP, hD, hS, hq, -⟩ := hI.rd he
  exact va_iald (z_hx X) (z_hb X) X.2.2.1 hP q0 0 hq rfl hin hdg kk
theorem z_cald (X : z_X p s m args meth c cc nL ret Ts own D dA B) (hI : z_I D dA B h H0 H locs) {i x : Int32} (hv : aI h a 1 i = some x) (hdg : decode cc pc = .ok (.caload, 1))
    (kk : W p l e R s m args below meth c H locs cells slots Q (F0 m (pc + 1) ls (.int x :: rest))) : W p l e R s m args below meth c H locs cells slots Q (F0 m pc ls (.int i :: .ref a :: rest)) := by
  obtain ⟨n, f, he, hin, rfl⟩ := aI_s hv
  obtain ⟨ws, q0, hP, hD, hS, hq, -⟩ := hI.rd he
  exact va_cald (z_hx X) (z_hb X) X.2.2.1 hP q0 1 hq rfl hin hdg kk
theorem z_zald (X : z_X p s m args meth c cc nL ret Ts own D dA B) (hI : z_I D dA B h H0 H locs) {i x : Int32} (hv : aI h a 3 i = some x) (hdg : decode cc pc = .ok (.baload, 1))
    (kk : W p l e R s m args below meth c H locs cells slots Q (F0 m (pc + 1) ls (.int x :: rest))) : W p l e R s m args below meth c H locs cells slots Q (F0 m pc ls (.int i :: .ref a :: rest)) := by
  obtain ⟨n, f, he, hin, rfl⟩ := aI_s hv
  obtain ⟨ws, q0, hP, hD, hS, hq, -⟩ := hI.rd he
  exact va_zald (z_hx X) (z_hb X) X.2.2.1 hP q0 3 hq rfl hin hdg kk
theorem z_lald (X : z_X p s m args meth c cc nL ret Ts own D dA B) (hI : z_I D dA B h H0 H locs) {i : Int32} {x : Int64} (hv : aL h a i = some x) (hdg : decode cc pc = .ok (.laload, 1))
    (kk : W p l e R s m args below meth c H locs cells slots Q (F0 m (pc + 1) ls (.long x :: rest))) : W p l e R s m args below meth c H locs cells slots Q (F0 m pc ls (.int i :: .ref a :: rest)) := by
  obtain ⟨n, f, he, hin, rfl⟩ := aL_s hv
  obtain ⟨ws, q0, hP, hD, hS, hq, -⟩ := hI.rd he
  exact va_lald (z_hx X) (z_hb X) X.2.2.1 hP q0 2 hq rfl hin hdg kk
theorem z_aald4 (X : z_X p s m args meth c cc nL ret Ts own D dA B) (hI : z_I D dA B h H0 H locs) {i : Int32} {x : Nat} (hv : aR h a 4 i = some x) (hdg : decode cc pc = .ok (.aaload, 1))
    (kk : W p l e R s m args below meth c H locs cells slots Q (F0 m (pc + 1) ls (.ref x :: rest))) : W p l e R s m args below meth c H locs cells slots Q (F0 m pc ls (.int i :: .ref a :: rest)) := by
  obtain ⟨n, f, he, hin, hx⟩ := aR_s hv
  obtain ⟨ws, q0, hP, hD, hS, hq, -⟩ := hI.rd he
  refine va_aldq (z_hx X) (z_hb X) X.2.2.1 hP q0 4 hq rfl hin hdg ?_
  rw [hx]
  exact kk
theorem z_aald5 (X : z_X p s m args meth c cc nL ret Ts own D dA B) (hI : z_I D dA B h H0 H locs) {i : Int32} {x : Nat} (hv : aR h a 5 i = some x) (hdg : decode cc pc = .ok (.aaload, 1))
    (kk : W p l e R s m args below meth c H locs cells slots Q (F0 m (pc + 1) ls (.ref x :: rest))) : W p l e R s m args below meth c H locs cells slots Q (F0 m pc ls (.int i :: .ref a :: rest)) := by
  obtain ⟨n, f, he, hin, hx⟩ := aR_s hv
  obtain ⟨ws, q0, hP, hD, hS, hq, -⟩ := hI.rd he
  refine va_aldq (z_hx X) (z_hb X) X.2.2.1 hP q0 5 hq rfl hin hdg ?_
  rw [hx]
  exact kk
theorem z_iast (X : z_X p s m args meth c cc nL ret Ts own D dA B) (hI : z_I D dA B h H0 H locs) {i x : Int32} {h1 : z_H} (hv : uI h a 0 i x = some h1) (hdg : decode cc pc = .ok (.iastore, 1))
    (kk : ∀ (H1 : Heap) (locs1 : List Loc), z_I D dA B h1 H0 H1 locs1 → W p l e R s m args below meth c H1 locs1 cells slots Q (F0 m (pc + 1) ls rest)) : W p l e R s m args below meth c H locs cells slots Q (F0 m pc ls (.int x :: .int i :: .ref a :: rest)) := by
  obtain ⟨n, f, he, hin, rfl⟩ := uI_s hv
  obtain ⟨ws, q0, hP, hD, hS, hq, hu⟩ := hI.rd he
  exact va_iast (z_hx X) (z_hb X) X.2.2.1 hP hD hS q0 0 hq rfl hin hdg (fun H1 l1 p1 d1 s1 => kk H1 l1 (hu _ H1 l1 p1 d1 s1))
theorem z_cast (X : z_X p s m args meth c cc nL ret Ts own D dA B) (hI : z_I D dA B h H0 H locs) {i x : Int32} {h1 : z_H} (hv : uI h a 1 i (vp_nar .char x) = some h1) (hdg : decode cc pc = .ok (.castore, 1))
    (kk : ∀ (H1 : Heap) (locs1 : List Loc), z_I D dA B h1 H0 H1 locs1 → W p l e R s m args below meth c H1 locs1 cells slots Q (F0 m (pc + 1) ls rest)) : W p l e R s m args below meth c H locs cells slots Q (F0 m pc ls (.int x :: .int i :: .ref a :: rest)) := by
  obtain ⟨n, f, he, hin, rfl⟩ := uI_s hv
  obtain ⟨ws, q0, hP, hD, hS, hq, hu⟩ := hI.rd he
  exact va_cast (z_hx X) (z_hb X) X.2.2.1 hP hD hS q0 1 hq rfl hin hdg (fun H1 l1 p1 d1 s1 => kk H1 l1 (hu _ H1 l1 p1 d1 s1))
theorem z_zast (X : z_X p s m args meth c cc nL ret Ts own D dA B) (hI : z_I D dA B h H0 H locs) {i x : Int32} {h1 : z_H} (hv : uI h a 3 i (vp_nar .boolean x) = some h1) (hdg : decode cc pc = .ok (.bastore, 1))
    (kk : ∀ (H1 : Heap) (locs1 : List Loc), z_I D dA B h1 H0 H1 locs1 → W p l e R s m args below meth c H1 locs1 cells slots Q (F0 m (pc + 1) ls rest)) : W p l e R s m args below meth c H locs cells slots Q (F0 m pc ls (.int x :: .int i :: .ref a :: rest)) := by
  obtain ⟨n, f, he, hin, rfl⟩ := uI_s hv
  obtain ⟨ws, q0, hP, hD, hS, hq, hu⟩ := hI.rd he
  exact va_zast (z_hx X) (z_hb X) X.2.2.1 hP hD hS q0 3 hq rfl hin hdg (fun H1 l1 p1 d1 s1 => kk H1 l1 (hu _ H1 l1 p1 d1 s1))
theorem z_last (X : z_X p s m args meth c cc nL ret Ts own D dA B) (hI : z_I D dA B h H0 H locs) {i : Int32} {x : Int64} {h1 : z_H} (hv : uL h a i x = some h1) (hdg : decode cc pc = .ok (.lastore, 1))
    (kk : ∀ (H1 : Heap) (locs1 : List Loc), z_I D dA B h1 H0 H1 locs1 → W p l e R s m args below meth c H1 locs1 cells slots Q (F0 m (pc + 1) ls rest)) : W p l e R s m args below meth c H locs cells slots Q (F0 m pc ls (.long x :: .int i :: .ref a :: rest)) := by
  obtain ⟨n, f, he, hin, rfl⟩ := uL_s hv
  obtain ⟨ws, q0, hP, hD, hS, hq, hu⟩ := hI.rd he
  exact va_last (z_hx X) (z_hb X) X.2.2.1 hP hD hS q0 2 hq rfl hin hdg (fun H1 l1 p1 d1 s1 => kk H1 l1 (hu _ H1 l1 p1 d1 s1))
end ZC
end
section
/-! contracts that return: from an abstract heap to another, nothing is made -/
def z_P (D : va_G) (dA : Nat → ClassId) (B : Nat) (av : List Value) (h : z_H) : Array Value → State → Prop := fun v U => v = av.toArray ∧ z_G D dA B h U
def z_Q (D : va_G) (dA : Nat → ClassId) (B : Nat) (r : Option Value) (h' : z_H) : Array Value → State → Outcome → State → Prop := fun _ st oc t => oc = .returned r ∧ z_G D dA B h' t ∧ va_F (fun q => B ≤ q) st t
abbrev z_rm (fr lo : Nat) : Room := { frames := fr, cells := 0, slots := 0, locals := lo }
def z_Met (l : Launch) (y : MethodName) (cc : ByteArray) (nL : Nat) (ret : Option FieldType) (fr lo : Nat) (D : va_G) (dA : Nat → ClassId) (B : Nat) (av : List Value) (h : z_H) (r : Option Value) (h' : z_H) : Prop :=
  Met l y (z_ws y cc nL ret) (z_rm fr lo) (z_P D dA B av h) (z_Q D dA B r h') 0 0 (fun q => B ≤ q)
theorem z_G.blind {D : va_G} {dA : Nat → ClassId} {B : Nat} {av : List Value} {h : z_H} : FrameBlind (z_P D dA B av h) := by
  intro a U g mk hq
  obtain ⟨q0, qV, qK, qB⟩ := hq
  exact ⟨q0, qV, va_K.moved (u := U) (U := U.calling g mk a) (Vm.Alike.refl U.vm) qK, qB⟩
/-- what the tables say of a method that is called on an object; of a static one -/
def z_yV (y : MethodName) (cy : ByteArray) (ny : Nat) (ry : Option FieldType) (n : Nat) : Prop :=
  Cond.instanceMethod y ∈ zT ∧ Cond.selects y.cls y y ∈ zT ∧ Cond.initialized y.cls ∈ zT ∧ Cond.code y cy ny ry ∈ zT ∧ y.cls ≠ "java/lang/invoke/MethodHandle" ∧ y.cls ≠ "java/lang/invoke/VarHandle" ∧ (parseMethodDescriptor y.desc).map (fun d => d.parameters.length) = some n
def z_yS (y : MethodName) (cy : ByteArray) (ny : Nat) (ry : Option FieldType) (n : Nat) : Prop :=
  Cond.static y ∈ zT ∧ Cond.initialized y.cls ∈ zT ∧ Cond.code y cy ny ry ∈ zT ∧ y.cls ≠ "java/lang/invoke/MethodHandle" ∧ y.cls ≠ "java/lang/invoke/VarHandle" ∧ (parseMethodDescriptor y.desc).map (fun d => d.parameters.length) = some n
def gO (h : z_H) (a ci : Nat) : Option Unit := match h a with
  | some (.inr o) => if o.1 = ci then some () else none
  | _ => none
theorem gO_s {h : z_H} {a ci : Nat} {u : Unit} (e : gO h a ci = some u) : ∃ fs, h a = some (.inr (ci, fs)) := by
  unfold gO at e
  split at e
  · next o ho =>
    split at e
    · next q => exact ⟨o.2, by rw [ho, ← q]⟩
    · cases e
  · cases e
theorem z_all {y : MethodName} {cc : ByteArray} {n : Nat} {ret : Option FieldType} (w : Cond.code y cc n ret ∈ zT) : ∀ x ∈ z_ws y cc n ret, x ∈ zT := fun x hx => (List.mem_cons.mp hx).elim (fun e => by rw [e]; exact w) id
section ZD
variable {p : Program} {l : Launch} {e : Env} {R : Room} {s : State} {m : MethodId} {args : Array Value} {below : List Frame} {meth : Method} {c : Code} {H : Heap} {locs : List Loc} {cells slots : Nat} {Q : State → Prop}
variable {cc cy : ByteArray} {pc nL ny index n fr lo : Nat} {ret ry : Option FieldType} {ls : Array Slot} {rest st0 : List Value} {Ts : List Cond} {own : String} {D : va_G} {dA : Nat → ClassId} {B b : Nat} {h h' : z_H} {y : MethodName} {As : List Value} {r : Option Value}
theorem z_good2 (X : z_X p s m args meth c cc nL ret Ts own D dA B) {ws : List Cond} (hw : ∀ x ∈ ws, x ∈ zT) : GoodIn Ts ws := fun x hx => ⟨X.2.1 x (hw x hx), z_good (hw x hx)⟩
/-- the world behind a call that returned -/
theorem z_run {mc ms : Nat} {a : Array Value} (X : z_X p s m args meth c cc nL ret Ts own D dA B) (hI : z_I D dA B h s.heap H locs) (hr : va_Run p l e R s m args below meth c H locs cells slots mc ms (F0 m pc ls st0) rest (z_Q D dA B r h' a) (fun q => B ≤ q))
    (kk : ∀ (H1 : Heap) (locs1 : List Loc), z_I D dA B h' s.heap H1 locs1 → W p l e R s m args below meth c H1 locs1 (cells + mc) (slots + ms) Q (F0 m (pc + 3) ls (r.toList ++ rest))) : W p l e R s m args below meth c H locs cells slots Q (F0 m pc ls st0) := by
  intro T hT Y
  obtain ⟨v, st₀, t, T', L, h0, Y', hL, e1, e2, ⟨hv, hG, hz, hk⟩, st⟩ := hr T hT Y
  cases hv
  rw [h0] at hz hk
  obtain ⟨hV, hS1, hS2, hS3⟩ := hI
  obtain ⟨t2, a1, b1⟩ := kk T'.heap (locs ++ L) ⟨by rw [e1]; exact hG.1, Nat.le_trans hS1 (by rw [e1]; exact hz), fun q hq hn => by
    rw [e1, hk q (Nat.lt_of_lt_of_le hq hS1) hn]; exact hS2 q hq hn, fun x hx => by
    rcases List.mem_append.mp hx with h9 | h9
    · exact hS3 x h9
    · exact hL x h9⟩ T' rfl Y'
  exact ⟨t2, st t2 a1, b1⟩
theorem z_pre (X : z_X p s m args meth c cc nL ret Ts own D dA B) (hI : z_I D dA B h s.heap H locs) (av : List Value) : ∀ U : State, U.heap = H → s.WarmedH U.vm → z_P D dA B av h av.toArray U := by
  intro U hU hW
  refine ⟨rfl, by rw [hU]; exact hI.1, va_K.moved hW.alike X.2.2.1, ?_⟩
  rw [hU]
  exact Nat.le_trans X.2.2.2.1 hI.2.1
theorem z_callV (X : z_X p s m args meth c cc nL ret Ts own D dA B) (hI : z_I D dA B h s.heap H locs) {ci : Nat} {q : vw_C} {u : Unit} (hO : gO h b ci = some u) (hM : z_Met l y cy ny ry fr lo D dA B (.ref b :: As) h r h') (hc : zcl[ci]? = some q) (hq : q.1 = y.cls) (w1 : Cond.methodLink own index y ∈ zT) (w : z_yV y cy ny ry n) (hn : As.length = n) (hls : ls.size = nL) (hst : st0 = As.reverse ++ .ref b :: rest) (hro : (rest.map fun v => v.category).sum ≤ 8)
    (hR : fr + 1 ≤ R.frames ∧ 8 + (ny + 11) + lo ≤ R.locals) (hcs : cells ≤ R.cells ∧ slots ≤ R.slots) (hdg : decode cc pc = .ok (.invokevirtual index, 3))
    (kk : ∀ (H1 : Heap) (locs1 : List Loc), z_I D dA B h' s.heap H1 locs1 → W p l e R s m args below meth c H1 locs1 cells slots Q (F0 m (pc + 3) ls (r.toList ++ rest))) : W p l e R s m args below meth c H locs cells slots Q (F0 m pc ls st0) := by
  obtain ⟨w2, w3, w4, w5, w6⟩ := w
  obtain ⟨fs, he⟩ := gO_s hO
  obtain ⟨ws, q0, hP, hD, hS, hq0, -⟩ := hI.rd he
  have hre := va_recv X.2.2.1 hP hc hq0
  rw [hq] at hre
  have hT : GoodIn Ts (wsV own index y.cls y (z_ws y cy ny ry)) := z_good2 X (fun x hx => by
    rcases List.mem_append.mp hx with h9 | h9
    · simp only [List.mem_cons, List.not_mem_nil, or_false] at h9
      rcases h9 with h9 | h9 | h9 | h9
      · rw [h9]; exact w1
      · rw [h9]; exact w2
      · rw [h9]; exact w3
      · rw [h9]; exact w4
    · exact z_all w5 x h9)
  exact z_run X hI (va_runV (As := As) (rest := rest) X.1 hM (cwV n X.1.2.2.2.2 hT rfl rfl rfl ⟨rfl, w6⟩ hR) ⟨z_G.blind, hre, z_pre X hI _⟩ rfl hn hls hst (lv_room hro) hdg hcs) kk
theorem z_callS (X : z_X p s m args meth c cc nL ret Ts own D dA B) (hI : z_I D dA B h s.heap H locs) (hM : z_Met l y cy ny ry fr lo D dA B As h r h') (hq : y.cls = own) (w1 : Cond.methodLink own index y ∈ zT) (w : z_yS y cy ny ry n) (hn : As.length = n) (hls : ls.size = nL) (hst : st0 = As.reverse ++ rest) (hro : (rest.map fun v => v.category).sum ≤ 8)
    (hR : fr + 1 ≤ R.frames ∧ 8 + (ny + 11) + lo ≤ R.locals) (hcs : cells ≤ R.cells ∧ slots ≤ R.slots) (hdg : decode cc pc = .ok (.invokestatic index, 3))
    (kk : ∀ (H1 : Heap) (locs1 : List Loc), z_I D dA B h' s.heap H1 locs1 → W p l e R s m args below meth c H1 locs1 cells slots Q (F0 m (pc + 3) ls (r.toList ++ rest))) : W p l e R s m args below meth c H locs cells slots Q (F0 m pc ls st0) := by
  obtain ⟨w2, w4, w5, w6⟩ := w
  have hT : GoodIn Ts (wsS own index y (z_ws y cy ny ry)) := z_good2 X (fun x hx => by
    rcases List.mem_append.mp hx with h9 | h9
    · simp only [List.mem_cons, List.not_mem_nil, or_false] at h9
      rcases h9 with h9 | h9 | h9
      · rw [h9]; exact w1
      · rw [h9]; exact w2
      · rw [h9, ← hq]; exact w4
    · exact z_all w5 x h9)
  exact z_run X hI (va_runS (As := As) (rest := rest) X.1 hM (cwS n X.1.2.2.2.2 hT rfl rfl rfl ⟨hq, w6⟩ hR) ⟨z_G.blind, z_pre X hI _⟩ rfl hn hls hst (lv_room hro) hdg hcs) kk
/-- ends -/
theorem z_end (X : z_X p s m args meth c cc nL ret Ts own D dA B) (hI : z_I D dA B h s.heap H locs) : ∀ t : State, t.heap = H → s.WarmedH t.vm → z_Q D dA B r h args s (.returned r) t := fun t ht hW =>
  ⟨rfl, ⟨by rw [ht]; exact hI.1, va_K.moved hW.alike X.2.2.1, by rw [ht]; exact Nat.le_trans X.2.2.2.1 hI.2.1⟩, hI.2.F ht⟩
theorem z_iret {x : Int32} (X : z_X p s m args meth c cc nL (some .int) Ts own D dA B) (hI : z_I D dA B h s.heap H locs) (hdg : decode cc pc = .ok (.ireturn, 1)) : W p l e R s m args below meth c H locs cells slots (MQ below (z_Q D dA B (some (.int x)) h) args s cells slots (fun q => B ≤ q)) (F0 m pc ls [.int x]) :=
  W.iret (z_hx X) (z_hb X) X.2.2.2.2.2 (z_end X hI) hI.2.2.2 hdg X.2.2.2.2.1
theorem z_zret {x : Int32} (X : z_X p s m args meth c cc nL (some .boolean) Ts own D dA B) (hI : z_I D dA B h s.heap H locs) (hx : x = 0 ∨ x = 1) (hdg : decode cc pc = .ok (.ireturn, 1)) : W p l e R s m args below meth c H locs cells slots (MQ below (z_Q D dA B (some (.int x)) h) args s cells slots (fun q => B ≤ q)) (F0 m pc ls [.int x]) :=
  W.zret (z_hx X) (z_hb X) X.2.2.2.2.2 (by rcases hx with rfl | rfl <;> rfl) (z_end X hI) hI.2.2.2 hdg X.2.2.2.2.1
theorem z_vret (X : z_X p s m args meth c cc nL none Ts own D dA B) (hI : z_I D dA B h s.heap H locs) (hdg : decode cc pc = .ok (.return_, 1)) : W p l e R s m args below meth c H locs cells slots (MQ below (z_Q D dA B none h) args s cells slots (fun q => B ≤ q)) (F0 m pc ls []) :=
  W.vret (z_hx X) (z_hb X) X.2.2.2.2.2 (z_end X hI) hI.2.2.2 hdg X.2.2.2.2.1
/-- a body's beginning -/
theorem z_of {av : List Value} (hy : plainName y.cls = true) (hlen : (lg_sl av).length ≤ ny)
    (body : ∀ (p : Program) (e : Env) (s : State) (m : MethodId) (below : List Frame) (meth : Method) (c : Code) (ls : Array Slot), z_X p s m av.toArray meth c cy ny ry (z_ws y cy ny ry) y.cls D dA B → z_I D dA B h s.heap s.heap [] → lv_has ls ny (lv_args 0 av) →
      W p l e (z_rm fr lo) s m av.toArray below meth c s.heap [] 0 0 (MQ below (z_Q D dA B r h') av.toArray s 0 0 (fun q => B ≤ q)) (F0 m 0 ls [])) : z_Met l y cy ny ry fr lo D dA B av h r h' := by
  refine Met.ofW (cc := cy) (maxL := ny) (ret := ry) hy rfl ?_
  intro p e s m args below meth c s₁ Bd hml hv
  obtain ⟨rfl, hV, hK, hB⟩ := hv
  have hl := lv_entry av (n := ny) hlen
  rw [lg_entry_eq]
  exact body p e s m below meth c _ ⟨⟨Bd.exec, Bd.bytes, hml, findClass_of_methodNamed Bd.named, atoms_spec (ws := z_ws y cy ny ry) Bd.pre⟩, fun w hw => List.mem_cons_of_mem _ hw, hK, hB, Bd.notSynchronized, Bd.returns⟩ ⟨hV, va_S.rf⟩ hl
end ZD
end
