section
-- ===== PART A: goes FIRST, ahead of the names: the tables' words, and 'selects' of the private methods out of them =====
/-- a private method of a class that the tables say can be made, by its rows of tables_1 -/
def lw_okq (q : MethodName × Nat) : Prop := (q.1.cls ≠ "java/lang/invoke/MethodHandle" ∧ q.1.cls ≠ "java/lang/invoke/VarHandle") ∧ Cond.instantiable q.1.cls q.2 ∈ tables_1 ∧ Cond.privateMethod q.1 ∈ tables_1 ∧ Cond.instanceMethod q.1 ∈ tables_1
theorem lw_p0 : lw_okq (⟨"RingWord$Tape", "advance", "()V"⟩, 7) := ⟨⟨by decide +kernel, by decide +kernel⟩, List.mem_of_getElem? (i := 86) (by decide +kernel), List.mem_of_getElem? (i := 211) (by decide +kernel), List.mem_of_getElem? (i := 212) (by decide +kernel)⟩
theorem lw_p1 : lw_okq (⟨"RingWord$Tape", "sortAt", "(I)I"⟩, 7) := ⟨⟨by decide +kernel, by decide +kernel⟩, List.mem_of_getElem? (i := 86) (by decide +kernel), List.mem_of_getElem? (i := 215) (by decide +kernel), List.mem_of_getElem? (i := 216) (by decide +kernel)⟩
theorem lw_p2 : lw_okq (⟨"RingWord$Tape", "blame", "(II)V"⟩, 7) := ⟨⟨by decide +kernel, by decide +kernel⟩, List.mem_of_getElem? (i := 86) (by decide +kernel), List.mem_of_getElem? (i := 219) (by decide +kernel), List.mem_of_getElem? (i := 220) (by decide +kernel)⟩
theorem lw_p3 : lw_okq (⟨"RingWord$Tape", "takeLine", "(LRingWord$Ring;)V"⟩, 7) := ⟨⟨by decide +kernel, by decide +kernel⟩, List.mem_of_getElem? (i := 86) (by decide +kernel), List.mem_of_getElem? (i := 223) (by decide +kernel), List.mem_of_getElem? (i := 224) (by decide +kernel)⟩
theorem lw_p4 : lw_okq (⟨"RingWord$Tape", "lineBegun", "()I"⟩, 7) := ⟨⟨by decide +kernel, by decide +kernel⟩, List.mem_of_getElem? (i := 86) (by decide +kernel), List.mem_of_getElem? (i := 227) (by decide +kernel), List.mem_of_getElem? (i := 228) (by decide +kernel)⟩
theorem lw_p5 : lw_okq (⟨"RingWord$Tape", "isNamed", "(Ljava/lang/String;)Z"⟩, 7) := ⟨⟨by decide +kernel, by decide +kernel⟩, List.mem_of_getElem? (i := 86) (by decide +kernel), List.mem_of_getElem? (i := 232) (by decide +kernel), List.mem_of_getElem? (i := 233) (by decide +kernel)⟩
theorem lw_p6 : lw_okq (⟨"RingWord$Tape", "takeWord", "(LRingWord$Ring;)V"⟩, 7) := ⟨⟨by decide +kernel, by decide +kernel⟩, List.mem_of_getElem? (i := 86) (by decide +kernel), List.mem_of_getElem? (i := 288) (by decide +kernel), List.mem_of_getElem? (i := 289) (by decide +kernel)⟩
theorem lw_p7 : lw_okq (⟨"RingWord$Tape", "takeNumber", "(II)I"⟩, 7) := ⟨⟨by decide +kernel, by decide +kernel⟩, List.mem_of_getElem? (i := 86) (by decide +kernel), List.mem_of_getElem? (i := 292) (by decide +kernel), List.mem_of_getElem? (i := 293) (by decide +kernel)⟩
theorem lw_p8 : lw_okq (⟨"RingWord$Tape", "require", "(I)V"⟩, 7) := ⟨⟨by decide +kernel, by decide +kernel⟩, List.mem_of_getElem? (i := 86) (by decide +kernel), List.mem_of_getElem? (i := 296) (by decide +kernel), List.mem_of_getElem? (i := 297) (by decide +kernel)⟩
theorem lw_p9 : lw_okq (⟨"RingWord$Tape", "takeStation", "(LRingWord$Ring;I)V"⟩, 7) := ⟨⟨by decide +kernel, by decide +kernel⟩, List.mem_of_getElem? (i := 86) (by decide +kernel), List.mem_of_getElem? (i := 301) (by decide +kernel), List.mem_of_getElem? (i := 302) (by decide +kernel)⟩
theorem lw_p10 : lw_okq (⟨"RingWord$Tape", "placeWord", "(LRingWord$Ring;)V"⟩, 7) := ⟨⟨by decide +kernel, by decide +kernel⟩, List.mem_of_getElem? (i := 86) (by decide +kernel), List.mem_of_getElem? (i := 309) (by decide +kernel), List.mem_of_getElem? (i := 310) (by decide +kernel)⟩
theorem lw_p11 : lw_okq (⟨"RingWord$Ring", "isLonger", "(I)Z"⟩, 7) := ⟨⟨by decide +kernel, by decide +kernel⟩, List.mem_of_getElem? (i := 24) (by decide +kernel), List.mem_of_getElem? (i := 344) (by decide +kernel), List.mem_of_getElem? (i := 345) (by decide +kernel)⟩
theorem lw_p12 : lw_okq (⟨"RingWord$Ring", "come", "(I)V"⟩, 7) := ⟨⟨by decide +kernel, by decide +kernel⟩, List.mem_of_getElem? (i := 24) (by decide +kernel), List.mem_of_getElem? (i := 398) (by decide +kernel), List.mem_of_getElem? (i := 399) (by decide +kernel)⟩
theorem lw_p13 : lw_okq (⟨"RingWord", "startTrial", "()V"⟩, 8) := ⟨⟨by decide +kernel, by decide +kernel⟩, List.mem_of_getElem? (i := 16) (by decide +kernel), List.mem_of_getElem? (i := 407) (by decide +kernel), List.mem_of_getElem? (i := 408) (by decide +kernel)⟩
theorem lw_p14 : lw_okq (⟨"RingWord", "startTrialWith", "(III)V"⟩, 8) := ⟨⟨by decide +kernel, by decide +kernel⟩, List.mem_of_getElem? (i := 16) (by decide +kernel), List.mem_of_getElem? (i := 431) (by decide +kernel), List.mem_of_getElem? (i := 432) (by decide +kernel)⟩
theorem lw_p15 : lw_okq (⟨"RingWord", "tryFailing", "(II)V"⟩, 8) := ⟨⟨by decide +kernel, by decide +kernel⟩, List.mem_of_getElem? (i := 16) (by decide +kernel), List.mem_of_getElem? (i := 462) (by decide +kernel), List.mem_of_getElem? (i := 463) (by decide +kernel)⟩
def lw_privs_1 : List (MethodName × Nat) := [(⟨"RingWord$Tape", "advance", "()V"⟩, 7), (⟨"RingWord$Tape", "sortAt", "(I)I"⟩, 7), (⟨"RingWord$Tape", "blame", "(II)V"⟩, 7), (⟨"RingWord$Tape", "takeLine", "(LRingWord$Ring;)V"⟩, 7), (⟨"RingWord$Tape", "lineBegun", "()I"⟩, 7), (⟨"RingWord$Tape", "isNamed", "(Ljava/lang/String;)Z"⟩, 7), (⟨"RingWord$Tape", "takeWord", "(LRingWord$Ring;)V"⟩, 7), (⟨"RingWord$Tape", "takeNumber", "(II)I"⟩, 7), (⟨"RingWord$Tape", "require", "(I)V"⟩, 7), (⟨"RingWord$Tape", "takeStation", "(LRingWord$Ring;I)V"⟩, 7), (⟨"RingWord$Tape", "placeWord", "(LRingWord$Ring;)V"⟩, 7), (⟨"RingWord$Ring", "isLonger", "(I)Z"⟩, 7), (⟨"RingWord$Ring", "come", "(I)V"⟩, 7), (⟨"RingWord", "startTrial", "()V"⟩, 8), (⟨"RingWord", "startTrialWith", "(III)V"⟩, 8), (⟨"RingWord", "tryFailing", "(II)V"⟩, 8)]
theorem lw_r1 : ∀ q ∈ lw_privs_1, lw_okq q := List.forall_mem_cons.mpr ⟨lw_p0, List.forall_mem_cons.mpr ⟨lw_p1, List.forall_mem_cons.mpr ⟨lw_p2, List.forall_mem_cons.mpr ⟨lw_p3, List.forall_mem_cons.mpr ⟨lw_p4, List.forall_mem_cons.mpr ⟨lw_p5, List.forall_mem_cons.mpr ⟨lw_p6, List.forall_mem_cons.mpr ⟨lw_p7, List.forall_mem_cons.mpr ⟨lw_p8, List.forall_mem_cons.mpr ⟨lw_p9, List.forall_mem_cons.mpr ⟨lw_p10, List.forall_mem_cons.mpr ⟨lw_p11, List.forall_mem_cons.mpr ⟨lw_p12, List.forall_mem_cons.mpr ⟨lw_p13, List.forall_mem_cons.mpr ⟨lw_p14, List.forall_mem_cons.mpr ⟨lw_p15, fun _ h => absurd h List.not_mem_nil⟩⟩⟩⟩⟩⟩⟩⟩⟩⟩⟩⟩⟩⟩⟩⟩
theorem lw_p16 : lw_okq (⟨"RingWord", "fitting", "(II)I"⟩, 8) := ⟨⟨by decide +kernel, by decide +kernel⟩, List.mem_of_getElem? (i := 16) (by decide +kernel), List.mem_of_getElem? (i := 493) (by decide +kernel), List.mem_of_getElem? (i := 494) (by decide +kernel)⟩
theorem lw_p17 : lw_okq (⟨"RingWord$Seen", "latest", "()I"⟩, 4) := ⟨⟨by decide +kernel, by decide +kernel⟩, List.mem_of_getElem? (i := 66) (by decide +kernel), List.mem_of_getElem? (i := 501) (by decide +kernel), List.mem_of_getElem? (i := 502) (by decide +kernel)⟩
theorem lw_p18 : lw_okq (⟨"RingWord$Seen", "fitsBehind", "(LRingWord$Ring;I)Z"⟩, 4) := ⟨⟨by decide +kernel, by decide +kernel⟩, List.mem_of_getElem? (i := 66) (by decide +kernel), List.mem_of_getElem? (i := 506) (by decide +kernel), List.mem_of_getElem? (i := 507) (by decide +kernel)⟩
theorem lw_p19 : lw_okq (⟨"RingWord", "lookAhead", "(II)V"⟩, 8) := ⟨⟨by decide +kernel, by decide +kernel⟩, List.mem_of_getElem? (i := 16) (by decide +kernel), List.mem_of_getElem? (i := 520) (by decide +kernel), List.mem_of_getElem? (i := 521) (by decide +kernel)⟩
theorem lw_p20 : lw_okq (⟨"RingWord", "worstLeft", "(II)I"⟩, 8) := ⟨⟨by decide +kernel, by decide +kernel⟩, List.mem_of_getElem? (i := 16) (by decide +kernel), List.mem_of_getElem? (i := 530) (by decide +kernel), List.mem_of_getElem? (i := 531) (by decide +kernel)⟩
theorem lw_p21 : lw_okq (⟨"RingWord", "alike", "(III)I"⟩, 8) := ⟨⟨by decide +kernel, by decide +kernel⟩, List.mem_of_getElem? (i := 16) (by decide +kernel), List.mem_of_getElem? (i := 534) (by decide +kernel), List.mem_of_getElem? (i := 535) (by decide +kernel)⟩
theorem lw_p22 : lw_okq (⟨"RingWord", "keptImages", "()I"⟩, 8) := ⟨⟨by decide +kernel, by decide +kernel⟩, List.mem_of_getElem? (i := 16) (by decide +kernel), List.mem_of_getElem? (i := 594) (by decide +kernel), List.mem_of_getElem? (i := 595) (by decide +kernel)⟩
theorem lw_p23 : lw_okq (⟨"RingWordModel", "firstDraft", "()V"⟩, 30) := ⟨⟨by decide +kernel, by decide +kernel⟩, List.mem_of_getElem? (i := 598) (by decide +kernel), List.mem_of_getElem? (i := 604) (by decide +kernel), List.mem_of_getElem? (i := 605) (by decide +kernel)⟩
theorem lw_p24 : lw_okq (⟨"RingWordModel", "keepDraft", "()V"⟩, 30) := ⟨⟨by decide +kernel, by decide +kernel⟩, List.mem_of_getElem? (i := 598) (by decide +kernel), List.mem_of_getElem? (i := 608) (by decide +kernel), List.mem_of_getElem? (i := 609) (by decide +kernel)⟩
theorem lw_p25 : lw_okq (⟨"RingWordModel", "reads", "()V"⟩, 30) := ⟨⟨by decide +kernel, by decide +kernel⟩, List.mem_of_getElem? (i := 598) (by decide +kernel), List.mem_of_getElem? (i := 720) (by decide +kernel), List.mem_of_getElem? (i := 721) (by decide +kernel)⟩
theorem lw_p26 : lw_okq (⟨"RingWordModel", "byteAt", "(I)I"⟩, 30) := ⟨⟨by decide +kernel, by decide +kernel⟩, List.mem_of_getElem? (i := 598) (by decide +kernel), List.mem_of_getElem? (i := 724) (by decide +kernel), List.mem_of_getElem? (i := 725) (by decide +kernel)⟩
theorem lw_p27 : lw_okq (⟨"RingWordModel", "requires", "(ZI)V"⟩, 30) := ⟨⟨by decide +kernel, by decide +kernel⟩, List.mem_of_getElem? (i := 598) (by decide +kernel), List.mem_of_getElem? (i := 732) (by decide +kernel), List.mem_of_getElem? (i := 733) (by decide +kernel)⟩
theorem lw_p28 : lw_okq (⟨"RingWordModel", "readLine", "()V"⟩, 30) := ⟨⟨by decide +kernel, by decide +kernel⟩, List.mem_of_getElem? (i := 598) (by decide +kernel), List.mem_of_getElem? (i := 736) (by decide +kernel), List.mem_of_getElem? (i := 737) (by decide +kernel)⟩
theorem lw_p29 : lw_okq (⟨"RingWordModel", "lineNow", "()I"⟩, 30) := ⟨⟨by decide +kernel, by decide +kernel⟩, List.mem_of_getElem? (i := 598) (by decide +kernel), List.mem_of_getElem? (i := 740) (by decide +kernel), List.mem_of_getElem? (i := 741) (by decide +kernel)⟩
theorem lw_p30 : lw_okq (⟨"RingWordModel", "is", "(IIIII)Z"⟩, 30) := ⟨⟨by decide +kernel, by decide +kernel⟩, List.mem_of_getElem? (i := 598) (by decide +kernel), List.mem_of_getElem? (i := 744) (by decide +kernel), List.mem_of_getElem? (i := 745) (by decide +kernel)⟩
theorem lw_p31 : lw_okq (⟨"RingWordModel", "readNumber", "(II)I"⟩, 30) := ⟨⟨by decide +kernel, by decide +kernel⟩, List.mem_of_getElem? (i := 598) (by decide +kernel), List.mem_of_getElem? (i := 748) (by decide +kernel), List.mem_of_getElem? (i := 749) (by decide +kernel)⟩
def lw_privs_2 : List (MethodName × Nat) := [(⟨"RingWord", "fitting", "(II)I"⟩, 8), (⟨"RingWord$Seen", "latest", "()I"⟩, 4), (⟨"RingWord$Seen", "fitsBehind", "(LRingWord$Ring;I)Z"⟩, 4), (⟨"RingWord", "lookAhead", "(II)V"⟩, 8), (⟨"RingWord", "worstLeft", "(II)I"⟩, 8), (⟨"RingWord", "alike", "(III)I"⟩, 8), (⟨"RingWord", "keptImages", "()I"⟩, 8), (⟨"RingWordModel", "firstDraft", "()V"⟩, 30), (⟨"RingWordModel", "keepDraft", "()V"⟩, 30), (⟨"RingWordModel", "reads", "()V"⟩, 30), (⟨"RingWordModel", "byteAt", "(I)I"⟩, 30), (⟨"RingWordModel", "requires", "(ZI)V"⟩, 30), (⟨"RingWordModel", "readLine", "()V"⟩, 30), (⟨"RingWordModel", "lineNow", "()I"⟩, 30), (⟨"RingWordModel", "is", "(IIIII)Z"⟩, 30), (⟨"RingWordModel", "readNumber", "(II)I"⟩, 30)]
theorem lw_r2 : ∀ q ∈ lw_privs_2, lw_okq q := List.forall_mem_cons.mpr ⟨lw_p16, List.forall_mem_cons.mpr ⟨lw_p17, List.forall_mem_cons.mpr ⟨lw_p18, List.forall_mem_cons.mpr ⟨lw_p19, List.forall_mem_cons.mpr ⟨lw_p20, List.forall_mem_cons.mpr ⟨lw_p21, List.forall_mem_cons.mpr ⟨lw_p22, List.forall_mem_cons.mpr ⟨lw_p23, List.forall_mem_cons.mpr ⟨lw_p24, List.forall_mem_cons.mpr ⟨lw_p25, List.forall_mem_cons.mpr ⟨lw_p26, List.forall_mem_cons.mpr ⟨lw_p27, List.forall_mem_cons.mpr ⟨lw_p28, List.forall_mem_cons.mpr ⟨lw_p29, List.forall_mem_cons.mpr ⟨lw_p30, List.forall_mem_cons.mpr ⟨lw_p31, fun _ h => absurd h List.not_mem_nil⟩⟩⟩⟩⟩⟩⟩⟩⟩⟩⟩⟩⟩⟩⟩⟩
theorem lw_p32 : lw_okq (⟨"RingWordModel", "readStation", "(I)V"⟩, 30) := ⟨⟨by decide +kernel, by decide +kernel⟩, List.mem_of_getElem? (i := 598) (by decide +kernel), List.mem_of_getElem? (i := 752) (by decide +kernel), List.mem_of_getElem? (i := 753) (by decide +kernel)⟩
theorem lw_p33 : lw_okq (⟨"RingWordModel", "starts", "()V"⟩, 30) := ⟨⟨by decide +kernel, by decide +kernel⟩, List.mem_of_getElem? (i := 598) (by decide +kernel), List.mem_of_getElem? (i := 770) (by decide +kernel), List.mem_of_getElem? (i := 771) (by decide +kernel)⟩
theorem lw_p34 : lw_okq (⟨"RingWordModel", "sumOf", "(I)I"⟩, 30) := ⟨⟨by decide +kernel, by decide +kernel⟩, List.mem_of_getElem? (i := 598) (by decide +kernel), List.mem_of_getElem? (i := 774) (by decide +kernel), List.mem_of_getElem? (i := 775) (by decide +kernel)⟩
theorem lw_p35 : lw_okq (⟨"RingWordModel", "of", "(II)I"⟩, 30) := ⟨⟨by decide +kernel, by decide +kernel⟩, List.mem_of_getElem? (i := 598) (by decide +kernel), List.mem_of_getElem? (i := 778) (by decide +kernel), List.mem_of_getElem? (i := 779) (by decide +kernel)⟩
theorem lw_p36 : lw_okq (⟨"RingWordModel", "sendsNow", "(I)I"⟩, 30) := ⟨⟨by decide +kernel, by decide +kernel⟩, List.mem_of_getElem? (i := 598) (by decide +kernel), List.mem_of_getElem? (i := 782) (by decide +kernel), List.mem_of_getElem? (i := 783) (by decide +kernel)⟩
theorem lw_p37 : lw_okq (⟨"RingWordModel", "isOutdone", "(I)Z"⟩, 30) := ⟨⟨by decide +kernel, by decide +kernel⟩, List.mem_of_getElem? (i := 598) (by decide +kernel), List.mem_of_getElem? (i := 789) (by decide +kernel), List.mem_of_getElem? (i := 790) (by decide +kernel)⟩
theorem lw_p38 : lw_okq (⟨"RingWordModel", "isStation", "(I)Z"⟩, 30) := ⟨⟨by decide +kernel, by decide +kernel⟩, List.mem_of_getElem? (i := 598) (by decide +kernel), List.mem_of_getElem? (i := 797) (by decide +kernel), List.mem_of_getElem? (i := 798) (by decide +kernel)⟩
theorem lw_p39 : lw_okq (⟨"RingWordModel", "becomes", "(II)I"⟩, 30) := ⟨⟨by decide +kernel, by decide +kernel⟩, List.mem_of_getElem? (i := 598) (by decide +kernel), List.mem_of_getElem? (i := 807) (by decide +kernel), List.mem_of_getElem? (i := 808) (by decide +kernel)⟩
theorem lw_p40 : lw_okq (⟨"RingWordModel", "comesTo", "(II)I"⟩, 30) := ⟨⟨by decide +kernel, by decide +kernel⟩, List.mem_of_getElem? (i := 598) (by decide +kernel), List.mem_of_getElem? (i := 820) (by decide +kernel), List.mem_of_getElem? (i := 821) (by decide +kernel)⟩
theorem lw_p41 : lw_okq (⟨"RingWordModel", "becomesOf", "(III)V"⟩, 30) := ⟨⟨by decide +kernel, by decide +kernel⟩, List.mem_of_getElem? (i := 598) (by decide +kernel), List.mem_of_getElem? (i := 824) (by decide +kernel), List.mem_of_getElem? (i := 825) (by decide +kernel)⟩
theorem lw_p42 : lw_okq (⟨"RingWordModel", "growsTo", "(II)V"⟩, 30) := ⟨⟨by decide +kernel, by decide +kernel⟩, List.mem_of_getElem? (i := 598) (by decide +kernel), List.mem_of_getElem? (i := 828) (by decide +kernel), List.mem_of_getElem? (i := 829) (by decide +kernel)⟩
theorem lw_p43 : lw_okq (⟨"RingWordModel", "settles", "()V"⟩, 30) := ⟨⟨by decide +kernel, by decide +kernel⟩, List.mem_of_getElem? (i := 598) (by decide +kernel), List.mem_of_getElem? (i := 833) (by decide +kernel), List.mem_of_getElem? (i := 834) (by decide +kernel)⟩
theorem lw_p44 : lw_okq (⟨"RingWordModel", "trades", "(II)V"⟩, 30) := ⟨⟨by decide +kernel, by decide +kernel⟩, List.mem_of_getElem? (i := 598) (by decide +kernel), List.mem_of_getElem? (i := 841) (by decide +kernel), List.mem_of_getElem? (i := 842) (by decide +kernel)⟩
theorem lw_p45 : lw_okq (⟨"RingWordModel", "visitsGo", "(I)V"⟩, 30) := ⟨⟨by decide +kernel, by decide +kernel⟩, List.mem_of_getElem? (i := 598) (by decide +kernel), List.mem_of_getElem? (i := 850) (by decide +kernel), List.mem_of_getElem? (i := 851) (by decide +kernel)⟩
theorem lw_p46 : lw_okq (⟨"RingWordModel", "visitGoes", "(Z)V"⟩, 30) := ⟨⟨by decide +kernel, by decide +kernel⟩, List.mem_of_getElem? (i := 598) (by decide +kernel), List.mem_of_getElem? (i := 854) (by decide +kernel), List.mem_of_getElem? (i := 855) (by decide +kernel)⟩
theorem lw_p47 : lw_okq (⟨"RingWordModel", "startsJudging", "(I)V"⟩, 30) := ⟨⟨by decide +kernel, by decide +kernel⟩, List.mem_of_getElem? (i := 598) (by decide +kernel), List.mem_of_getElem? (i := 886) (by decide +kernel), List.mem_of_getElem? (i := 887) (by decide +kernel)⟩
def lw_privs_3 : List (MethodName × Nat) := [(⟨"RingWordModel", "readStation", "(I)V"⟩, 30), (⟨"RingWordModel", "starts", "()V"⟩, 30), (⟨"RingWordModel", "sumOf", "(I)I"⟩, 30), (⟨"RingWordModel", "of", "(II)I"⟩, 30), (⟨"RingWordModel", "sendsNow", "(I)I"⟩, 30), (⟨"RingWordModel", "isOutdone", "(I)Z"⟩, 30), (⟨"RingWordModel", "isStation", "(I)Z"⟩, 30), (⟨"RingWordModel", "becomes", "(II)I"⟩, 30), (⟨"RingWordModel", "comesTo", "(II)I"⟩, 30), (⟨"RingWordModel", "becomesOf", "(III)V"⟩, 30), (⟨"RingWordModel", "growsTo", "(II)V"⟩, 30), (⟨"RingWordModel", "settles", "()V"⟩, 30), (⟨"RingWordModel", "trades", "(II)V"⟩, 30), (⟨"RingWordModel", "visitsGo", "(I)V"⟩, 30), (⟨"RingWordModel", "visitGoes", "(Z)V"⟩, 30), (⟨"RingWordModel", "startsJudging", "(I)V"⟩, 30)]
theorem lw_r3 : ∀ q ∈ lw_privs_3, lw_okq q := List.forall_mem_cons.mpr ⟨lw_p32, List.forall_mem_cons.mpr ⟨lw_p33, List.forall_mem_cons.mpr ⟨lw_p34, List.forall_mem_cons.mpr ⟨lw_p35, List.forall_mem_cons.mpr ⟨lw_p36, List.forall_mem_cons.mpr ⟨lw_p37, List.forall_mem_cons.mpr ⟨lw_p38, List.forall_mem_cons.mpr ⟨lw_p39, List.forall_mem_cons.mpr ⟨lw_p40, List.forall_mem_cons.mpr ⟨lw_p41, List.forall_mem_cons.mpr ⟨lw_p42, List.forall_mem_cons.mpr ⟨lw_p43, List.forall_mem_cons.mpr ⟨lw_p44, List.forall_mem_cons.mpr ⟨lw_p45, List.forall_mem_cons.mpr ⟨lw_p46, List.forall_mem_cons.mpr ⟨lw_p47, fun _ h => absurd h List.not_mem_nil⟩⟩⟩⟩⟩⟩⟩⟩⟩⟩⟩⟩⟩⟩⟩⟩
theorem lw_p48 : lw_okq (⟨"RingWordModel", "judges", "(II)V"⟩, 30) := ⟨⟨by decide +kernel, by decide +kernel⟩, List.mem_of_getElem? (i := 598) (by decide +kernel), List.mem_of_getElem? (i := 890) (by decide +kernel), List.mem_of_getElem? (i := 891) (by decide +kernel)⟩
theorem lw_p49 : lw_okq (⟨"RingWordModel", "judgedMore", "(I)I"⟩, 30) := ⟨⟨by decide +kernel, by decide +kernel⟩, List.mem_of_getElem? (i := 598) (by decide +kernel), List.mem_of_getElem? (i := 894) (by decide +kernel), List.mem_of_getElem? (i := 895) (by decide +kernel)⟩
theorem lw_p50 : lw_okq (⟨"RingWordModel", "judged", "(I)I"⟩, 30) := ⟨⟨by decide +kernel, by decide +kernel⟩, List.mem_of_getElem? (i := 598) (by decide +kernel), List.mem_of_getElem? (i := 903) (by decide +kernel), List.mem_of_getElem? (i := 904) (by decide +kernel)⟩
theorem lw_p51 : lw_okq (⟨"RingWordModel", "findOdds", "(IIII)V"⟩, 30) := ⟨⟨by decide +kernel, by decide +kernel⟩, List.mem_of_getElem? (i := 598) (by decide +kernel), List.mem_of_getElem? (i := 926) (by decide +kernel), List.mem_of_getElem? (i := 927) (by decide +kernel)⟩
theorem lw_p52 : lw_okq (⟨"RingWordModel", "which", "(II)I"⟩, 30) := ⟨⟨by decide +kernel, by decide +kernel⟩, List.mem_of_getElem? (i := 598) (by decide +kernel), List.mem_of_getElem? (i := 953) (by decide +kernel), List.mem_of_getElem? (i := 954) (by decide +kernel)⟩
theorem lw_p53 : lw_okq (⟨"RingWordModel", "isSoWith", "(II)Z"⟩, 30) := ⟨⟨by decide +kernel, by decide +kernel⟩, List.mem_of_getElem? (i := 598) (by decide +kernel), List.mem_of_getElem? (i := 957) (by decide +kernel), List.mem_of_getElem? (i := 958) (by decide +kernel)⟩
theorem lw_p54 : lw_okq (⟨"RingWordModel", "copies", "(II)V"⟩, 30) := ⟨⟨by decide +kernel, by decide +kernel⟩, List.mem_of_getElem? (i := 598) (by decide +kernel), List.mem_of_getElem? (i := 978) (by decide +kernel), List.mem_of_getElem? (i := 979) (by decide +kernel)⟩
def lw_privs_4 : List (MethodName × Nat) := [(⟨"RingWordModel", "judges", "(II)V"⟩, 30), (⟨"RingWordModel", "judgedMore", "(I)I"⟩, 30), (⟨"RingWordModel", "judged", "(I)I"⟩, 30), (⟨"RingWordModel", "findOdds", "(IIII)V"⟩, 30), (⟨"RingWordModel", "which", "(II)I"⟩, 30), (⟨"RingWordModel", "isSoWith", "(II)Z"⟩, 30), (⟨"RingWordModel", "copies", "(II)V"⟩, 30)]
theorem lw_r4 : ∀ q ∈ lw_privs_4, lw_okq q := List.forall_mem_cons.mpr ⟨lw_p48, List.forall_mem_cons.mpr ⟨lw_p49, List.forall_mem_cons.mpr ⟨lw_p50, List.forall_mem_cons.mpr ⟨lw_p51, List.forall_mem_cons.mpr ⟨lw_p52, List.forall_mem_cons.mpr ⟨lw_p53, List.forall_mem_cons.mpr ⟨lw_p54, fun _ h => absurd h List.not_mem_nil⟩⟩⟩⟩⟩⟩⟩
def lw_privs : List (MethodName × Nat) := lw_privs_1 ++ (lw_privs_2 ++ (lw_privs_3 ++ (lw_privs_4)))
def lw_tbl : List Cond := k2_sels lw_privs ++ tables_1
theorem lw_privs_ok : ∀ q ∈ lw_privs, lw_okq q := by
  show ∀ q ∈ lw_privs_1 ++ (lw_privs_2 ++ (lw_privs_3 ++ (lw_privs_4))), lw_okq q
  exact List.forall_mem_append.mpr ⟨lw_r1, List.forall_mem_append.mpr ⟨lw_r2, List.forall_mem_append.mpr ⟨lw_r3, lw_r4⟩⟩⟩

-- names: classes, fields, methods
def RX0 : String := "RingWord$Image"
def TX0 : u_T := fun k => match k with
  | 0 => ("RingWord$Image", "ring", "LRingWord$Ring;", true)
  | 1 => ("RingWord$Image", "seen", "LRingWord$Seen;", true)
  | _ => ("RingWord$Image", "kept", "Z", false)
def tyX0 : Nat → FieldType := fun k => match k with
  | 0 => .object "RingWord$Ring"
  | 1 => .object "RingWord$Seen"
  | _ => .boolean
abbrev wsX00 : List Cond := u_ws RX0 TX0 3
theorem nmX0 : ∀ a, a < 3 → ∀ b, b < 3 → a ≠ b → (TX0 a).2.1 ≠ (TX0 b).2.1 := by decide +kernel
theorem tyX0_ok : ∀ k, k < 3 → parseFieldDescriptor (TX0 k).2.2.1 = some (tyX0 k) := by decide +kernel
abbrev cX0_init : ByteArray := prog_2_method_1_code
def yX0_init : MethodName := ⟨RX0, "<init>", "()V"⟩
def RX1 : String := "RingWord$Ring"
def TX1 : u_T := fun k => match k with
  | 0 => ("RingWord$Ring", "rows", "[[I", true)
  | 1 => ("RingWord$Ring", "stations", "I", false)
  | 2 => ("RingWord$Ring", "word", "I", false)
  | 3 => ("RingWord$Ring", "time", "I", false)
  | 4 => ("RingWord$Ring", "visited", "I", false)
  | 5 => ("RingWord$Ring", "sent", "I", false)
  | _ => ("RingWord$Ring", "lost", "I", false)
def tyX1 : Nat → FieldType := fun k => match k with
  | 0 => .array (.array .int)
  | 1 => .int
  | 2 => .int
  | 3 => .int
  | 4 => .int
  | 5 => .int
  | _ => .int
abbrev wsX10 : List Cond := u_ws RX1 TX1 7
theorem nmX1 : ∀ a, a < 7 → ∀ b, b < 7 → a ≠ b → (TX1 a).2.1 ≠ (TX1 b).2.1 := by decide +kernel
theorem tyX1_ok : ∀ k, k < 7 → parseFieldDescriptor (TX1 k).2.2.1 = some (tyX1 k) := by decide +kernel
abbrev cX1_init : ByteArray := prog_3_method_1_code
def yX1_init : MethodName := ⟨RX1, "<init>", "()V"⟩
abbrev cX1_clear : ByteArray := prog_3_method_2_code
def yX1_clear : MethodName := ⟨RX1, "clear", "()V"⟩
abbrev cX1_copyFrom : ByteArray := prog_3_method_3_code
def yX1_copyFrom : MethodName := ⟨RX1, "copyFrom", "(LRingWord$Ring;)V"⟩
abbrev cX1_has : ByteArray := prog_3_method_4_code
def yX1_has : MethodName := ⟨RX1, "has", "(I)Z"⟩
abbrev cX1_takes : ByteArray := prog_3_method_5_code
def yX1_takes : MethodName := ⟨RX1, "takes", "(II)Z"⟩
abbrev cX1_total : ByteArray := prog_3_method_6_code
def yX1_total : MethodName := ⟨RX1, "total", "(I)I"⟩
abbrev cX1_exchange : ByteArray := prog_3_method_7_code
def yX1_exchange : MethodName := ⟨RX1, "exchange", "(II)V"⟩
abbrev cX1_due : ByteArray := prog_3_method_8_code
def yX1_due : MethodName := ⟨RX1, "due", "()I"⟩
abbrev cX1_isLonger : ByteArray := prog_3_method_9_code
def yX1_isLonger : MethodName := ⟨RX1, "isLonger", "(I)Z"⟩
abbrev cX1_go : ByteArray := prog_3_method_10_code
def yX1_go : MethodName := ⟨RX1, "go", "(I)V"⟩
abbrev cX1_visit : ByteArray := prog_3_method_11_code
def yX1_visit : MethodName := ⟨RX1, "visit", "(Z)I"⟩
abbrev cX1_come : ByteArray := prog_3_method_12_code
def yX1_come : MethodName := ⟨RX1, "come", "(I)V"⟩
abbrev cX1_add : ByteArray := prog_3_method_13_code
def yX1_add : MethodName := ⟨RX1, "add", "(II)I"⟩
abbrev cX1_cut : ByteArray := prog_3_method_14_code
def yX1_cut : MethodName := ⟨RX1, "cut", "()V"⟩
def RX2 : String := "RingWord$Seen"
def TX2 : u_T := fun k => match k with
  | 0 => ("RingWord$Seen", "behind", "[I", true)
  | 1 => ("RingWord$Seen", "who", "[I", true)
  | 2 => ("RingWord$Seen", "queue", "[I", true)
  | _ => ("RingWord$Seen", "many", "I", false)
def tyX2 : Nat → FieldType := fun k => match k with
  | 0 => .array .int
  | 1 => .array .int
  | 2 => .array .int
  | _ => .int
abbrev wsX20 : List Cond := u_ws RX2 TX2 4
theorem nmX2 : ∀ a, a < 4 → ∀ b, b < 4 → a ≠ b → (TX2 a).2.1 ≠ (TX2 b).2.1 := by decide +kernel
theorem tyX2_ok : ∀ k, k < 4 → parseFieldDescriptor (TX2 k).2.2.1 = some (tyX2 k) := by decide +kernel
abbrev cX2_init : ByteArray := prog_4_method_1_code
def yX2_init : MethodName := ⟨RX2, "<init>", "()V"⟩
abbrev cX2_add : ByteArray := prog_4_method_2_code
def yX2_add : MethodName := ⟨RX2, "add", "(III)V"⟩
abbrev cX2_copyFrom : ByteArray := prog_4_method_3_code
def yX2_copyFrom : MethodName := ⟨RX2, "copyFrom", "(LRingWord$Seen;)V"⟩
abbrev cX2_fits : ByteArray := prog_4_method_4_code
def yX2_fits : MethodName := ⟨RX2, "fits", "(LRingWord$Ring;)Z"⟩
abbrev cX2_latest : ByteArray := prog_4_method_5_code
def yX2_latest : MethodName := ⟨RX2, "latest", "()I"⟩
abbrev cX2_fitsBehind : ByteArray := prog_4_method_6_code
def yX2_fitsBehind : MethodName := ⟨RX2, "fitsBehind", "(LRingWord$Ring;I)Z"⟩
def RX3 : String := "RingWord$Sheet"
def TX3 : u_T := fun k => match k with
  | 0 => ("RingWord$Sheet", "cells", "[I", true)
  | 1 => ("RingWord$Sheet", "lane", "I", false)
  | _ => ("RingWord$Sheet", "size", "I", false)
def tyX3 : Nat → FieldType := fun k => match k with
  | 0 => .array .int
  | 1 => .int
  | _ => .int
abbrev wsX30 : List Cond := u_ws RX3 TX3 3
theorem nmX3 : ∀ a, a < 3 → ∀ b, b < 3 → a ≠ b → (TX3 a).2.1 ≠ (TX3 b).2.1 := by decide +kernel
theorem tyX3_ok : ∀ k, k < 3 → parseFieldDescriptor (TX3 k).2.2.1 = some (tyX3 k) := by decide +kernel
abbrev cX3_init : ByteArray := prog_5_method_1_code
def yX3_init : MethodName := ⟨RX3, "<init>", "()V"⟩
abbrev cX3_renew : ByteArray := prog_5_method_2_code
def yX3_renew : MethodName := ⟨RX3, "renew", "(II)V"⟩
abbrev cX3_write : ByteArray := prog_5_method_3_code
def yX3_write : MethodName := ⟨RX3, "write", "(II)V"⟩
abbrev cX3_faultAt : ByteArray := prog_5_method_4_code
def yX3_faultAt : MethodName := ⟨RX3, "faultAt", "(II)I"⟩
abbrev cX3_faultOfPair : ByteArray := prog_5_method_5_code
def yX3_faultOfPair : MethodName := ⟨RX3, "faultOfPair", "(II)I"⟩
def RX4 : String := "RingWord$Tape"
def TX4 : u_T := fun k => match k with
  | 0 => ("RingWord$Tape", "bytes", "[B", true)
  | 1 => ("RingWord$Tape", "length", "I", false)
  | 2 => ("RingWord$Tape", "fault", "I", false)
  | 3 => ("RingWord$Tape", "place", "I", false)
  | 4 => ("RingWord$Tape", "next", "I", false)
  | 5 => ("RingWord$Tape", "sort", "I", false)
  | _ => ("RingWord$Tape", "from", "I", false)
def tyX4 : Nat → FieldType := fun k => match k with
  | 0 => .array .byte
  | 1 => .int
  | 2 => .int
  | 3 => .int
  | 4 => .int
  | 5 => .int
  | _ => .int
abbrev wsX40 : List Cond := u_ws RX4 TX4 7
theorem nmX4 : ∀ a, a < 7 → ∀ b, b < 7 → a ≠ b → (TX4 a).2.1 ≠ (TX4 b).2.1 := by decide +kernel
theorem tyX4_ok : ∀ k, k < 7 → parseFieldDescriptor (TX4 k).2.2.1 = some (tyX4 k) := by decide +kernel
abbrev cX4_init : ByteArray := prog_6_method_1_code
def yX4_init : MethodName := ⟨RX4, "<init>", "()V"⟩
abbrev cX4_tellAll : ByteArray := prog_6_method_2_code
def yX4_tellAll : MethodName := ⟨RX4, "tellAll", "(LRingWord$Ring;)I"⟩
abbrev cX4_placeWord : ByteArray := prog_6_method_3_code
def yX4_placeWord : MethodName := ⟨RX4, "placeWord", "(LRingWord$Ring;)V"⟩
abbrev cX4_takeLine : ByteArray := prog_6_method_4_code
def yX4_takeLine : MethodName := ⟨RX4, "takeLine", "(LRingWord$Ring;)V"⟩
abbrev cX4_takeWord : ByteArray := prog_6_method_5_code
def yX4_takeWord : MethodName := ⟨RX4, "takeWord", "(LRingWord$Ring;)V"⟩
abbrev cX4_takeStation : ByteArray := prog_6_method_6_code
def yX4_takeStation : MethodName := ⟨RX4, "takeStation", "(LRingWord$Ring;I)V"⟩
abbrev cX4_lineBegun : ByteArray := prog_6_method_7_code
def yX4_lineBegun : MethodName := ⟨RX4, "lineBegun", "()I"⟩
abbrev cX4_isNamed : ByteArray := prog_6_method_8_code
def yX4_isNamed : MethodName := ⟨RX4, "isNamed", "(Ljava/lang/String;)Z"⟩
abbrev cX4_takeNumber : ByteArray := prog_6_method_9_code
def yX4_takeNumber : MethodName := ⟨RX4, "takeNumber", "(II)I"⟩
abbrev cX4_require : ByteArray := prog_6_method_10_code
def yX4_require : MethodName := ⟨RX4, "require", "(I)V"⟩
abbrev cX4_advance : ByteArray := prog_6_method_11_code
def yX4_advance : MethodName := ⟨RX4, "advance", "()V"⟩
abbrev cX4_sortAt : ByteArray := prog_6_method_12_code
def yX4_sortAt : MethodName := ⟨RX4, "sortAt", "(I)I"⟩
abbrev cX4_blame : ByteArray := prog_6_method_13_code
def yX4_blame : MethodName := ⟨RX4, "blame", "(II)V"⟩
def RX5 : String := "RingWord"
def TX5 : u_T := fun k => match k with
  | 0 => ("RingWord", "ring", "LRingWord$Ring;", true)
  | 1 => ("RingWord", "trial", "LRingWord$Ring;", true)
  | 2 => ("RingWord", "seen", "LRingWord$Seen;", true)
  | 3 => ("RingWord", "tape", "LRingWord$Tape;", true)
  | 4 => ("RingWord", "images", "[LRingWord$Image;", true)
  | 5 => ("RingWord", "sheets", "[LRingWord$Sheet;", true)
  | 6 => ("RingWord", "looks", "[[I", true)
  | _ => ("RingWord", "torn", "I", false)
def tyX5 : Nat → FieldType := fun k => match k with
  | 0 => .object "RingWord$Ring"
  | 1 => .object "RingWord$Ring"
  | 2 => .object "RingWord$Seen"
  | 3 => .object "RingWord$Tape"
  | 4 => .array (.object "RingWord$Image")
  | 5 => .array (.object "RingWord$Sheet")
  | 6 => .array (.array .int)
  | _ => .int
abbrev wsX50 : List Cond := u_ws RX5 TX5 8
theorem nmX5 : ∀ a, a < 8 → ∀ b, b < 8 → a ≠ b → (TX5 a).2.1 ≠ (TX5 b).2.1 := by decide +kernel
theorem tyX5_ok : ∀ k, k < 8 → parseFieldDescriptor (TX5 k).2.2.1 = some (tyX5 k) := by decide +kernel
abbrev cX5_init : ByteArray := prog_1_method_1_code
def yX5_init : MethodName := ⟨RX5, "<init>", "()V"⟩
abbrev cX5_feed : ByteArray := prog_1_method_2_code
def yX5_feed : MethodName := ⟨RX5, "feed", "(I)I"⟩
abbrev cX5_end : ByteArray := prog_1_method_3_code
def yX5_end : MethodName := ⟨RX5, "end", "(I)I"⟩
abbrev cX5_text : ByteArray := prog_1_method_4_code
def yX5_text : MethodName := ⟨RX5, "text", "()I"⟩
abbrev cX5_fault : ByteArray := prog_1_method_5_code
def yX5_fault : MethodName := ⟨RX5, "fault", "()I"⟩
abbrev cX5_rule : ByteArray := prog_1_method_6_code
def yX5_rule : MethodName := ⟨RX5, "rule", "(I)I"⟩
abbrev cX5_station : ByteArray := prog_1_method_7_code
def yX5_station : MethodName := ⟨RX5, "station", "(II)I"⟩
abbrev cX5_alter : ByteArray := prog_1_method_8_code
def yX5_alter : MethodName := ⟨RX5, "alter", "(III)I"⟩
abbrev cX5_give : ByteArray := prog_1_method_9_code
def yX5_give : MethodName := ⟨RX5, "give", "(I)I"⟩
abbrev cX5_post : ByteArray := prog_1_method_10_code
def yX5_post : MethodName := ⟨RX5, "post", "(II)I"⟩
abbrev cX5_change : ByteArray := prog_1_method_11_code
def yX5_change : MethodName := ⟨RX5, "change", "(II)I"⟩
abbrev cX5_visits : ByteArray := prog_1_method_12_code
def yX5_visits : MethodName := ⟨RX5, "visits", "(I)I"⟩
abbrev cX5_runs : ByteArray := prog_1_method_13_code
def yX5_runs : MethodName := ⟨RX5, "runs", "(II)I"⟩
abbrev cX5_ahead : ByteArray := prog_1_method_14_code
def yX5_ahead : MethodName := ⟨RX5, "ahead", "(III)I"⟩
abbrev cX5_when : ByteArray := prog_1_method_15_code
def yX5_when : MethodName := ⟨RX5, "when", "(I)I"⟩
abbrev cX5_kind : ByteArray := prog_1_method_16_code
def yX5_kind : MethodName := ⟨RX5, "kind", "(III)I"⟩
abbrev cX5_hold : ByteArray := prog_1_method_17_code
def yX5_hold : MethodName := ⟨RX5, "hold", "(III)I"⟩
abbrev cX5_swap : ByteArray := prog_1_method_18_code
def yX5_swap : MethodName := ⟨RX5, "swap", "(II)I"⟩
abbrev cX5_pass : ByteArray := prog_1_method_19_code
def yX5_pass : MethodName := ⟨RX5, "pass", "(II)I"⟩
abbrev cX5_begin : ByteArray := prog_1_method_20_code
def yX5_begin : MethodName := ⟨RX5, "begin", "(II)I"⟩
abbrev cX5_luck : ByteArray := prog_1_method_21_code
def yX5_luck : MethodName := ⟨RX5, "luck", "(IIIII)J"⟩
abbrev cX5_mean : ByteArray := prog_1_method_22_code
def yX5_mean : MethodName := ⟨RX5, "mean", "(III)J"⟩
abbrev cX5_see : ByteArray := prog_1_method_23_code
def yX5_see : MethodName := ⟨RX5, "see", "(III)I"⟩
abbrev cX5_forget : ByteArray := prog_1_method_24_code
def yX5_forget : MethodName := ⟨RX5, "forget", "(I)I"⟩
abbrev cX5_kinds : ByteArray := prog_1_method_25_code
def yX5_kinds : MethodName := ⟨RX5, "kinds", "(I)I"⟩
abbrev cX5_gains : ByteArray := prog_1_method_26_code
def yX5_gains : MethodName := ⟨RX5, "gains", "(I)I"⟩
abbrev cX5_ask : ByteArray := prog_1_method_27_code
def yX5_ask : MethodName := ⟨RX5, "ask", "(II)I"⟩
abbrev cX5_drift : ByteArray := prog_1_method_28_code
def yX5_drift : MethodName := ⟨RX5, "drift", "(III)I"⟩
abbrev cX5_keep : ByteArray := prog_1_method_29_code
def yX5_keep : MethodName := ⟨RX5, "keep", "(I)I"⟩
abbrev cX5_back : ByteArray := prog_1_method_30_code
def yX5_back : MethodName := ⟨RX5, "back", "(I)I"⟩
abbrev cX5_sheet : ByteArray := prog_1_method_31_code
def yX5_sheet : MethodName := ⟨RX5, "sheet", "(III)I"⟩
abbrev cX5_lay : ByteArray := prog_1_method_32_code
def yX5_lay : MethodName := ⟨RX5, "lay", "(III)I"⟩
abbrev cX5_read : ByteArray := prog_1_method_33_code
def yX5_read : MethodName := ⟨RX5, "read", "(IIII)I"⟩
abbrev cX5_torn : ByteArray := prog_1_method_34_code
def yX5_torn : MethodName := ⟨RX5, "torn", "()I"⟩
abbrev cX5_count : ByteArray := prog_1_method_35_code
def yX5_count : MethodName := ⟨RX5, "count", "(I)I"⟩
abbrev cX5_isOutside : ByteArray := prog_1_method_36_code
def yX5_isOutside : MethodName := ⟨RX5, "isOutside", "(III)Z"⟩
abbrev cX5_startTrial : ByteArray := prog_1_method_37_code
def yX5_startTrial : MethodName := ⟨RX5, "startTrial", "()V"⟩
abbrev cX5_startTrialWith : ByteArray := prog_1_method_38_code
def yX5_startTrialWith : MethodName := ⟨RX5, "startTrialWith", "(III)V"⟩
abbrev cX5_chanceOf : ByteArray := prog_1_method_39_code
def yX5_chanceOf : MethodName := ⟨RX5, "chanceOf", "(III)J"⟩
abbrev cX5_isFailing : ByteArray := prog_1_method_40_code
def yX5_isFailing : MethodName := ⟨RX5, "isFailing", "(II)Z"⟩
abbrev cX5_tryFailing : ByteArray := prog_1_method_41_code
def yX5_tryFailing : MethodName := ⟨RX5, "tryFailing", "(II)V"⟩
abbrev cX5_partOfFraction : ByteArray := prog_1_method_42_code
def yX5_partOfFraction : MethodName := ⟨RX5, "partOfFraction", "(JII)J"⟩
abbrev cX5_commonDivisor : ByteArray := prog_1_method_43_code
def yX5_commonDivisor : MethodName := ⟨RX5, "commonDivisor", "(JJ)J"⟩
abbrev cX5_fitting : ByteArray := prog_1_method_44_code
def yX5_fitting : MethodName := ⟨RX5, "fitting", "(II)I"⟩
abbrev cX5_lookAhead : ByteArray := prog_1_method_45_code
def yX5_lookAhead : MethodName := ⟨RX5, "lookAhead", "(II)V"⟩
abbrev cX5_worstLeft : ByteArray := prog_1_method_46_code
def yX5_worstLeft : MethodName := ⟨RX5, "worstLeft", "(II)I"⟩
abbrev cX5_alike : ByteArray := prog_1_method_47_code
def yX5_alike : MethodName := ⟨RX5, "alike", "(III)I"⟩
abbrev cX5_keptImages : ByteArray := prog_1_method_48_code
def yX5_keptImages : MethodName := ⟨RX5, "keptImages", "()I"⟩
def RX6 : String := "RingWordModel"
def TX6 : u_T := fun k => match k with
  | 0 => ("RingWordModel", "st", "[I", true)
  | 1 => ("RingWordModel", "now", "[I", true)
  | 2 => ("RingWordModel", "isKept", "[Z", true)
  | 3 => ("RingWordModel", "draft", "[I", true)
  | 4 => ("RingWordModel", "hasWord", "Z", false)
  | 5 => ("RingWordModel", "tape", "[I", true)
  | 6 => ("RingWordModel", "taped", "I", false)
  | 7 => ("RingWordModel", "pos", "I", false)
  | 8 => ("RingWordModel", "begun", "I", false)
  | 9 => ("RingWordModel", "sort", "I", false)
  | 10 => ("RingWordModel", "value", "I", false)
  | 11 => ("RingWordModel", "fault", "I", false)
  | 12 => ("RingWordModel", "wrongAt", "I", false)
  | 13 => ("RingWordModel", "passed", "I", false)
  | 14 => ("RingWordModel", "sentMany", "I", false)
  | 15 => ("RingWordModel", "timeGone", "I", false)
  | 16 => ("RingWordModel", "lostMany", "I", false)
  | 17 => ("RingWordModel", "sentBy", "[I", true)
  | 18 => ("RingWordModel", "bestCode", "I", false)
  | 19 => ("RingWordModel", "bestMuch", "I", false)
  | 20 => ("RingWordModel", "shortSum", "J", false)
  | 21 => ("RingWordModel", "sentSum", "J", false)
  | 22 => ("RingWordModel", "allWays", "J", false)
  | 23 => ("RingWordModel", "queues", "[I", true)
  | 24 => ("RingWordModel", "byGain", "[I", true)
  | 25 => ("RingWordModel", "lanes", "[I", true)
  | 26 => ("RingWordModel", "sizes", "[I", true)
  | 27 => ("RingWordModel", "cells", "[I", true)
  | 28 => ("RingWordModel", "torn", "I", false)
  | _ => ("RingWordModel", "before", "[I", true)
def tyX6 : Nat → FieldType := fun k => match k with
  | 0 => .array .int
  | 1 => .array .int
  | 2 => .array .boolean
  | 3 => .array .int
  | 4 => .boolean
  | 5 => .array .int
  | 6 => .int
  | 7 => .int
  | 8 => .int
  | 9 => .int
  | 10 => .int
  | 11 => .int
  | 12 => .int
  | 13 => .int
  | 14 => .int
  | 15 => .int
  | 16 => .int
  | 17 => .array .int
  | 18 => .int
  | 19 => .int
  | 20 => .long
  | 21 => .long
  | 22 => .long
  | 23 => .array .int
  | 24 => .array .int
  | 25 => .array .int
  | 26 => .array .int
  | 27 => .array .int
  | 28 => .int
  | _ => .array .int
abbrev wsX60 : List Cond := u_ws RX6 TX6 30
theorem nmX6 : ∀ a, a < 30 → ∀ b, b < 30 → a ≠ b → (TX6 a).2.1 ≠ (TX6 b).2.1 := by decide +kernel
theorem tyX6_ok : ∀ k, k < 30 → parseFieldDescriptor (TX6 k).2.2.1 = some (tyX6 k) := by decide +kernel
abbrev cX6_init : ByteArray := prog_8_method_1_code
def yX6_init : MethodName := ⟨RX6, "<init>", "()V"⟩
abbrev cX6_in : ByteArray := prog_8_method_3_code
def yX6_in : MethodName := ⟨RX6, "in", "(JJJ)Z"⟩
abbrev cX6_flag : ByteArray := prog_8_method_4_code
def yX6_flag : MethodName := ⟨RX6, "flag", "(Z)I"⟩
abbrev cX6_lesser : ByteArray := prog_8_method_5_code
def yX6_lesser : MethodName := ⟨RX6, "lesser", "(II)I"⟩
abbrev cX6_firstDraft : ByteArray := prog_8_method_6_code
def yX6_firstDraft : MethodName := ⟨RX6, "firstDraft", "()V"⟩
abbrev cX6_keepDraft : ByteArray := prog_8_method_7_code
def yX6_keepDraft : MethodName := ⟨RX6, "keepDraft", "()V"⟩
abbrev cX6_feed : ByteArray := prog_8_method_8_code
def yX6_feed : MethodName := ⟨RX6, "feed", "(I)I"⟩
abbrev cX6_end : ByteArray := prog_8_method_9_code
def yX6_end : MethodName := ⟨RX6, "end", "(I)I"⟩
abbrev cX6_requires : ByteArray := prog_8_method_10_code
def yX6_requires : MethodName := ⟨RX6, "requires", "(ZI)V"⟩
abbrev cX6_byteAt : ByteArray := prog_8_method_11_code
def yX6_byteAt : MethodName := ⟨RX6, "byteAt", "(I)I"⟩
abbrev cX6_is : ByteArray := prog_8_method_12_code
def yX6_is : MethodName := ⟨RX6, "is", "(IIIII)Z"⟩
abbrev cX6_lineNow : ByteArray := prog_8_method_13_code
def yX6_lineNow : MethodName := ⟨RX6, "lineNow", "()I"⟩
abbrev cX6_reads : ByteArray := prog_8_method_14_code
def yX6_reads : MethodName := ⟨RX6, "reads", "()V"⟩
abbrev cX6_readNumber : ByteArray := prog_8_method_15_code
def yX6_readNumber : MethodName := ⟨RX6, "readNumber", "(II)I"⟩
abbrev cX6_lowOf : ByteArray := prog_8_method_16_code
def yX6_lowOf : MethodName := ⟨RX6, "lowOf", "(I)I"⟩
abbrev cX6_mostOf : ByteArray := prog_8_method_17_code
def yX6_mostOf : MethodName := ⟨RX6, "mostOf", "(I)I"⟩
abbrev cX6_readStation : ByteArray := prog_8_method_18_code
def yX6_readStation : MethodName := ⟨RX6, "readStation", "(I)V"⟩
abbrev cX6_readLine : ByteArray := prog_8_method_19_code
def yX6_readLine : MethodName := ⟨RX6, "readLine", "()V"⟩
abbrev cX6_text : ByteArray := prog_8_method_20_code
def yX6_text : MethodName := ⟨RX6, "text", "()I"⟩
abbrev cX6_fault : ByteArray := prog_8_method_21_code
def yX6_fault : MethodName := ⟨RX6, "fault", "()I"⟩
abbrev cX6_isStation : ByteArray := prog_8_method_22_code
def yX6_isStation : MethodName := ⟨RX6, "isStation", "(I)Z"⟩
abbrev cX6_isPart : ByteArray := prog_8_method_23_code
def yX6_isPart : MethodName := ⟨RX6, "isPart", "(I)Z"⟩
abbrev cX6_starts : ByteArray := prog_8_method_24_code
def yX6_starts : MethodName := ⟨RX6, "starts", "()V"⟩
abbrev cX6_settles : ByteArray := prog_8_method_25_code
def yX6_settles : MethodName := ⟨RX6, "settles", "()V"⟩
abbrev cX6_of : ByteArray := prog_8_method_26_code
def yX6_of : MethodName := ⟨RX6, "of", "(II)I"⟩
abbrev cX6_becomesOf : ByteArray := prog_8_method_27_code
def yX6_becomesOf : MethodName := ⟨RX6, "becomesOf", "(III)V"⟩
abbrev cX6_growsTo : ByteArray := prog_8_method_28_code
def yX6_growsTo : MethodName := ⟨RX6, "growsTo", "(II)V"⟩
abbrev cX6_isOutdone : ByteArray := prog_8_method_29_code
def yX6_isOutdone : MethodName := ⟨RX6, "isOutdone", "(I)Z"⟩
abbrev cX6_sendsNow : ByteArray := prog_8_method_30_code
def yX6_sendsNow : MethodName := ⟨RX6, "sendsNow", "(I)I"⟩
abbrev cX6_comesTo : ByteArray := prog_8_method_31_code
def yX6_comesTo : MethodName := ⟨RX6, "comesTo", "(II)I"⟩
abbrev cX6_visitGoes : ByteArray := prog_8_method_32_code
def yX6_visitGoes : MethodName := ⟨RX6, "visitGoes", "(Z)V"⟩
abbrev cX6_visitsGo : ByteArray := prog_8_method_33_code
def yX6_visitsGo : MethodName := ⟨RX6, "visitsGo", "(I)V"⟩
abbrev cX6_sumOf : ByteArray := prog_8_method_34_code
def yX6_sumOf : MethodName := ⟨RX6, "sumOf", "(I)I"⟩
abbrev cX6_rule : ByteArray := prog_8_method_35_code
def yX6_rule : MethodName := ⟨RX6, "rule", "(I)I"⟩
abbrev cX6_station : ByteArray := prog_8_method_36_code
def yX6_station : MethodName := ⟨RX6, "station", "(II)I"⟩
abbrev cX6_becomes : ByteArray := prog_8_method_37_code
def yX6_becomes : MethodName := ⟨RX6, "becomes", "(II)I"⟩
abbrev cX6_alter : ByteArray := prog_8_method_38_code
def yX6_alter : MethodName := ⟨RX6, "alter", "(III)I"⟩
abbrev cX6_give : ByteArray := prog_8_method_39_code
def yX6_give : MethodName := ⟨RX6, "give", "(I)I"⟩
abbrev cX6_post : ByteArray := prog_8_method_40_code
def yX6_post : MethodName := ⟨RX6, "post", "(II)I"⟩
abbrev cX6_trades : ByteArray := prog_8_method_41_code
def yX6_trades : MethodName := ⟨RX6, "trades", "(II)V"⟩
abbrev cX6_change : ByteArray := prog_8_method_42_code
def yX6_change : MethodName := ⟨RX6, "change", "(II)I"⟩
abbrev cX6_visits : ByteArray := prog_8_method_43_code
def yX6_visits : MethodName := ⟨RX6, "visits", "(I)I"⟩
abbrev cX6_isFar : ByteArray := prog_8_method_44_code
def yX6_isFar : MethodName := ⟨RX6, "isFar", "(I)Z"⟩
abbrev cX6_runs : ByteArray := prog_8_method_45_code
def yX6_runs : MethodName := ⟨RX6, "runs", "(II)I"⟩
abbrev cX6_ahead : ByteArray := prog_8_method_46_code
def yX6_ahead : MethodName := ⟨RX6, "ahead", "(III)I"⟩
abbrev cX6_when : ByteArray := prog_8_method_47_code
def yX6_when : MethodName := ⟨RX6, "when", "(I)I"⟩
abbrev cX6_startsJudging : ByteArray := prog_8_method_48_code
def yX6_startsJudging : MethodName := ⟨RX6, "startsJudging", "(I)V"⟩
abbrev cX6_judges : ByteArray := prog_8_method_49_code
def yX6_judges : MethodName := ⟨RX6, "judges", "(II)V"⟩
abbrev cX6_judged : ByteArray := prog_8_method_50_code
def yX6_judged : MethodName := ⟨RX6, "judged", "(I)I"⟩
abbrev cX6_judgedMore : ByteArray := prog_8_method_51_code
def yX6_judgedMore : MethodName := ⟨RX6, "judgedMore", "(I)I"⟩
abbrev cX6_kind : ByteArray := prog_8_method_52_code
def yX6_kind : MethodName := ⟨RX6, "kind", "(III)I"⟩
abbrev cX6_hold : ByteArray := prog_8_method_53_code
def yX6_hold : MethodName := ⟨RX6, "hold", "(III)I"⟩
abbrev cX6_swap : ByteArray := prog_8_method_54_code
def yX6_swap : MethodName := ⟨RX6, "swap", "(II)I"⟩
abbrev cX6_pass : ByteArray := prog_8_method_55_code
def yX6_pass : MethodName := ⟨RX6, "pass", "(II)I"⟩
abbrev cX6_begin : ByteArray := prog_8_method_56_code
def yX6_begin : MethodName := ⟨RX6, "begin", "(II)I"⟩
abbrev cX6_common : ByteArray := prog_8_method_57_code
def yX6_common : MethodName := ⟨RX6, "common", "(JJ)J"⟩
abbrev cX6_lowest : ByteArray := prog_8_method_58_code
def yX6_lowest : MethodName := ⟨RX6, "lowest", "(JJI)J"⟩
abbrev cX6_findOdds : ByteArray := prog_8_method_59_code
def yX6_findOdds : MethodName := ⟨RX6, "findOdds", "(IIII)V"⟩
abbrev cX6_luck : ByteArray := prog_8_method_60_code
def yX6_luck : MethodName := ⟨RX6, "luck", "(IIIII)J"⟩
abbrev cX6_mean : ByteArray := prog_8_method_61_code
def yX6_mean : MethodName := ⟨RX6, "mean", "(III)J"⟩
abbrev cX6_see : ByteArray := prog_8_method_62_code
def yX6_see : MethodName := ⟨RX6, "see", "(III)I"⟩
abbrev cX6_forget : ByteArray := prog_8_method_63_code
def yX6_forget : MethodName := ⟨RX6, "forget", "(I)I"⟩
abbrev cX6_isSoWith : ByteArray := prog_8_method_64_code
def yX6_isSoWith : MethodName := ⟨RX6, "isSoWith", "(II)Z"⟩
abbrev cX6_which : ByteArray := prog_8_method_65_code
def yX6_which : MethodName := ⟨RX6, "which", "(II)I"⟩
abbrev cX6_kinds : ByteArray := prog_8_method_66_code
def yX6_kinds : MethodName := ⟨RX6, "kinds", "(I)I"⟩
abbrev cX6_gains : ByteArray := prog_8_method_67_code
def yX6_gains : MethodName := ⟨RX6, "gains", "(I)I"⟩
abbrev cX6_ask : ByteArray := prog_8_method_68_code
def yX6_ask : MethodName := ⟨RX6, "ask", "(II)I"⟩
abbrev cX6_drift : ByteArray := prog_8_method_69_code
def yX6_drift : MethodName := ⟨RX6, "drift", "(III)I"⟩
abbrev cX6_copies : ByteArray := prog_8_method_70_code
def yX6_copies : MethodName := ⟨RX6, "copies", "(II)V"⟩
abbrev cX6_keep : ByteArray := prog_8_method_71_code
def yX6_keep : MethodName := ⟨RX6, "keep", "(I)I"⟩
abbrev cX6_back : ByteArray := prog_8_method_72_code
def yX6_back : MethodName := ⟨RX6, "back", "(I)I"⟩
abbrev cX6_isSheet : ByteArray := prog_8_method_73_code
def yX6_isSheet : MethodName := ⟨RX6, "isSheet", "(II)Z"⟩
abbrev cX6_sheet : ByteArray := prog_8_method_74_code
def yX6_sheet : MethodName := ⟨RX6, "sheet", "(III)I"⟩
abbrev cX6_lay : ByteArray := prog_8_method_75_code
def yX6_lay : MethodName := ⟨RX6, "lay", "(III)I"⟩
abbrev cX6_read : ByteArray := prog_8_method_76_code
def yX6_read : MethodName := ⟨RX6, "read", "(IIII)I"⟩
abbrev cX6_torn : ByteArray := prog_8_method_77_code
def yX6_torn : MethodName := ⟨RX6, "torn", "()I"⟩
abbrev cX6_count : ByteArray := prog_8_method_78_code
def yX6_count : MethodName := ⟨RX6, "count", "(I)I"⟩
def RJ6 : String := "java/lang/Integer"
def TJ6 : u_T := fun k => match k with
  | _ => ("", "", "", false)
def tyJ6 : Nat → FieldType := fun k => match k with
  | _ => .int
abbrev wsJ60 : List Cond := u_ws RJ6 TJ6 0
theorem nmJ6 : ∀ a, a < 0 → ∀ b, b < 0 → a ≠ b → (TJ6 a).2.1 ≠ (TJ6 b).2.1 := by decide +kernel
theorem tyJ6_ok : ∀ k, k < 0 → parseFieldDescriptor (TJ6 k).2.2.1 = some (tyJ6 k) := by decide +kernel
abbrev cJ6_bitCount_0f7a4 : ByteArray := prog_9_method_49_code
def yJ6_bitCount_0f7a4 : MethodName := ⟨RJ6, "bitCount", "(I)I"⟩
def RJ9 : String := "java/lang/Math"
def TJ9 : u_T := fun k => match k with
  | _ => ("", "", "", false)
def tyJ9 : Nat → FieldType := fun k => match k with
  | _ => .int
abbrev wsJ90 : List Cond := u_ws RJ9 TJ9 0
theorem nmJ9 : ∀ a, a < 0 → ∀ b, b < 0 → a ≠ b → (TJ9 a).2.1 ≠ (TJ9 b).2.1 := by decide +kernel
theorem tyJ9_ok : ∀ k, k < 0 → parseFieldDescriptor (TJ9 k).2.2.1 = some (tyJ9 k) := by decide +kernel
abbrev cJ9_max_7cf53 : ByteArray := prog_10_method_65_code
def yJ9_max_7cf53 : MethodName := ⟨RJ9, "max", "(II)I"⟩
abbrev cJ9_min_7cf53 : ByteArray := prog_10_method_69_code
def yJ9_min_7cf53 : MethodName := ⟨RJ9, "min", "(II)I"⟩
def RJ0 : String := "java/lang/String"
def TJ0 : u_T := fun k => match k with
  | _ => ("", "", "", false)
def tyJ0 : Nat → FieldType := fun k => match k with
  | _ => .int
abbrev wsJ00 : List Cond := u_ws RJ0 TJ0 0
theorem nmJ0 : ∀ a, a < 0 → ∀ b, b < 0 → a ≠ b → (TJ0 a).2.1 ≠ (TJ0 b).2.1 := by decide +kernel
theorem tyJ0_ok : ∀ k, k < 0 → parseFieldDescriptor (TJ0 k).2.2.1 = some (tyJ0 k) := by decide +kernel
abbrev cJ0_length_8abf5 : ByteArray := prog_11_method_54_code
def yJ0_length_8abf5 : MethodName := ⟨RJ0, "length", "()I"⟩
abbrev cJ0_charAt_5068e : ByteArray := prog_11_method_56_code
def yJ0_charAt_5068e : MethodName := ⟨RJ0, "charAt", "(I)C"⟩
abbrev cJ0_coder_7d493 : ByteArray := prog_11_method_152_code
def yJ0_coder_7d493 : MethodName := ⟨RJ0, "coder", "()B"⟩
abbrev cJ0_isLatin1_aae02 : ByteArray := prog_11_method_154_code
def yJ0_isLatin1_aae02 : MethodName := ⟨RJ0, "isLatin1", "()Z"⟩
abbrev cJ0_checkIndex_df160 : ByteArray := prog_11_method_155_code
def yJ0_checkIndex_df160 : MethodName := ⟨RJ0, "checkIndex", "(II)V"⟩
def RJ1 : String := "java/lang/StringLatin1"
def TJ1 : u_T := fun k => match k with
  | _ => ("", "", "", false)
def tyJ1 : Nat → FieldType := fun k => match k with
  | _ => .int
abbrev wsJ10 : List Cond := u_ws RJ1 TJ1 0
theorem nmJ1 : ∀ a, a < 0 → ∀ b, b < 0 → a ≠ b → (TJ1 a).2.1 ≠ (TJ1 b).2.1 := by decide +kernel
theorem tyJ1_ok : ∀ k, k < 0 → parseFieldDescriptor (TJ1 k).2.2.1 = some (tyJ1 k) := by decide +kernel
abbrev cJ1_charAt_3b067 : ByteArray := prog_12_method_2_code
def yJ1_charAt_3b067 : MethodName := ⟨RJ1, "charAt", "([BI)C"⟩
def RJ2 : String := "java/lang/StringUTF16"
def TJ2 : u_T := fun k => match k with
  | _ => ("", "", "", false)
def tyJ2 : Nat → FieldType := fun k => match k with
  | _ => .int
abbrev wsJ20 : List Cond := u_ws RJ2 TJ2 0
theorem nmJ2 : ∀ a, a < 0 → ∀ b, b < 0 → a ≠ b → (TJ2 a).2.1 ≠ (TJ2 b).2.1 := by decide +kernel
theorem tyJ2_ok : ∀ k, k < 0 → parseFieldDescriptor (TJ2 k).2.2.1 = some (tyJ2 k) := by decide +kernel
abbrev cJ2_getChar_3b067 : ByteArray := prog_13_method_5_code
def yJ2_getChar_3b067 : MethodName := ⟨RJ2, "getChar", "([BI)C"⟩
abbrev cJ2_length_9d52b : ByteArray := prog_13_method_6_code
def yJ2_length_9d52b : MethodName := ⟨RJ2, "length", "([B)I"⟩
abbrev cJ2_charAt_3b067 : ByteArray := prog_13_method_83_code
def yJ2_charAt_3b067 : MethodName := ⟨RJ2, "charAt", "([BI)C"⟩
abbrev cJ2_checkIndex_2214a : ByteArray := prog_13_method_91_code
def yJ2_checkIndex_2214a : MethodName := ⟨RJ2, "checkIndex", "(I[B)V"⟩
def RJ10 : String := "java/lang/System"
def TJ10 : u_T := fun k => match k with
  | _ => ("", "", "", false)
def tyJ10 : Nat → FieldType := fun k => match k with
  | _ => .int
abbrev wsJ100 : List Cond := u_ws RJ10 TJ10 0
theorem nmJ10 : ∀ a, a < 0 → ∀ b, b < 0 → a ≠ b → (TJ10 a).2.1 ≠ (TJ10 b).2.1 := by decide +kernel
theorem tyJ10_ok : ∀ k, k < 0 → parseFieldDescriptor (TJ10 k).2.2.1 = some (tyJ10 k) := by decide +kernel
def RJ3 : String := "jdk/internal/util/Preconditions"
def TJ3 : u_T := fun k => match k with
  | _ => ("", "", "", false)
def tyJ3 : Nat → FieldType := fun k => match k with
  | _ => .int
abbrev wsJ30 : List Cond := u_ws RJ3 TJ3 0
theorem nmJ3 : ∀ a, a < 0 → ∀ b, b < 0 → a ≠ b → (TJ3 a).2.1 ≠ (TJ3 b).2.1 := by decide +kernel
theorem tyJ3_ok : ∀ k, k < 0 → parseFieldDescriptor (TJ3 k).2.2.1 = some (tyJ3 k) := by decide +kernel
abbrev cJ3_checkIndex_8e157 : ByteArray := prog_15_method_11_code
def yJ3_checkIndex_8e157 : MethodName := ⟨RJ3, "checkIndex", "(IILjava/util/function/BiFunction;)I"⟩
def RL : String := "RingWordLaw"
abbrev cL_law : ByteArray := code
def yL_law : MethodName := ⟨RL, "law", "([I)Z"⟩
abbrev vwCl : List vw_C := [(RX0, TX0, 3), (RX1, TX1, 7), (RX2, TX2, 4), (RX3, TX3, 3), (RX4, TX4, 7), (RX5, TX5, 8), (RX6, TX6, 30)]
end
section
theorem dX0_init_0 : decode cX0_init 0 = .ok (.aload_n 0, 1) := by decide +kernel
theorem dX0_init_1 : decode cX0_init 1 = .ok (.invokespecial 1, 3) := by decide +kernel
theorem dX0_init_4 : decode cX0_init 4 = .ok (.aload_n 0, 1) := by decide +kernel
theorem dX0_init_5 : decode cX0_init 5 = .ok (.new 7, 3) := by decide +kernel
theorem dX0_init_8 : decode cX0_init 8 = .ok (.dup, 1) := by decide +kernel
theorem dX0_init_9 : decode cX0_init 9 = .ok (.invokespecial 9, 3) := by decide +kernel
theorem dX0_init_12 : decode cX0_init 12 = .ok (.putfield 10, 3) := by decide +kernel
theorem dX0_init_15 : decode cX0_init 15 = .ok (.aload_n 0, 1) := by decide +kernel
theorem dX0_init_16 : decode cX0_init 16 = .ok (.new 16, 3) := by decide +kernel
theorem dX0_init_19 : decode cX0_init 19 = .ok (.dup, 1) := by decide +kernel
theorem dX0_init_20 : decode cX0_init 20 = .ok (.invokespecial 18, 3) := by decide +kernel
theorem dX0_init_23 : decode cX0_init 23 = .ok (.putfield 19, 3) := by decide +kernel
theorem dX0_init_26 : decode cX0_init 26 = .ok (.return_, 1) := by decide +kernel
theorem dX1_init_0 : decode cX1_init 0 = .ok (.aload_n 0, 1) := by decide +kernel
theorem dX1_init_1 : decode cX1_init 1 = .ok (.invokespecial 3, 3) := by decide +kernel
theorem dX1_init_4 : decode cX1_init 4 = .ok (.aload_n 0, 1) := by decide +kernel
theorem dX1_init_5 : decode cX1_init 5 = .ok (.iconst 5, 1) := by decide +kernel
theorem dX1_init_6 : decode cX1_init 6 = .ok (.bipush 7, 2) := by decide +kernel
theorem dX1_init_8 : decode cX1_init 8 = .ok (.multianewarray 9 2, 4) := by decide +kernel
theorem dX1_init_12 : decode cX1_init 12 = .ok (.putfield 11, 3) := by decide +kernel
theorem dX1_init_15 : decode cX1_init 15 = .ok (.aload_n 0, 1) := by decide +kernel
theorem dX1_init_16 : decode cX1_init 16 = .ok (.bipush (-4), 2) := by decide +kernel
theorem dX1_init_18 : decode cX1_init 18 = .ok (.putfield 16, 3) := by decide +kernel
theorem dX1_init_21 : decode cX1_init 21 = .ok (.return_, 1) := by decide +kernel
theorem dX1_clear_0 : decode cX1_clear 0 = .ok (.aload_n 0, 1) := by decide +kernel
theorem dX1_clear_1 : decode cX1_clear 1 = .ok (.iconst 0, 1) := by decide +kernel
theorem dX1_clear_2 : decode cX1_clear 2 = .ok (.putfield 20, 3) := by decide +kernel
theorem dX1_clear_5 : decode cX1_clear 5 = .ok (.aload_n 0, 1) := by decide +kernel
theorem dX1_clear_6 : decode cX1_clear 6 = .ok (.bipush (-4), 2) := by decide +kernel
theorem dX1_clear_8 : decode cX1_clear 8 = .ok (.putfield 16, 3) := by decide +kernel
theorem dX1_clear_11 : decode cX1_clear 11 = .ok (.aload_n 0, 1) := by decide +kernel
theorem dX1_clear_12 : decode cX1_clear 12 = .ok (.iconst 0, 1) := by decide +kernel
theorem dX1_clear_13 : decode cX1_clear 13 = .ok (.putfield 23, 3) := by decide +kernel
theorem dX1_clear_16 : decode cX1_clear 16 = .ok (.aload_n 0, 1) := by decide +kernel
theorem dX1_clear_17 : decode cX1_clear 17 = .ok (.iconst 0, 1) := by decide +kernel
theorem dX1_clear_18 : decode cX1_clear 18 = .ok (.putfield 26, 3) := by decide +kernel
theorem dX1_clear_21 : decode cX1_clear 21 = .ok (.aload_n 0, 1) := by decide +kernel
theorem dX1_clear_22 : decode cX1_clear 22 = .ok (.iconst 0, 1) := by decide +kernel
theorem dX1_clear_23 : decode cX1_clear 23 = .ok (.putfield 29, 3) := by decide +kernel
theorem dX1_clear_26 : decode cX1_clear 26 = .ok (.aload_n 0, 1) := by decide +kernel
theorem dX1_clear_27 : decode cX1_clear 27 = .ok (.iconst 0, 1) := by decide +kernel
theorem dX1_clear_28 : decode cX1_clear 28 = .ok (.putfield 32, 3) := by decide +kernel
theorem dX1_clear_31 : decode cX1_clear 31 = .ok (.return_, 1) := by decide +kernel
theorem dX1_copyFrom_0 : decode cX1_copyFrom 0 = .ok (.iconst 0, 1) := by decide +kernel
theorem dX1_copyFrom_1 : decode cX1_copyFrom 1 = .ok (.istore_n 2, 1) := by decide +kernel
theorem dX1_copyFrom_2 : decode cX1_copyFrom 2 = .ok (.iload_n 2, 1) := by decide +kernel
theorem dX1_copyFrom_3 : decode cX1_copyFrom 3 = .ok (.aload_n 1, 1) := by decide +kernel
theorem dX1_copyFrom_4 : decode cX1_copyFrom 4 = .ok (.getfield 20, 3) := by decide +kernel
theorem dX1_copyFrom_7 : decode cX1_copyFrom 7 = .ok (.if_icmp .ge 28, 3) := by decide +kernel
theorem dX1_copyFrom_10 : decode cX1_copyFrom 10 = .ok (.aload_n 1, 1) := by decide +kernel
theorem dX1_copyFrom_11 : decode cX1_copyFrom 11 = .ok (.getfield 11, 3) := by decide +kernel
theorem dX1_copyFrom_14 : decode cX1_copyFrom 14 = .ok (.iload_n 2, 1) := by decide +kernel
theorem dX1_copyFrom_15 : decode cX1_copyFrom 15 = .ok (.aaload, 1) := by decide +kernel
theorem dX1_copyFrom_16 : decode cX1_copyFrom 16 = .ok (.iconst 0, 1) := by decide +kernel
theorem dX1_copyFrom_17 : decode cX1_copyFrom 17 = .ok (.aload_n 0, 1) := by decide +kernel
theorem dX1_copyFrom_18 : decode cX1_copyFrom 18 = .ok (.getfield 11, 3) := by decide +kernel
theorem dX1_copyFrom_21 : decode cX1_copyFrom 21 = .ok (.iload_n 2, 1) := by decide +kernel
theorem dX1_copyFrom_22 : decode cX1_copyFrom 22 = .ok (.aaload, 1) := by decide +kernel
theorem dX1_copyFrom_23 : decode cX1_copyFrom 23 = .ok (.iconst 0, 1) := by decide +kernel
theorem dX1_copyFrom_24 : decode cX1_copyFrom 24 = .ok (.bipush 7, 2) := by decide +kernel
theorem dX1_copyFrom_26 : decode cX1_copyFrom 26 = .ok (.invokestatic 35, 3) := by decide +kernel
theorem dX1_copyFrom_29 : decode cX1_copyFrom 29 = .ok (.iinc 2 1, 3) := by decide +kernel
theorem dX1_copyFrom_32 : decode cX1_copyFrom 32 = .ok (.goto (-30), 3) := by decide +kernel
theorem dX1_copyFrom_35 : decode cX1_copyFrom 35 = .ok (.aload_n 0, 1) := by decide +kernel
theorem dX1_copyFrom_36 : decode cX1_copyFrom 36 = .ok (.aload_n 1, 1) := by decide +kernel
theorem dX1_copyFrom_37 : decode cX1_copyFrom 37 = .ok (.getfield 20, 3) := by decide +kernel
theorem dX1_copyFrom_40 : decode cX1_copyFrom 40 = .ok (.putfield 20, 3) := by decide +kernel
theorem dX1_copyFrom_43 : decode cX1_copyFrom 43 = .ok (.aload_n 0, 1) := by decide +kernel
theorem dX1_copyFrom_44 : decode cX1_copyFrom 44 = .ok (.aload_n 1, 1) := by decide +kernel
theorem dX1_copyFrom_45 : decode cX1_copyFrom 45 = .ok (.getfield 16, 3) := by decide +kernel
theorem dX1_copyFrom_48 : decode cX1_copyFrom 48 = .ok (.putfield 16, 3) := by decide +kernel
theorem dX1_copyFrom_51 : decode cX1_copyFrom 51 = .ok (.aload_n 0, 1) := by decide +kernel
theorem dX1_copyFrom_52 : decode cX1_copyFrom 52 = .ok (.aload_n 1, 1) := by decide +kernel
theorem dX1_copyFrom_53 : decode cX1_copyFrom 53 = .ok (.getfield 23, 3) := by decide +kernel
theorem dX1_copyFrom_56 : decode cX1_copyFrom 56 = .ok (.putfield 23, 3) := by decide +kernel
theorem dX1_copyFrom_59 : decode cX1_copyFrom 59 = .ok (.aload_n 0, 1) := by decide +kernel
theorem dX1_copyFrom_60 : decode cX1_copyFrom 60 = .ok (.aload_n 1, 1) := by decide +kernel
theorem dX1_copyFrom_61 : decode cX1_copyFrom 61 = .ok (.getfield 26, 3) := by decide +kernel
theorem dX1_copyFrom_64 : decode cX1_copyFrom 64 = .ok (.putfield 26, 3) := by decide +kernel
theorem dX1_copyFrom_67 : decode cX1_copyFrom 67 = .ok (.aload_n 0, 1) := by decide +kernel
theorem dX1_copyFrom_68 : decode cX1_copyFrom 68 = .ok (.aload_n 1, 1) := by decide +kernel
theorem dX1_copyFrom_69 : decode cX1_copyFrom 69 = .ok (.getfield 29, 3) := by decide +kernel
theorem dX1_copyFrom_72 : decode cX1_copyFrom 72 = .ok (.putfield 29, 3) := by decide +kernel
theorem dX1_copyFrom_75 : decode cX1_copyFrom 75 = .ok (.aload_n 0, 1) := by decide +kernel
theorem dX1_copyFrom_76 : decode cX1_copyFrom 76 = .ok (.aload_n 1, 1) := by decide +kernel
theorem dX1_copyFrom_77 : decode cX1_copyFrom 77 = .ok (.getfield 32, 3) := by decide +kernel
theorem dX1_copyFrom_80 : decode cX1_copyFrom 80 = .ok (.putfield 32, 3) := by decide +kernel
theorem dX1_copyFrom_83 : decode cX1_copyFrom 83 = .ok (.return_, 1) := by decide +kernel
theorem dX1_has_0 : decode cX1_has 0 = .ok (.iload_n 1, 1) := by decide +kernel
theorem dX1_has_1 : decode cX1_has 1 = .ok (.ifCond .lt 15, 3) := by decide +kernel
theorem dX1_has_4 : decode cX1_has 4 = .ok (.iload_n 1, 1) := by decide +kernel
theorem dX1_has_5 : decode cX1_has 5 = .ok (.aload_n 0, 1) := by decide +kernel
theorem dX1_has_6 : decode cX1_has 6 = .ok (.getfield 20, 3) := by decide +kernel
theorem dX1_has_9 : decode cX1_has 9 = .ok (.if_icmp .ge 7, 3) := by decide +kernel
theorem dX1_has_12 : decode cX1_has 12 = .ok (.iconst 1, 1) := by decide +kernel
theorem dX1_has_13 : decode cX1_has 13 = .ok (.goto 4, 3) := by decide +kernel
theorem dX1_has_16 : decode cX1_has 16 = .ok (.iconst 0, 1) := by decide +kernel
theorem dX1_has_17 : decode cX1_has 17 = .ok (.ireturn, 1) := by decide +kernel
theorem dX1_takes_0 : decode cX1_takes 0 = .ok (.aload_n 0, 1) := by decide +kernel
theorem dX1_takes_1 : decode cX1_takes 1 = .ok (.iload_n 1, 1) := by decide +kernel
theorem dX1_takes_2 : decode cX1_takes 2 = .ok (.invokevirtual 41, 3) := by decide +kernel
theorem dX1_takes_5 : decode cX1_takes 5 = .ok (.ifCond .eq 17, 3) := by decide +kernel
theorem dX1_takes_8 : decode cX1_takes 8 = .ok (.iload_n 2, 1) := by decide +kernel
theorem dX1_takes_9 : decode cX1_takes 9 = .ok (.iconst 0, 1) := by decide +kernel
theorem dX1_takes_10 : decode cX1_takes 10 = .ok (.bipush 99, 2) := by decide +kernel
theorem dX1_takes_12 : decode cX1_takes 12 = .ok (.invokestatic 45, 3) := by decide +kernel
theorem dX1_takes_15 : decode cX1_takes 15 = .ok (.ifCond .ne 7, 3) := by decide +kernel
theorem dX1_takes_18 : decode cX1_takes 18 = .ok (.iconst 1, 1) := by decide +kernel
theorem dX1_takes_19 : decode cX1_takes 19 = .ok (.goto 4, 3) := by decide +kernel
theorem dX1_takes_22 : decode cX1_takes 22 = .ok (.iconst 0, 1) := by decide +kernel
theorem dX1_takes_23 : decode cX1_takes 23 = .ok (.ireturn, 1) := by decide +kernel
theorem dX1_total_0 : decode cX1_total 0 = .ok (.iconst 0, 1) := by decide +kernel
theorem dX1_total_1 : decode cX1_total 1 = .ok (.istore_n 2, 1) := by decide +kernel
theorem dX1_total_2 : decode cX1_total 2 = .ok (.iconst 0, 1) := by decide +kernel
theorem dX1_total_3 : decode cX1_total 3 = .ok (.istore_n 3, 1) := by decide +kernel
theorem dX1_total_4 : decode cX1_total 4 = .ok (.iload_n 3, 1) := by decide +kernel
theorem dX1_total_5 : decode cX1_total 5 = .ok (.aload_n 0, 1) := by decide +kernel
theorem dX1_total_6 : decode cX1_total 6 = .ok (.getfield 20, 3) := by decide +kernel
theorem dX1_total_9 : decode cX1_total 9 = .ok (.if_icmp .ge 20, 3) := by decide +kernel
theorem dX1_total_12 : decode cX1_total 12 = .ok (.iload_n 2, 1) := by decide +kernel
theorem dX1_total_13 : decode cX1_total 13 = .ok (.aload_n 0, 1) := by decide +kernel
theorem dX1_total_14 : decode cX1_total 14 = .ok (.getfield 11, 3) := by decide +kernel
theorem dX1_total_17 : decode cX1_total 17 = .ok (.iload_n 3, 1) := by decide +kernel
theorem dX1_total_18 : decode cX1_total 18 = .ok (.aaload, 1) := by decide +kernel
theorem dX1_total_19 : decode cX1_total 19 = .ok (.iload_n 1, 1) := by decide +kernel
theorem dX1_total_20 : decode cX1_total 20 = .ok (.iaload, 1) := by decide +kernel
theorem dX1_total_21 : decode cX1_total 21 = .ok (.iadd, 1) := by decide +kernel
theorem dX1_total_22 : decode cX1_total 22 = .ok (.istore_n 2, 1) := by decide +kernel
theorem dX1_total_23 : decode cX1_total 23 = .ok (.iinc 3 1, 3) := by decide +kernel
theorem dX1_total_26 : decode cX1_total 26 = .ok (.goto (-22), 3) := by decide +kernel
theorem dX1_total_29 : decode cX1_total 29 = .ok (.iload_n 2, 1) := by decide +kernel
theorem dX1_total_30 : decode cX1_total 30 = .ok (.ireturn, 1) := by decide +kernel
theorem dX1_exchange_0 : decode cX1_exchange 0 = .ok (.aload_n 0, 1) := by decide +kernel
theorem dX1_exchange_1 : decode cX1_exchange 1 = .ok (.getfield 11, 3) := by decide +kernel
theorem dX1_exchange_4 : decode cX1_exchange 4 = .ok (.iload_n 1, 1) := by decide +kernel
theorem dX1_exchange_5 : decode cX1_exchange 5 = .ok (.aaload, 1) := by decide +kernel
theorem dX1_exchange_6 : decode cX1_exchange 6 = .ok (.astore_n 3, 1) := by decide +kernel
theorem dX1_exchange_7 : decode cX1_exchange 7 = .ok (.aload_n 0, 1) := by decide +kernel
theorem dX1_exchange_8 : decode cX1_exchange 8 = .ok (.getfield 11, 3) := by decide +kernel
theorem dX1_exchange_11 : decode cX1_exchange 11 = .ok (.iload_n 1, 1) := by decide +kernel
theorem dX1_exchange_12 : decode cX1_exchange 12 = .ok (.aload_n 0, 1) := by decide +kernel
theorem dX1_exchange_13 : decode cX1_exchange 13 = .ok (.getfield 11, 3) := by decide +kernel
theorem dX1_exchange_16 : decode cX1_exchange 16 = .ok (.iload_n 2, 1) := by decide +kernel
theorem dX1_exchange_17 : decode cX1_exchange 17 = .ok (.aaload, 1) := by decide +kernel
theorem dX1_exchange_18 : decode cX1_exchange 18 = .ok (.aastore, 1) := by decide +kernel
theorem dX1_exchange_19 : decode cX1_exchange 19 = .ok (.aload_n 0, 1) := by decide +kernel
theorem dX1_exchange_20 : decode cX1_exchange 20 = .ok (.getfield 11, 3) := by decide +kernel
theorem dX1_exchange_23 : decode cX1_exchange 23 = .ok (.iload_n 2, 1) := by decide +kernel
theorem dX1_exchange_24 : decode cX1_exchange 24 = .ok (.aload_n 3, 1) := by decide +kernel
theorem dX1_exchange_25 : decode cX1_exchange 25 = .ok (.aastore, 1) := by decide +kernel
theorem dX1_exchange_26 : decode cX1_exchange 26 = .ok (.return_, 1) := by decide +kernel
theorem dX1_due_0 : decode cX1_due 0 = .ok (.aload_n 0, 1) := by decide +kernel
theorem dX1_due_1 : decode cX1_due 1 = .ok (.aload_n 0, 1) := by decide +kernel
theorem dX1_due_2 : decode cX1_due 2 = .ok (.getfield 16, 3) := by decide +kernel
theorem dX1_due_5 : decode cX1_due 5 = .ok (.invokevirtual 41, 3) := by decide +kernel
theorem dX1_due_8 : decode cX1_due 8 = .ok (.ifCond .ne 5, 3) := by decide +kernel
theorem dX1_due_11 : decode cX1_due 11 = .ok (.iconst 0, 1) := by decide +kernel
theorem dX1_due_12 : decode cX1_due 12 = .ok (.ireturn, 1) := by decide +kernel
theorem dX1_due_13 : decode cX1_due 13 = .ok (.aload_n 0, 1) := by decide +kernel
theorem dX1_due_14 : decode cX1_due 14 = .ok (.getfield 11, 3) := by decide +kernel
theorem dX1_due_17 : decode cX1_due 17 = .ok (.aload_n 0, 1) := by decide +kernel
theorem dX1_due_18 : decode cX1_due 18 = .ok (.getfield 16, 3) := by decide +kernel
theorem dX1_due_21 : decode cX1_due 21 = .ok (.aaload, 1) := by decide +kernel
theorem dX1_due_22 : decode cX1_due 22 = .ok (.astore_n 1, 1) := by decide +kernel
theorem dX1_due_23 : decode cX1_due 23 = .ok (.aload_n 1, 1) := by decide +kernel
theorem dX1_due_24 : decode cX1_due 24 = .ok (.iconst 0, 1) := by decide +kernel
theorem dX1_due_25 : decode cX1_due 25 = .ok (.iaload, 1) := by decide +kernel
theorem dX1_due_26 : decode cX1_due 26 = .ok (.istore_n 2, 1) := by decide +kernel
theorem dX1_due_27 : decode cX1_due 27 = .ok (.iload_n 2, 1) := by decide +kernel
theorem dX1_due_28 : decode cX1_due 28 = .ok (.iconst 3, 1) := by decide +kernel
theorem dX1_due_29 : decode cX1_due 29 = .ok (.if_icmp .ne 13, 3) := by decide +kernel
theorem dX1_due_32 : decode cX1_due 32 = .ok (.aload_n 1, 1) := by decide +kernel
theorem dX1_due_33 : decode cX1_due 33 = .ok (.bipush 6, 2) := by decide +kernel
theorem dX1_due_35 : decode cX1_due 35 = .ok (.iaload, 1) := by decide +kernel
theorem dX1_due_36 : decode cX1_due 36 = .ok (.iconst 1, 1) := by decide +kernel
theorem dX1_due_37 : decode cX1_due 37 = .ok (.if_icmp .ne 5, 3) := by decide +kernel
theorem dX1_due_40 : decode cX1_due 40 = .ok (.iconst 0, 1) := by decide +kernel
theorem dX1_due_41 : decode cX1_due 41 = .ok (.ireturn, 1) := by decide +kernel
theorem dX1_due_42 : decode cX1_due 42 = .ok (.iload_n 2, 1) := by decide +kernel
theorem dX1_due_43 : decode cX1_due 43 = .ok (.iconst 1, 1) := by decide +kernel
theorem dX1_due_44 : decode cX1_due 44 = .ok (.if_icmp .ne 11, 3) := by decide +kernel
theorem dX1_due_47 : decode cX1_due 47 = .ok (.iconst 2, 1) := by decide +kernel
theorem dX1_due_48 : decode cX1_due 48 = .ok (.aload_n 1, 1) := by decide +kernel
theorem dX1_due_49 : decode cX1_due 49 = .ok (.iconst 2, 1) := by decide +kernel
theorem dX1_due_50 : decode cX1_due 50 = .ok (.iaload, 1) := by decide +kernel
theorem dX1_due_51 : decode cX1_due 51 = .ok (.imul, 1) := by decide +kernel
theorem dX1_due_52 : decode cX1_due 52 = .ok (.goto 6, 3) := by decide +kernel
theorem dX1_due_55 : decode cX1_due 55 = .ok (.aload_n 1, 1) := by decide +kernel
theorem dX1_due_56 : decode cX1_due 56 = .ok (.iconst 2, 1) := by decide +kernel
theorem dX1_due_57 : decode cX1_due 57 = .ok (.iaload, 1) := by decide +kernel
theorem dX1_due_58 : decode cX1_due 58 = .ok (.istore_n 3, 1) := by decide +kernel
theorem dX1_due_59 : decode cX1_due 59 = .ok (.iload_n 3, 1) := by decide +kernel
theorem dX1_due_60 : decode cX1_due 60 = .ok (.aload_n 1, 1) := by decide +kernel
theorem dX1_due_61 : decode cX1_due 61 = .ok (.iconst 1, 1) := by decide +kernel
theorem dX1_due_62 : decode cX1_due 62 = .ok (.iaload, 1) := by decide +kernel
theorem dX1_due_63 : decode cX1_due 63 = .ok (.invokestatic 49, 3) := by decide +kernel
theorem dX1_due_66 : decode cX1_due 66 = .ok (.istore 4, 2) := by decide +kernel
theorem dX1_due_68 : decode cX1_due 68 = .ok (.iload_n 2, 1) := by decide +kernel
theorem dX1_due_69 : decode cX1_due 69 = .ok (.iconst 2, 1) := by decide +kernel
theorem dX1_due_70 : decode cX1_due 70 = .ok (.if_icmp .eq 8, 3) := by decide +kernel
theorem dX1_due_73 : decode cX1_due 73 = .ok (.iload_n 2, 1) := by decide +kernel
theorem dX1_due_74 : decode cX1_due 74 = .ok (.iconst 3, 1) := by decide +kernel
theorem dX1_due_75 : decode cX1_due 75 = .ok (.if_icmp .ne 7, 3) := by decide +kernel
theorem dX1_due_78 : decode cX1_due 78 = .ok (.iconst 1, 1) := by decide +kernel
theorem dX1_due_79 : decode cX1_due 79 = .ok (.goto 4, 3) := by decide +kernel
theorem dX1_due_82 : decode cX1_due 82 = .ok (.iconst 0, 1) := by decide +kernel
theorem dX1_due_83 : decode cX1_due 83 = .ok (.istore 5, 2) := by decide +kernel
theorem dX1_due_85 : decode cX1_due 85 = .ok (.iload 5, 2) := by decide +kernel
theorem dX1_due_87 : decode cX1_due 87 = .ok (.ifCond .eq 25, 3) := by decide +kernel
theorem dX1_due_90 : decode cX1_due 90 = .ok (.iload 4, 2) := by decide +kernel
theorem dX1_due_92 : decode cX1_due 92 = .ok (.ifCond .le 20, 3) := by decide +kernel
theorem dX1_due_95 : decode cX1_due 95 = .ok (.aload_n 0, 1) := by decide +kernel
theorem dX1_due_96 : decode cX1_due 96 = .ok (.aload_n 1, 1) := by decide +kernel
theorem dX1_due_97 : decode cX1_due 97 = .ok (.iconst 1, 1) := by decide +kernel
theorem dX1_due_98 : decode cX1_due 98 = .ok (.iaload, 1) := by decide +kernel
theorem dX1_due_99 : decode cX1_due 99 = .ok (.invokevirtual 55, 3) := by decide +kernel
theorem dX1_due_102 : decode cX1_due 102 = .ok (.ifCond .eq 10, 3) := by decide +kernel
theorem dX1_due_105 : decode cX1_due 105 = .ok (.iload 4, 2) := by decide +kernel
theorem dX1_due_107 : decode cX1_due 107 = .ok (.iconst 1, 1) := by decide +kernel
theorem dX1_due_108 : decode cX1_due 108 = .ok (.isub, 1) := by decide +kernel
theorem dX1_due_109 : decode cX1_due 109 = .ok (.goto 5, 3) := by decide +kernel
theorem dX1_due_112 : decode cX1_due 112 = .ok (.iload 4, 2) := by decide +kernel
theorem dX1_due_114 : decode cX1_due 114 = .ok (.ireturn, 1) := by decide +kernel
theorem dX1_isLonger_0 : decode cX1_isLonger 0 = .ok (.iconst 0, 1) := by decide +kernel
theorem dX1_isLonger_1 : decode cX1_isLonger 1 = .ok (.istore_n 2, 1) := by decide +kernel
theorem dX1_isLonger_2 : decode cX1_isLonger 2 = .ok (.iload_n 2, 1) := by decide +kernel
theorem dX1_isLonger_3 : decode cX1_isLonger 3 = .ok (.aload_n 0, 1) := by decide +kernel
theorem dX1_isLonger_4 : decode cX1_isLonger 4 = .ok (.getfield 20, 3) := by decide +kernel
theorem dX1_isLonger_7 : decode cX1_isLonger 7 = .ok (.if_icmp .ge 23, 3) := by decide +kernel
theorem dX1_isLonger_10 : decode cX1_isLonger 10 = .ok (.aload_n 0, 1) := by decide +kernel
theorem dX1_isLonger_11 : decode cX1_isLonger 11 = .ok (.getfield 11, 3) := by decide +kernel
theorem dX1_isLonger_14 : decode cX1_isLonger 14 = .ok (.iload_n 2, 1) := by decide +kernel
theorem dX1_isLonger_15 : decode cX1_isLonger 15 = .ok (.aaload, 1) := by decide +kernel
theorem dX1_isLonger_16 : decode cX1_isLonger 16 = .ok (.iconst 1, 1) := by decide +kernel
theorem dX1_isLonger_17 : decode cX1_isLonger 17 = .ok (.iaload, 1) := by decide +kernel
theorem dX1_isLonger_18 : decode cX1_isLonger 18 = .ok (.iload_n 1, 1) := by decide +kernel
theorem dX1_isLonger_19 : decode cX1_isLonger 19 = .ok (.if_icmp .le 5, 3) := by decide +kernel
theorem dX1_isLonger_22 : decode cX1_isLonger 22 = .ok (.iconst 1, 1) := by decide +kernel
theorem dX1_isLonger_23 : decode cX1_isLonger 23 = .ok (.ireturn, 1) := by decide +kernel
theorem dX1_isLonger_24 : decode cX1_isLonger 24 = .ok (.iinc 2 1, 3) := by decide +kernel
theorem dX1_isLonger_27 : decode cX1_isLonger 27 = .ok (.goto (-25), 3) := by decide +kernel
theorem dX1_isLonger_30 : decode cX1_isLonger 30 = .ok (.iconst 0, 1) := by decide +kernel
theorem dX1_isLonger_31 : decode cX1_isLonger 31 = .ok (.ireturn, 1) := by decide +kernel
theorem dX1_go_0 : decode cX1_go 0 = .ok (.iconst 0, 1) := by decide +kernel
theorem dX1_go_1 : decode cX1_go 1 = .ok (.istore_n 2, 1) := by decide +kernel
theorem dX1_go_2 : decode cX1_go 2 = .ok (.iload_n 2, 1) := by decide +kernel
theorem dX1_go_3 : decode cX1_go 3 = .ok (.iload_n 1, 1) := by decide +kernel
theorem dX1_go_4 : decode cX1_go 4 = .ok (.if_icmp .ge 15, 3) := by decide +kernel
theorem dX1_go_7 : decode cX1_go 7 = .ok (.aload_n 0, 1) := by decide +kernel
theorem dX1_go_8 : decode cX1_go 8 = .ok (.iconst 1, 1) := by decide +kernel
theorem dX1_go_9 : decode cX1_go 9 = .ok (.invokevirtual 58, 3) := by decide +kernel
theorem dX1_go_12 : decode cX1_go 12 = .ok (.pop, 1) := by decide +kernel
theorem dX1_go_13 : decode cX1_go 13 = .ok (.iinc 2 1, 3) := by decide +kernel
theorem dX1_go_16 : decode cX1_go 16 = .ok (.goto (-14), 3) := by decide +kernel
theorem dX1_go_19 : decode cX1_go 19 = .ok (.return_, 1) := by decide +kernel
theorem dX1_visit_0 : decode cX1_visit 0 = .ok (.aload_n 0, 1) := by decide +kernel
theorem dX1_visit_1 : decode cX1_visit 1 = .ok (.dup, 1) := by decide +kernel
theorem dX1_visit_2 : decode cX1_visit 2 = .ok (.getfield 26, 3) := by decide +kernel
theorem dX1_visit_5 : decode cX1_visit 5 = .ok (.iconst 1, 1) := by decide +kernel
theorem dX1_visit_6 : decode cX1_visit 6 = .ok (.iadd, 1) := by decide +kernel
theorem dX1_visit_7 : decode cX1_visit 7 = .ok (.putfield 26, 3) := by decide +kernel
theorem dX1_visit_10 : decode cX1_visit 10 = .ok (.aload_n 0, 1) := by decide +kernel
theorem dX1_visit_11 : decode cX1_visit 11 = .ok (.aload_n 0, 1) := by decide +kernel
theorem dX1_visit_12 : decode cX1_visit 12 = .ok (.getfield 16, 3) := by decide +kernel
theorem dX1_visit_15 : decode cX1_visit 15 = .ok (.invokevirtual 41, 3) := by decide +kernel
theorem dX1_visit_18 : decode cX1_visit 18 = .ok (.ifCond .ne 5, 3) := by decide +kernel
theorem dX1_visit_21 : decode cX1_visit 21 = .ok (.iconst 0, 1) := by decide +kernel
theorem dX1_visit_22 : decode cX1_visit 22 = .ok (.ireturn, 1) := by decide +kernel
theorem dX1_visit_23 : decode cX1_visit 23 = .ok (.aload_n 0, 1) := by decide +kernel
theorem dX1_visit_24 : decode cX1_visit 24 = .ok (.getfield 11, 3) := by decide +kernel
theorem dX1_visit_27 : decode cX1_visit 27 = .ok (.aload_n 0, 1) := by decide +kernel
theorem dX1_visit_28 : decode cX1_visit 28 = .ok (.getfield 16, 3) := by decide +kernel
theorem dX1_visit_31 : decode cX1_visit 31 = .ok (.aaload, 1) := by decide +kernel
theorem dX1_visit_32 : decode cX1_visit 32 = .ok (.astore_n 2, 1) := by decide +kernel
theorem dX1_visit_33 : decode cX1_visit 33 = .ok (.iload_n 1, 1) := by decide +kernel
theorem dX1_visit_34 : decode cX1_visit 34 = .ok (.ifCond .eq 10, 3) := by decide +kernel
theorem dX1_visit_37 : decode cX1_visit 37 = .ok (.aload_n 0, 1) := by decide +kernel
theorem dX1_visit_38 : decode cX1_visit 38 = .ok (.invokevirtual 62, 3) := by decide +kernel
theorem dX1_visit_41 : decode cX1_visit 41 = .ok (.goto 4, 3) := by decide +kernel
theorem dX1_visit_44 : decode cX1_visit 44 = .ok (.iconst 0, 1) := by decide +kernel
theorem dX1_visit_45 : decode cX1_visit 45 = .ok (.istore_n 3, 1) := by decide +kernel
theorem dX1_visit_46 : decode cX1_visit 46 = .ok (.aload_n 2, 1) := by decide +kernel
theorem dX1_visit_47 : decode cX1_visit 47 = .ok (.iconst 1, 1) := by decide +kernel
theorem dX1_visit_48 : decode cX1_visit 48 = .ok (.dup2, 1) := by decide +kernel
theorem dX1_visit_49 : decode cX1_visit 49 = .ok (.iaload, 1) := by decide +kernel
theorem dX1_visit_50 : decode cX1_visit 50 = .ok (.iload_n 3, 1) := by decide +kernel
theorem dX1_visit_51 : decode cX1_visit 51 = .ok (.isub, 1) := by decide +kernel
theorem dX1_visit_52 : decode cX1_visit 52 = .ok (.iastore, 1) := by decide +kernel
theorem dX1_visit_53 : decode cX1_visit 53 = .ok (.aload_n 2, 1) := by decide +kernel
theorem dX1_visit_54 : decode cX1_visit 54 = .ok (.iconst 5, 1) := by decide +kernel
theorem dX1_visit_55 : decode cX1_visit 55 = .ok (.dup2, 1) := by decide +kernel
theorem dX1_visit_56 : decode cX1_visit 56 = .ok (.iaload, 1) := by decide +kernel
theorem dX1_visit_57 : decode cX1_visit 57 = .ok (.iload_n 3, 1) := by decide +kernel
theorem dX1_visit_58 : decode cX1_visit 58 = .ok (.iadd, 1) := by decide +kernel
theorem dX1_visit_59 : decode cX1_visit 59 = .ok (.iastore, 1) := by decide +kernel
theorem dX1_visit_60 : decode cX1_visit 60 = .ok (.aload_n 2, 1) := by decide +kernel
theorem dX1_visit_61 : decode cX1_visit 61 = .ok (.bipush 6, 2) := by decide +kernel
theorem dX1_visit_63 : decode cX1_visit 63 = .ok (.iload_n 3, 1) := by decide +kernel
theorem dX1_visit_64 : decode cX1_visit 64 = .ok (.ifCond .le 7, 3) := by decide +kernel
theorem dX1_visit_67 : decode cX1_visit 67 = .ok (.iconst 1, 1) := by decide +kernel
theorem dX1_visit_68 : decode cX1_visit 68 = .ok (.goto 4, 3) := by decide +kernel
theorem dX1_visit_71 : decode cX1_visit 71 = .ok (.iconst 0, 1) := by decide +kernel
theorem dX1_visit_72 : decode cX1_visit 72 = .ok (.iastore, 1) := by decide +kernel
theorem dX1_visit_73 : decode cX1_visit 73 = .ok (.aload_n 0, 1) := by decide +kernel
theorem dX1_visit_74 : decode cX1_visit 74 = .ok (.dup, 1) := by decide +kernel
theorem dX1_visit_75 : decode cX1_visit 75 = .ok (.getfield 29, 3) := by decide +kernel
theorem dX1_visit_78 : decode cX1_visit 78 = .ok (.iload_n 3, 1) := by decide +kernel
theorem dX1_visit_79 : decode cX1_visit 79 = .ok (.iadd, 1) := by decide +kernel
theorem dX1_visit_80 : decode cX1_visit 80 = .ok (.putfield 29, 3) := by decide +kernel
theorem dX1_visit_83 : decode cX1_visit 83 = .ok (.aload_n 0, 1) := by decide +kernel
theorem dX1_visit_84 : decode cX1_visit 84 = .ok (.getfield 23, 3) := by decide +kernel
theorem dX1_visit_87 : decode cX1_visit 87 = .ok (.istore 4, 2) := by decide +kernel
theorem dX1_visit_89 : decode cX1_visit 89 = .ok (.aload_n 0, 1) := by decide +kernel
theorem dX1_visit_90 : decode cX1_visit 90 = .ok (.dup, 1) := by decide +kernel
theorem dX1_visit_91 : decode cX1_visit 91 = .ok (.getfield 23, 3) := by decide +kernel
theorem dX1_visit_94 : decode cX1_visit 94 = .ok (.iload_n 3, 1) := by decide +kernel
theorem dX1_visit_95 : decode cX1_visit 95 = .ok (.aload_n 2, 1) := by decide +kernel
theorem dX1_visit_96 : decode cX1_visit 96 = .ok (.iconst 4, 1) := by decide +kernel
theorem dX1_visit_97 : decode cX1_visit 97 = .ok (.iaload, 1) := by decide +kernel
theorem dX1_visit_98 : decode cX1_visit 98 = .ok (.iadd, 1) := by decide +kernel
theorem dX1_visit_99 : decode cX1_visit 99 = .ok (.iadd, 1) := by decide +kernel
theorem dX1_visit_100 : decode cX1_visit 100 = .ok (.putfield 23, 3) := by decide +kernel
theorem dX1_visit_103 : decode cX1_visit 103 = .ok (.aload_n 0, 1) := by decide +kernel
theorem dX1_visit_104 : decode cX1_visit 104 = .ok (.aload_n 0, 1) := by decide +kernel
theorem dX1_visit_105 : decode cX1_visit 105 = .ok (.getfield 23, 3) := by decide +kernel
theorem dX1_visit_108 : decode cX1_visit 108 = .ok (.bipush 10, 2) := by decide +kernel
theorem dX1_visit_110 : decode cX1_visit 110 = .ok (.idiv, 1) := by decide +kernel
theorem dX1_visit_111 : decode cX1_visit 111 = .ok (.iload 4, 2) := by decide +kernel
theorem dX1_visit_113 : decode cX1_visit 113 = .ok (.bipush 10, 2) := by decide +kernel
theorem dX1_visit_115 : decode cX1_visit 115 = .ok (.idiv, 1) := by decide +kernel
theorem dX1_visit_116 : decode cX1_visit 116 = .ok (.isub, 1) := by decide +kernel
theorem dX1_visit_117 : decode cX1_visit 117 = .ok (.invokevirtual 66, 3) := by decide +kernel
theorem dX1_visit_120 : decode cX1_visit 120 = .ok (.aload_n 0, 1) := by decide +kernel
theorem dX1_visit_121 : decode cX1_visit 121 = .ok (.aload_n 0, 1) := by decide +kernel
theorem dX1_visit_122 : decode cX1_visit 122 = .ok (.getfield 16, 3) := by decide +kernel
theorem dX1_visit_125 : decode cX1_visit 125 = .ok (.iconst 1, 1) := by decide +kernel
theorem dX1_visit_126 : decode cX1_visit 126 = .ok (.iadd, 1) := by decide +kernel
theorem dX1_visit_127 : decode cX1_visit 127 = .ok (.aload_n 0, 1) := by decide +kernel
theorem dX1_visit_128 : decode cX1_visit 128 = .ok (.getfield 20, 3) := by decide +kernel
theorem dX1_visit_131 : decode cX1_visit 131 = .ok (.if_icmp .ge 12, 3) := by decide +kernel
theorem dX1_visit_134 : decode cX1_visit 134 = .ok (.aload_n 0, 1) := by decide +kernel
theorem dX1_visit_135 : decode cX1_visit 135 = .ok (.getfield 16, 3) := by decide +kernel
theorem dX1_visit_138 : decode cX1_visit 138 = .ok (.iconst 1, 1) := by decide +kernel
theorem dX1_visit_139 : decode cX1_visit 139 = .ok (.iadd, 1) := by decide +kernel
theorem dX1_visit_140 : decode cX1_visit 140 = .ok (.goto 4, 3) := by decide +kernel
theorem dX1_visit_143 : decode cX1_visit 143 = .ok (.iconst 0, 1) := by decide +kernel
theorem dX1_visit_144 : decode cX1_visit 144 = .ok (.putfield 16, 3) := by decide +kernel
theorem dX1_visit_147 : decode cX1_visit 147 = .ok (.iload_n 3, 1) := by decide +kernel
theorem dX1_visit_148 : decode cX1_visit 148 = .ok (.ireturn, 1) := by decide +kernel
theorem dX1_come_0 : decode cX1_come 0 = .ok (.iload_n 1, 1) := by decide +kernel
theorem dX1_come_1 : decode cX1_come 1 = .ok (.ifCond .le 35, 3) := by decide +kernel
theorem dX1_come_4 : decode cX1_come 4 = .ok (.iconst 0, 1) := by decide +kernel
theorem dX1_come_5 : decode cX1_come 5 = .ok (.istore_n 2, 1) := by decide +kernel
theorem dX1_come_6 : decode cX1_come 6 = .ok (.iload_n 2, 1) := by decide +kernel
theorem dX1_come_7 : decode cX1_come 7 = .ok (.aload_n 0, 1) := by decide +kernel
theorem dX1_come_8 : decode cX1_come 8 = .ok (.getfield 20, 3) := by decide +kernel
theorem dX1_come_11 : decode cX1_come 11 = .ok (.if_icmp .ge 25, 3) := by decide +kernel
theorem dX1_come_14 : decode cX1_come 14 = .ok (.aload_n 0, 1) := by decide +kernel
theorem dX1_come_15 : decode cX1_come 15 = .ok (.iload_n 2, 1) := by decide +kernel
theorem dX1_come_16 : decode cX1_come 16 = .ok (.iload_n 1, 1) := by decide +kernel
theorem dX1_come_17 : decode cX1_come 17 = .ok (.aload_n 0, 1) := by decide +kernel
theorem dX1_come_18 : decode cX1_come 18 = .ok (.getfield 11, 3) := by decide +kernel
theorem dX1_come_21 : decode cX1_come 21 = .ok (.iload_n 2, 1) := by decide +kernel
theorem dX1_come_22 : decode cX1_come 22 = .ok (.aaload, 1) := by decide +kernel
theorem dX1_come_23 : decode cX1_come 23 = .ok (.iconst 3, 1) := by decide +kernel
theorem dX1_come_24 : decode cX1_come 24 = .ok (.iaload, 1) := by decide +kernel
theorem dX1_come_25 : decode cX1_come 25 = .ok (.imul, 1) := by decide +kernel
theorem dX1_come_26 : decode cX1_come 26 = .ok (.invokevirtual 70, 3) := by decide +kernel
theorem dX1_come_29 : decode cX1_come 29 = .ok (.pop, 1) := by decide +kernel
theorem dX1_come_30 : decode cX1_come 30 = .ok (.iinc 2 1, 3) := by decide +kernel
theorem dX1_come_33 : decode cX1_come 33 = .ok (.goto (-27), 3) := by decide +kernel
theorem dX1_come_36 : decode cX1_come 36 = .ok (.return_, 1) := by decide +kernel
theorem dX1_add_0 : decode cX1_add 0 = .ok (.aload_n 0, 1) := by decide +kernel
theorem dX1_add_1 : decode cX1_add 1 = .ok (.getfield 11, 3) := by decide +kernel
theorem dX1_add_4 : decode cX1_add 4 = .ok (.iload_n 1, 1) := by decide +kernel
theorem dX1_add_5 : decode cX1_add 5 = .ok (.aaload, 1) := by decide +kernel
theorem dX1_add_6 : decode cX1_add 6 = .ok (.astore_n 3, 1) := by decide +kernel
theorem dX1_add_7 : decode cX1_add 7 = .ok (.iload_n 2, 1) := by decide +kernel
theorem dX1_add_8 : decode cX1_add 8 = .ok (.bipush 99, 2) := by decide +kernel
theorem dX1_add_10 : decode cX1_add 10 = .ok (.aload_n 3, 1) := by decide +kernel
theorem dX1_add_11 : decode cX1_add 11 = .ok (.iconst 1, 1) := by decide +kernel
theorem dX1_add_12 : decode cX1_add 12 = .ok (.iaload, 1) := by decide +kernel
theorem dX1_add_13 : decode cX1_add 13 = .ok (.isub, 1) := by decide +kernel
theorem dX1_add_14 : decode cX1_add 14 = .ok (.invokestatic 49, 3) := by decide +kernel
theorem dX1_add_17 : decode cX1_add 17 = .ok (.istore 4, 2) := by decide +kernel
theorem dX1_add_19 : decode cX1_add 19 = .ok (.aload_n 3, 1) := by decide +kernel
theorem dX1_add_20 : decode cX1_add 20 = .ok (.iconst 1, 1) := by decide +kernel
theorem dX1_add_21 : decode cX1_add 21 = .ok (.dup2, 1) := by decide +kernel
theorem dX1_add_22 : decode cX1_add 22 = .ok (.iaload, 1) := by decide +kernel
theorem dX1_add_23 : decode cX1_add 23 = .ok (.iload 4, 2) := by decide +kernel
theorem dX1_add_25 : decode cX1_add 25 = .ok (.iadd, 1) := by decide +kernel
theorem dX1_add_26 : decode cX1_add 26 = .ok (.iastore, 1) := by decide +kernel
theorem dX1_add_27 : decode cX1_add 27 = .ok (.aload_n 0, 1) := by decide +kernel
theorem dX1_add_28 : decode cX1_add 28 = .ok (.dup, 1) := by decide +kernel
theorem dX1_add_29 : decode cX1_add 29 = .ok (.getfield 32, 3) := by decide +kernel
theorem dX1_add_32 : decode cX1_add 32 = .ok (.iload_n 2, 1) := by decide +kernel
theorem dX1_add_33 : decode cX1_add 33 = .ok (.iload 4, 2) := by decide +kernel
theorem dX1_add_35 : decode cX1_add 35 = .ok (.isub, 1) := by decide +kernel
theorem dX1_add_36 : decode cX1_add 36 = .ok (.iadd, 1) := by decide +kernel
theorem dX1_add_37 : decode cX1_add 37 = .ok (.putfield 32, 3) := by decide +kernel
theorem dX1_add_40 : decode cX1_add 40 = .ok (.iload_n 2, 1) := by decide +kernel
theorem dX1_add_41 : decode cX1_add 41 = .ok (.iload 4, 2) := by decide +kernel
theorem dX1_add_43 : decode cX1_add 43 = .ok (.isub, 1) := by decide +kernel
theorem dX1_add_44 : decode cX1_add 44 = .ok (.ireturn, 1) := by decide +kernel
theorem dX1_cut_0 : decode cX1_cut 0 = .ok (.aload_n 0, 1) := by decide +kernel
theorem dX1_cut_1 : decode cX1_cut 1 = .ok (.aload_n 0, 1) := by decide +kernel
theorem dX1_cut_2 : decode cX1_cut 2 = .ok (.getfield 23, 3) := by decide +kernel
theorem dX1_cut_5 : decode cX1_cut 5 = .ok (.ldc 73, 2) := by decide +kernel
theorem dX1_cut_7 : decode cX1_cut 7 = .ok (.invokestatic 49, 3) := by decide +kernel
theorem dX1_cut_10 : decode cX1_cut 10 = .ok (.putfield 23, 3) := by decide +kernel
theorem dX1_cut_13 : decode cX1_cut 13 = .ok (.aload_n 0, 1) := by decide +kernel
theorem dX1_cut_14 : decode cX1_cut 14 = .ok (.aload_n 0, 1) := by decide +kernel
theorem dX1_cut_15 : decode cX1_cut 15 = .ok (.getfield 29, 3) := by decide +kernel
theorem dX1_cut_18 : decode cX1_cut 18 = .ok (.ldc 73, 2) := by decide +kernel
theorem dX1_cut_20 : decode cX1_cut 20 = .ok (.invokestatic 49, 3) := by decide +kernel
theorem dX1_cut_23 : decode cX1_cut 23 = .ok (.putfield 29, 3) := by decide +kernel
theorem dX1_cut_26 : decode cX1_cut 26 = .ok (.aload_n 0, 1) := by decide +kernel
theorem dX1_cut_27 : decode cX1_cut 27 = .ok (.aload_n 0, 1) := by decide +kernel
theorem dX1_cut_28 : decode cX1_cut 28 = .ok (.getfield 32, 3) := by decide +kernel
theorem dX1_cut_31 : decode cX1_cut 31 = .ok (.ldc 73, 2) := by decide +kernel
theorem dX1_cut_33 : decode cX1_cut 33 = .ok (.invokestatic 49, 3) := by decide +kernel
theorem dX1_cut_36 : decode cX1_cut 36 = .ok (.putfield 32, 3) := by decide +kernel
theorem dX1_cut_39 : decode cX1_cut 39 = .ok (.return_, 1) := by decide +kernel
theorem dX2_init_0 : decode cX2_init 0 = .ok (.aload_n 0, 1) := by decide +kernel
theorem dX2_init_1 : decode cX2_init 1 = .ok (.invokespecial 3, 3) := by decide +kernel
theorem dX2_init_4 : decode cX2_init 4 = .ok (.aload_n 0, 1) := by decide +kernel
theorem dX2_init_5 : decode cX2_init 5 = .ok (.bipush 6, 2) := by decide +kernel
theorem dX2_init_7 : decode cX2_init 7 = .ok (.newarray .int, 2) := by decide +kernel
theorem dX2_init_9 : decode cX2_init 9 = .ok (.putfield 9, 3) := by decide +kernel
theorem dX2_init_12 : decode cX2_init 12 = .ok (.aload_n 0, 1) := by decide +kernel
theorem dX2_init_13 : decode cX2_init 13 = .ok (.bipush 6, 2) := by decide +kernel
theorem dX2_init_15 : decode cX2_init 15 = .ok (.newarray .int, 2) := by decide +kernel
theorem dX2_init_17 : decode cX2_init 17 = .ok (.putfield 15, 3) := by decide +kernel
theorem dX2_init_20 : decode cX2_init 20 = .ok (.aload_n 0, 1) := by decide +kernel
theorem dX2_init_21 : decode cX2_init 21 = .ok (.bipush 6, 2) := by decide +kernel
theorem dX2_init_23 : decode cX2_init 23 = .ok (.newarray .int, 2) := by decide +kernel
theorem dX2_init_25 : decode cX2_init 25 = .ok (.putfield 18, 3) := by decide +kernel
theorem dX2_init_28 : decode cX2_init 28 = .ok (.return_, 1) := by decide +kernel
theorem dX2_add_0 : decode cX2_add 0 = .ok (.aload_n 0, 1) := by decide +kernel
theorem dX2_add_1 : decode cX2_add 1 = .ok (.getfield 9, 3) := by decide +kernel
theorem dX2_add_4 : decode cX2_add 4 = .ok (.aload_n 0, 1) := by decide +kernel
theorem dX2_add_5 : decode cX2_add 5 = .ok (.getfield 21, 3) := by decide +kernel
theorem dX2_add_8 : decode cX2_add 8 = .ok (.iload_n 1, 1) := by decide +kernel
theorem dX2_add_9 : decode cX2_add 9 = .ok (.iastore, 1) := by decide +kernel
theorem dX2_add_10 : decode cX2_add 10 = .ok (.aload_n 0, 1) := by decide +kernel
theorem dX2_add_11 : decode cX2_add 11 = .ok (.getfield 15, 3) := by decide +kernel
theorem dX2_add_14 : decode cX2_add 14 = .ok (.aload_n 0, 1) := by decide +kernel
theorem dX2_add_15 : decode cX2_add 15 = .ok (.getfield 21, 3) := by decide +kernel
theorem dX2_add_18 : decode cX2_add 18 = .ok (.iload_n 2, 1) := by decide +kernel
theorem dX2_add_19 : decode cX2_add 19 = .ok (.iastore, 1) := by decide +kernel
theorem dX2_add_20 : decode cX2_add 20 = .ok (.aload_n 0, 1) := by decide +kernel
theorem dX2_add_21 : decode cX2_add 21 = .ok (.getfield 18, 3) := by decide +kernel
theorem dX2_add_24 : decode cX2_add 24 = .ok (.aload_n 0, 1) := by decide +kernel
theorem dX2_add_25 : decode cX2_add 25 = .ok (.getfield 21, 3) := by decide +kernel
theorem dX2_add_28 : decode cX2_add 28 = .ok (.iload_n 3, 1) := by decide +kernel
theorem dX2_add_29 : decode cX2_add 29 = .ok (.iastore, 1) := by decide +kernel
theorem dX2_add_30 : decode cX2_add 30 = .ok (.aload_n 0, 1) := by decide +kernel
theorem dX2_add_31 : decode cX2_add 31 = .ok (.dup, 1) := by decide +kernel
theorem dX2_add_32 : decode cX2_add 32 = .ok (.getfield 21, 3) := by decide +kernel
theorem dX2_add_35 : decode cX2_add 35 = .ok (.iconst 1, 1) := by decide +kernel
theorem dX2_add_36 : decode cX2_add 36 = .ok (.iadd, 1) := by decide +kernel
theorem dX2_add_37 : decode cX2_add 37 = .ok (.putfield 21, 3) := by decide +kernel
theorem dX2_add_40 : decode cX2_add 40 = .ok (.return_, 1) := by decide +kernel
theorem dX2_copyFrom_0 : decode cX2_copyFrom 0 = .ok (.aload_n 1, 1) := by decide +kernel
theorem dX2_copyFrom_1 : decode cX2_copyFrom 1 = .ok (.getfield 9, 3) := by decide +kernel
theorem dX2_copyFrom_4 : decode cX2_copyFrom 4 = .ok (.iconst 0, 1) := by decide +kernel
theorem dX2_copyFrom_5 : decode cX2_copyFrom 5 = .ok (.aload_n 0, 1) := by decide +kernel
theorem dX2_copyFrom_6 : decode cX2_copyFrom 6 = .ok (.getfield 9, 3) := by decide +kernel
theorem dX2_copyFrom_9 : decode cX2_copyFrom 9 = .ok (.iconst 0, 1) := by decide +kernel
theorem dX2_copyFrom_10 : decode cX2_copyFrom 10 = .ok (.bipush 6, 2) := by decide +kernel
theorem dX2_copyFrom_12 : decode cX2_copyFrom 12 = .ok (.invokestatic 25, 3) := by decide +kernel
theorem dX2_copyFrom_15 : decode cX2_copyFrom 15 = .ok (.aload_n 1, 1) := by decide +kernel
theorem dX2_copyFrom_16 : decode cX2_copyFrom 16 = .ok (.getfield 15, 3) := by decide +kernel
theorem dX2_copyFrom_19 : decode cX2_copyFrom 19 = .ok (.iconst 0, 1) := by decide +kernel
theorem dX2_copyFrom_20 : decode cX2_copyFrom 20 = .ok (.aload_n 0, 1) := by decide +kernel
theorem dX2_copyFrom_21 : decode cX2_copyFrom 21 = .ok (.getfield 15, 3) := by decide +kernel
theorem dX2_copyFrom_24 : decode cX2_copyFrom 24 = .ok (.iconst 0, 1) := by decide +kernel
theorem dX2_copyFrom_25 : decode cX2_copyFrom 25 = .ok (.bipush 6, 2) := by decide +kernel
theorem dX2_copyFrom_27 : decode cX2_copyFrom 27 = .ok (.invokestatic 25, 3) := by decide +kernel
theorem dX2_copyFrom_30 : decode cX2_copyFrom 30 = .ok (.aload_n 1, 1) := by decide +kernel
theorem dX2_copyFrom_31 : decode cX2_copyFrom 31 = .ok (.getfield 18, 3) := by decide +kernel
theorem dX2_copyFrom_34 : decode cX2_copyFrom 34 = .ok (.iconst 0, 1) := by decide +kernel
theorem dX2_copyFrom_35 : decode cX2_copyFrom 35 = .ok (.aload_n 0, 1) := by decide +kernel
theorem dX2_copyFrom_36 : decode cX2_copyFrom 36 = .ok (.getfield 18, 3) := by decide +kernel
theorem dX2_copyFrom_39 : decode cX2_copyFrom 39 = .ok (.iconst 0, 1) := by decide +kernel
theorem dX2_copyFrom_40 : decode cX2_copyFrom 40 = .ok (.bipush 6, 2) := by decide +kernel
theorem dX2_copyFrom_42 : decode cX2_copyFrom 42 = .ok (.invokestatic 25, 3) := by decide +kernel
theorem dX2_copyFrom_45 : decode cX2_copyFrom 45 = .ok (.aload_n 0, 1) := by decide +kernel
theorem dX2_copyFrom_46 : decode cX2_copyFrom 46 = .ok (.aload_n 1, 1) := by decide +kernel
theorem dX2_copyFrom_47 : decode cX2_copyFrom 47 = .ok (.getfield 21, 3) := by decide +kernel
theorem dX2_copyFrom_50 : decode cX2_copyFrom 50 = .ok (.putfield 21, 3) := by decide +kernel
theorem dX2_copyFrom_53 : decode cX2_copyFrom 53 = .ok (.return_, 1) := by decide +kernel
theorem dX2_fits_0 : decode cX2_fits 0 = .ok (.aload_n 0, 1) := by decide +kernel
theorem dX2_fits_1 : decode cX2_fits 1 = .ok (.invokevirtual 31, 3) := by decide +kernel
theorem dX2_fits_4 : decode cX2_fits 4 = .ok (.istore_n 2, 1) := by decide +kernel
theorem dX2_fits_5 : decode cX2_fits 5 = .ok (.aload_n 0, 1) := by decide +kernel
theorem dX2_fits_6 : decode cX2_fits 6 = .ok (.aload_n 1, 1) := by decide +kernel
theorem dX2_fits_7 : decode cX2_fits 7 = .ok (.iconst 0, 1) := by decide +kernel
theorem dX2_fits_8 : decode cX2_fits 8 = .ok (.invokevirtual 35, 3) := by decide +kernel
theorem dX2_fits_11 : decode cX2_fits 11 = .ok (.istore_n 3, 1) := by decide +kernel
theorem dX2_fits_12 : decode cX2_fits 12 = .ok (.iconst 1, 1) := by decide +kernel
theorem dX2_fits_13 : decode cX2_fits 13 = .ok (.istore 4, 2) := by decide +kernel
theorem dX2_fits_15 : decode cX2_fits 15 = .ok (.iload 4, 2) := by decide +kernel
theorem dX2_fits_17 : decode cX2_fits 17 = .ok (.iload_n 2, 1) := by decide +kernel
theorem dX2_fits_18 : decode cX2_fits 18 = .ok (.if_icmp .gt 27, 3) := by decide +kernel
theorem dX2_fits_21 : decode cX2_fits 21 = .ok (.iload_n 3, 1) := by decide +kernel
theorem dX2_fits_22 : decode cX2_fits 22 = .ok (.ifCond .eq 23, 3) := by decide +kernel
theorem dX2_fits_25 : decode cX2_fits 25 = .ok (.aload_n 1, 1) := by decide +kernel
theorem dX2_fits_26 : decode cX2_fits 26 = .ok (.iconst 1, 1) := by decide +kernel
theorem dX2_fits_27 : decode cX2_fits 27 = .ok (.invokevirtual 39, 3) := by decide +kernel
theorem dX2_fits_30 : decode cX2_fits 30 = .ok (.pop, 1) := by decide +kernel
theorem dX2_fits_31 : decode cX2_fits 31 = .ok (.aload_n 0, 1) := by decide +kernel
theorem dX2_fits_32 : decode cX2_fits 32 = .ok (.aload_n 1, 1) := by decide +kernel
theorem dX2_fits_33 : decode cX2_fits 33 = .ok (.iload 4, 2) := by decide +kernel
theorem dX2_fits_35 : decode cX2_fits 35 = .ok (.invokevirtual 35, 3) := by decide +kernel
theorem dX2_fits_38 : decode cX2_fits 38 = .ok (.istore_n 3, 1) := by decide +kernel
theorem dX2_fits_39 : decode cX2_fits 39 = .ok (.iinc 4 1, 3) := by decide +kernel
theorem dX2_fits_42 : decode cX2_fits 42 = .ok (.goto (-27), 3) := by decide +kernel
theorem dX2_fits_45 : decode cX2_fits 45 = .ok (.iload_n 3, 1) := by decide +kernel
theorem dX2_fits_46 : decode cX2_fits 46 = .ok (.ireturn, 1) := by decide +kernel
theorem dX2_latest_0 : decode cX2_latest 0 = .ok (.iconst 0, 1) := by decide +kernel
theorem dX2_latest_1 : decode cX2_latest 1 = .ok (.istore_n 1, 1) := by decide +kernel
theorem dX2_latest_2 : decode cX2_latest 2 = .ok (.iconst 0, 1) := by decide +kernel
theorem dX2_latest_3 : decode cX2_latest 3 = .ok (.istore_n 2, 1) := by decide +kernel
theorem dX2_latest_4 : decode cX2_latest 4 = .ok (.iload_n 2, 1) := by decide +kernel
theorem dX2_latest_5 : decode cX2_latest 5 = .ok (.aload_n 0, 1) := by decide +kernel
theorem dX2_latest_6 : decode cX2_latest 6 = .ok (.getfield 21, 3) := by decide +kernel
theorem dX2_latest_9 : decode cX2_latest 9 = .ok (.if_icmp .ge 20, 3) := by decide +kernel
theorem dX2_latest_12 : decode cX2_latest 12 = .ok (.iload_n 1, 1) := by decide +kernel
theorem dX2_latest_13 : decode cX2_latest 13 = .ok (.aload_n 0, 1) := by decide +kernel
theorem dX2_latest_14 : decode cX2_latest 14 = .ok (.getfield 9, 3) := by decide +kernel
theorem dX2_latest_17 : decode cX2_latest 17 = .ok (.iload_n 2, 1) := by decide +kernel
theorem dX2_latest_18 : decode cX2_latest 18 = .ok (.iaload, 1) := by decide +kernel
theorem dX2_latest_19 : decode cX2_latest 19 = .ok (.invokestatic 45, 3) := by decide +kernel
theorem dX2_latest_22 : decode cX2_latest 22 = .ok (.istore_n 1, 1) := by decide +kernel
theorem dX2_latest_23 : decode cX2_latest 23 = .ok (.iinc 2 1, 3) := by decide +kernel
theorem dX2_latest_26 : decode cX2_latest 26 = .ok (.goto (-22), 3) := by decide +kernel
theorem dX2_latest_29 : decode cX2_latest 29 = .ok (.iload_n 1, 1) := by decide +kernel
theorem dX2_latest_30 : decode cX2_latest 30 = .ok (.ireturn, 1) := by decide +kernel
theorem dX2_fitsBehind_0 : decode cX2_fitsBehind 0 = .ok (.iconst 0, 1) := by decide +kernel
theorem dX2_fitsBehind_1 : decode cX2_fitsBehind 1 = .ok (.istore_n 3, 1) := by decide +kernel
theorem dX2_fitsBehind_2 : decode cX2_fitsBehind 2 = .ok (.iload_n 3, 1) := by decide +kernel
theorem dX2_fitsBehind_3 : decode cX2_fitsBehind 3 = .ok (.aload_n 0, 1) := by decide +kernel
theorem dX2_fitsBehind_4 : decode cX2_fitsBehind 4 = .ok (.getfield 21, 3) := by decide +kernel
theorem dX2_fitsBehind_7 : decode cX2_fitsBehind 7 = .ok (.if_icmp .ge 56, 3) := by decide +kernel
theorem dX2_fitsBehind_10 : decode cX2_fitsBehind 10 = .ok (.aload_n 0, 1) := by decide +kernel
theorem dX2_fitsBehind_11 : decode cX2_fitsBehind 11 = .ok (.getfield 9, 3) := by decide +kernel
theorem dX2_fitsBehind_14 : decode cX2_fitsBehind 14 = .ok (.iload_n 3, 1) := by decide +kernel
theorem dX2_fitsBehind_15 : decode cX2_fitsBehind 15 = .ok (.iaload, 1) := by decide +kernel
theorem dX2_fitsBehind_16 : decode cX2_fitsBehind 16 = .ok (.iload_n 2, 1) := by decide +kernel
theorem dX2_fitsBehind_17 : decode cX2_fitsBehind 17 = .ok (.if_icmp .ne 40, 3) := by decide +kernel
theorem dX2_fitsBehind_20 : decode cX2_fitsBehind 20 = .ok (.aload_n 1, 1) := by decide +kernel
theorem dX2_fitsBehind_21 : decode cX2_fitsBehind 21 = .ok (.aload_n 0, 1) := by decide +kernel
theorem dX2_fitsBehind_22 : decode cX2_fitsBehind 22 = .ok (.getfield 15, 3) := by decide +kernel
theorem dX2_fitsBehind_25 : decode cX2_fitsBehind 25 = .ok (.iload_n 3, 1) := by decide +kernel
theorem dX2_fitsBehind_26 : decode cX2_fitsBehind 26 = .ok (.iaload, 1) := by decide +kernel
theorem dX2_fitsBehind_27 : decode cX2_fitsBehind 27 = .ok (.invokevirtual 51, 3) := by decide +kernel
theorem dX2_fitsBehind_30 : decode cX2_fitsBehind 30 = .ok (.ifCond .eq 27, 3) := by decide +kernel
theorem dX2_fitsBehind_33 : decode cX2_fitsBehind 33 = .ok (.aload_n 1, 1) := by decide +kernel
theorem dX2_fitsBehind_34 : decode cX2_fitsBehind 34 = .ok (.getfield 55, 3) := by decide +kernel
theorem dX2_fitsBehind_37 : decode cX2_fitsBehind 37 = .ok (.aload_n 0, 1) := by decide +kernel
theorem dX2_fitsBehind_38 : decode cX2_fitsBehind 38 = .ok (.getfield 15, 3) := by decide +kernel
theorem dX2_fitsBehind_41 : decode cX2_fitsBehind 41 = .ok (.iload_n 3, 1) := by decide +kernel
theorem dX2_fitsBehind_42 : decode cX2_fitsBehind 42 = .ok (.iaload, 1) := by decide +kernel
theorem dX2_fitsBehind_43 : decode cX2_fitsBehind 43 = .ok (.aaload, 1) := by decide +kernel
theorem dX2_fitsBehind_44 : decode cX2_fitsBehind 44 = .ok (.iconst 1, 1) := by decide +kernel
theorem dX2_fitsBehind_45 : decode cX2_fitsBehind 45 = .ok (.iaload, 1) := by decide +kernel
theorem dX2_fitsBehind_46 : decode cX2_fitsBehind 46 = .ok (.aload_n 0, 1) := by decide +kernel
theorem dX2_fitsBehind_47 : decode cX2_fitsBehind 47 = .ok (.getfield 18, 3) := by decide +kernel
theorem dX2_fitsBehind_50 : decode cX2_fitsBehind 50 = .ok (.iload_n 3, 1) := by decide +kernel
theorem dX2_fitsBehind_51 : decode cX2_fitsBehind 51 = .ok (.iaload, 1) := by decide +kernel
theorem dX2_fitsBehind_52 : decode cX2_fitsBehind 52 = .ok (.if_icmp .eq 5, 3) := by decide +kernel
theorem dX2_fitsBehind_55 : decode cX2_fitsBehind 55 = .ok (.iconst 0, 1) := by decide +kernel
theorem dX2_fitsBehind_56 : decode cX2_fitsBehind 56 = .ok (.ireturn, 1) := by decide +kernel
theorem dX2_fitsBehind_57 : decode cX2_fitsBehind 57 = .ok (.iinc 3 1, 3) := by decide +kernel
theorem dX2_fitsBehind_60 : decode cX2_fitsBehind 60 = .ok (.goto (-58), 3) := by decide +kernel
theorem dX2_fitsBehind_63 : decode cX2_fitsBehind 63 = .ok (.iconst 1, 1) := by decide +kernel
theorem dX2_fitsBehind_64 : decode cX2_fitsBehind 64 = .ok (.ireturn, 1) := by decide +kernel
theorem dX3_init_0 : decode cX3_init 0 = .ok (.aload_n 0, 1) := by decide +kernel
theorem dX3_init_1 : decode cX3_init 1 = .ok (.invokespecial 3, 3) := by decide +kernel
theorem dX3_init_4 : decode cX3_init 4 = .ok (.aload_n 0, 1) := by decide +kernel
theorem dX3_init_5 : decode cX3_init 5 = .ok (.bipush 40, 2) := by decide +kernel
theorem dX3_init_7 : decode cX3_init 7 = .ok (.newarray .int, 2) := by decide +kernel
theorem dX3_init_9 : decode cX3_init 9 = .ok (.putfield 9, 3) := by decide +kernel
theorem dX3_init_12 : decode cX3_init 12 = .ok (.aload_n 0, 1) := by decide +kernel
theorem dX3_init_13 : decode cX3_init 13 = .ok (.bipush (-4), 2) := by decide +kernel
theorem dX3_init_15 : decode cX3_init 15 = .ok (.putfield 15, 3) := by decide +kernel
theorem dX3_init_18 : decode cX3_init 18 = .ok (.aload_n 0, 1) := by decide +kernel
theorem dX3_init_19 : decode cX3_init 19 = .ok (.bipush (-4), 2) := by decide +kernel
theorem dX3_init_21 : decode cX3_init 21 = .ok (.putfield 19, 3) := by decide +kernel
theorem dX3_init_24 : decode cX3_init 24 = .ok (.return_, 1) := by decide +kernel
theorem dX3_renew_0 : decode cX3_renew 0 = .ok (.aload_n 0, 1) := by decide +kernel
theorem dX3_renew_1 : decode cX3_renew 1 = .ok (.iload_n 1, 1) := by decide +kernel
theorem dX3_renew_2 : decode cX3_renew 2 = .ok (.putfield 15, 3) := by decide +kernel
theorem dX3_renew_5 : decode cX3_renew 5 = .ok (.aload_n 0, 1) := by decide +kernel
theorem dX3_renew_6 : decode cX3_renew 6 = .ok (.iload_n 2, 1) := by decide +kernel
theorem dX3_renew_7 : decode cX3_renew 7 = .ok (.putfield 19, 3) := by decide +kernel
theorem dX3_renew_10 : decode cX3_renew 10 = .ok (.iconst 0, 1) := by decide +kernel
theorem dX3_renew_11 : decode cX3_renew 11 = .ok (.istore_n 3, 1) := by decide +kernel
theorem dX3_renew_12 : decode cX3_renew 12 = .ok (.iload_n 3, 1) := by decide +kernel
theorem dX3_renew_13 : decode cX3_renew 13 = .ok (.bipush 40, 2) := by decide +kernel
theorem dX3_renew_15 : decode cX3_renew 15 = .ok (.if_icmp .ge 16, 3) := by decide +kernel
theorem dX3_renew_18 : decode cX3_renew 18 = .ok (.aload_n 0, 1) := by decide +kernel
theorem dX3_renew_19 : decode cX3_renew 19 = .ok (.getfield 9, 3) := by decide +kernel
theorem dX3_renew_22 : decode cX3_renew 22 = .ok (.iload_n 3, 1) := by decide +kernel
theorem dX3_renew_23 : decode cX3_renew 23 = .ok (.iconst 0, 1) := by decide +kernel
theorem dX3_renew_24 : decode cX3_renew 24 = .ok (.iastore, 1) := by decide +kernel
theorem dX3_renew_25 : decode cX3_renew 25 = .ok (.iinc 3 1, 3) := by decide +kernel
theorem dX3_renew_28 : decode cX3_renew 28 = .ok (.goto (-16), 3) := by decide +kernel
theorem dX3_renew_31 : decode cX3_renew 31 = .ok (.return_, 1) := by decide +kernel
theorem dX3_write_0 : decode cX3_write 0 = .ok (.aload_n 0, 1) := by decide +kernel
theorem dX3_write_1 : decode cX3_write 1 = .ok (.getfield 15, 3) := by decide +kernel
theorem dX3_write_4 : decode cX3_write 4 = .ok (.lookupswitch 50 #[(0, 28), (1, 39)], 28) := by decide +kernel
theorem dX3_write_32 : decode cX3_write 32 = .ok (.aload_n 0, 1) := by decide +kernel
theorem dX3_write_33 : decode cX3_write 33 = .ok (.getfield 9, 3) := by decide +kernel
theorem dX3_write_36 : decode cX3_write 36 = .ok (.iload_n 1, 1) := by decide +kernel
theorem dX3_write_37 : decode cX3_write 37 = .ok (.iload_n 2, 1) := by decide +kernel
theorem dX3_write_38 : decode cX3_write 38 = .ok (.i2b, 1) := by decide +kernel
theorem dX3_write_39 : decode cX3_write 39 = .ok (.iastore, 1) := by decide +kernel
theorem dX3_write_40 : decode cX3_write 40 = .ok (.goto 21, 3) := by decide +kernel
theorem dX3_write_43 : decode cX3_write 43 = .ok (.aload_n 0, 1) := by decide +kernel
theorem dX3_write_44 : decode cX3_write 44 = .ok (.getfield 9, 3) := by decide +kernel
theorem dX3_write_47 : decode cX3_write 47 = .ok (.iload_n 1, 1) := by decide +kernel
theorem dX3_write_48 : decode cX3_write 48 = .ok (.iload_n 2, 1) := by decide +kernel
theorem dX3_write_49 : decode cX3_write 49 = .ok (.i2s, 1) := by decide +kernel
theorem dX3_write_50 : decode cX3_write 50 = .ok (.iastore, 1) := by decide +kernel
theorem dX3_write_51 : decode cX3_write 51 = .ok (.goto 10, 3) := by decide +kernel
theorem dX3_write_54 : decode cX3_write 54 = .ok (.aload_n 0, 1) := by decide +kernel
theorem dX3_write_55 : decode cX3_write 55 = .ok (.getfield 9, 3) := by decide +kernel
theorem dX3_write_58 : decode cX3_write 58 = .ok (.iload_n 1, 1) := by decide +kernel
theorem dX3_write_59 : decode cX3_write 59 = .ok (.iload_n 2, 1) := by decide +kernel
theorem dX3_write_60 : decode cX3_write 60 = .ok (.iastore, 1) := by decide +kernel
theorem dX3_write_61 : decode cX3_write 61 = .ok (.return_, 1) := by decide +kernel
theorem dX3_faultAt_0 : decode cX3_faultAt 0 = .ok (.aload_n 0, 1) := by decide +kernel
theorem dX3_faultAt_1 : decode cX3_faultAt 1 = .ok (.getfield 19, 3) := by decide +kernel
theorem dX3_faultAt_4 : decode cX3_faultAt 4 = .ok (.bipush (-4), 2) := by decide +kernel
theorem dX3_faultAt_6 : decode cX3_faultAt 6 = .ok (.if_icmp .ne 5, 3) := by decide +kernel
theorem dX3_faultAt_9 : decode cX3_faultAt 9 = .ok (.iconst 1, 1) := by decide +kernel
theorem dX3_faultAt_10 : decode cX3_faultAt 10 = .ok (.ireturn, 1) := by decide +kernel
theorem dX3_faultAt_11 : decode cX3_faultAt 11 = .ok (.iload_n 1, 1) := by decide +kernel
theorem dX3_faultAt_12 : decode cX3_faultAt 12 = .ok (.aload_n 0, 1) := by decide +kernel
theorem dX3_faultAt_13 : decode cX3_faultAt 13 = .ok (.getfield 15, 3) := by decide +kernel
theorem dX3_faultAt_16 : decode cX3_faultAt 16 = .ok (.if_icmp .eq 5, 3) := by decide +kernel
theorem dX3_faultAt_19 : decode cX3_faultAt 19 = .ok (.iconst 3, 1) := by decide +kernel
theorem dX3_faultAt_20 : decode cX3_faultAt 20 = .ok (.ireturn, 1) := by decide +kernel
theorem dX3_faultAt_21 : decode cX3_faultAt 21 = .ok (.iload_n 2, 1) := by decide +kernel
theorem dX3_faultAt_22 : decode cX3_faultAt 22 = .ok (.iconst 0, 1) := by decide +kernel
theorem dX3_faultAt_23 : decode cX3_faultAt 23 = .ok (.aload_n 0, 1) := by decide +kernel
theorem dX3_faultAt_24 : decode cX3_faultAt 24 = .ok (.getfield 19, 3) := by decide +kernel
theorem dX3_faultAt_27 : decode cX3_faultAt 27 = .ok (.iconst 1, 1) := by decide +kernel
theorem dX3_faultAt_28 : decode cX3_faultAt 28 = .ok (.isub, 1) := by decide +kernel
theorem dX3_faultAt_29 : decode cX3_faultAt 29 = .ok (.invokestatic 22, 3) := by decide +kernel
theorem dX3_faultAt_32 : decode cX3_faultAt 32 = .ok (.ifCond .eq 7, 3) := by decide +kernel
theorem dX3_faultAt_35 : decode cX3_faultAt 35 = .ok (.iconst 2, 1) := by decide +kernel
theorem dX3_faultAt_36 : decode cX3_faultAt 36 = .ok (.goto 4, 3) := by decide +kernel
theorem dX3_faultAt_39 : decode cX3_faultAt 39 = .ok (.iconst 0, 1) := by decide +kernel
theorem dX3_faultAt_40 : decode cX3_faultAt 40 = .ok (.ireturn, 1) := by decide +kernel
theorem dX3_faultOfPair_0 : decode cX3_faultOfPair 0 = .ok (.aload_n 0, 1) := by decide +kernel
theorem dX3_faultOfPair_1 : decode cX3_faultOfPair 1 = .ok (.iload_n 1, 1) := by decide +kernel
theorem dX3_faultOfPair_2 : decode cX3_faultOfPair 2 = .ok (.iload_n 2, 1) := by decide +kernel
theorem dX3_faultOfPair_3 : decode cX3_faultOfPair 3 = .ok (.invokevirtual 26, 3) := by decide +kernel
theorem dX3_faultOfPair_6 : decode cX3_faultOfPair 6 = .ok (.istore_n 3, 1) := by decide +kernel
theorem dX3_faultOfPair_7 : decode cX3_faultOfPair 7 = .ok (.iload_n 3, 1) := by decide +kernel
theorem dX3_faultOfPair_8 : decode cX3_faultOfPair 8 = .ok (.ifCond .eq 7, 3) := by decide +kernel
theorem dX3_faultOfPair_11 : decode cX3_faultOfPair 11 = .ok (.iload_n 3, 1) := by decide +kernel
theorem dX3_faultOfPair_12 : decode cX3_faultOfPair 12 = .ok (.goto 11, 3) := by decide +kernel
theorem dX3_faultOfPair_15 : decode cX3_faultOfPair 15 = .ok (.aload_n 0, 1) := by decide +kernel
theorem dX3_faultOfPair_16 : decode cX3_faultOfPair 16 = .ok (.iload_n 1, 1) := by decide +kernel
theorem dX3_faultOfPair_17 : decode cX3_faultOfPair 17 = .ok (.iload_n 2, 1) := by decide +kernel
theorem dX3_faultOfPair_18 : decode cX3_faultOfPair 18 = .ok (.iconst 1, 1) := by decide +kernel
theorem dX3_faultOfPair_19 : decode cX3_faultOfPair 19 = .ok (.iadd, 1) := by decide +kernel
theorem dX3_faultOfPair_20 : decode cX3_faultOfPair 20 = .ok (.invokevirtual 26, 3) := by decide +kernel
theorem dX3_faultOfPair_23 : decode cX3_faultOfPair 23 = .ok (.ireturn, 1) := by decide +kernel
theorem dX4_init_0 : decode cX4_init 0 = .ok (.aload_n 0, 1) := by decide +kernel
theorem dX4_init_1 : decode cX4_init 1 = .ok (.invokespecial 3, 3) := by decide +kernel
theorem dX4_init_4 : decode cX4_init 4 = .ok (.aload_n 0, 1) := by decide +kernel
theorem dX4_init_5 : decode cX4_init 5 = .ok (.sipush 160, 3) := by decide +kernel
theorem dX4_init_8 : decode cX4_init 8 = .ok (.newarray .byte, 2) := by decide +kernel
theorem dX4_init_10 : decode cX4_init 10 = .ok (.putfield 9, 3) := by decide +kernel
theorem dX4_init_13 : decode cX4_init 13 = .ok (.return_, 1) := by decide +kernel
theorem dX4_tellAll_0 : decode cX4_tellAll 0 = .ok (.aload_n 1, 1) := by decide +kernel
theorem dX4_tellAll_1 : decode cX4_tellAll 1 = .ok (.invokevirtual 15, 3) := by decide +kernel
theorem dX4_tellAll_4 : decode cX4_tellAll 4 = .ok (.aload_n 0, 1) := by decide +kernel
theorem dX4_tellAll_5 : decode cX4_tellAll 5 = .ok (.iconst 0, 1) := by decide +kernel
theorem dX4_tellAll_6 : decode cX4_tellAll 6 = .ok (.putfield 20, 3) := by decide +kernel
theorem dX4_tellAll_9 : decode cX4_tellAll 9 = .ok (.aload_n 0, 1) := by decide +kernel
theorem dX4_tellAll_10 : decode cX4_tellAll 10 = .ok (.iconst 0, 1) := by decide +kernel
theorem dX4_tellAll_11 : decode cX4_tellAll 11 = .ok (.putfield 24, 3) := by decide +kernel
theorem dX4_tellAll_14 : decode cX4_tellAll 14 = .ok (.iconst 0, 1) := by decide +kernel
theorem dX4_tellAll_15 : decode cX4_tellAll 15 = .ok (.istore_n 2, 1) := by decide +kernel
theorem dX4_tellAll_16 : decode cX4_tellAll 16 = .ok (.aload_n 0, 1) := by decide +kernel
theorem dX4_tellAll_17 : decode cX4_tellAll 17 = .ok (.invokevirtual 27, 3) := by decide +kernel
theorem dX4_tellAll_20 : decode cX4_tellAll 20 = .ok (.aload_n 0, 1) := by decide +kernel
theorem dX4_tellAll_21 : decode cX4_tellAll 21 = .ok (.getfield 20, 3) := by decide +kernel
theorem dX4_tellAll_24 : decode cX4_tellAll 24 = .ok (.ifCond .ne 39, 3) := by decide +kernel
theorem dX4_tellAll_27 : decode cX4_tellAll 27 = .ok (.aload_n 0, 1) := by decide +kernel
theorem dX4_tellAll_28 : decode cX4_tellAll 28 = .ok (.getfield 30, 3) := by decide +kernel
theorem dX4_tellAll_31 : decode cX4_tellAll 31 = .ok (.ifCond .eq 32, 3) := by decide +kernel
theorem dX4_tellAll_34 : decode cX4_tellAll 34 = .ok (.iload_n 2, 1) := by decide +kernel
theorem dX4_tellAll_35 : decode cX4_tellAll 35 = .ok (.sipush 160, 3) := by decide +kernel
theorem dX4_tellAll_38 : decode cX4_tellAll 38 = .ok (.if_icmp .ge 25, 3) := by decide +kernel
theorem dX4_tellAll_41 : decode cX4_tellAll 41 = .ok (.aload_n 0, 1) := by decide +kernel
theorem dX4_tellAll_42 : decode cX4_tellAll 42 = .ok (.aload_n 1, 1) := by decide +kernel
theorem dX4_tellAll_43 : decode cX4_tellAll 43 = .ok (.invokevirtual 33, 3) := by decide +kernel
theorem dX4_tellAll_46 : decode cX4_tellAll 46 = .ok (.iinc 2 1, 3) := by decide +kernel
theorem dX4_tellAll_49 : decode cX4_tellAll 49 = .ok (.aload_n 0, 1) := by decide +kernel
theorem dX4_tellAll_50 : decode cX4_tellAll 50 = .ok (.getfield 20, 3) := by decide +kernel
theorem dX4_tellAll_53 : decode cX4_tellAll 53 = .ok (.ifCond .ne (-33), 3) := by decide +kernel
theorem dX4_tellAll_56 : decode cX4_tellAll 56 = .ok (.aload_n 0, 1) := by decide +kernel
theorem dX4_tellAll_57 : decode cX4_tellAll 57 = .ok (.invokevirtual 27, 3) := by decide +kernel
theorem dX4_tellAll_60 : decode cX4_tellAll 60 = .ok (.goto (-40), 3) := by decide +kernel
theorem dX4_tellAll_63 : decode cX4_tellAll 63 = .ok (.aload_n 0, 1) := by decide +kernel
theorem dX4_tellAll_64 : decode cX4_tellAll 64 = .ok (.aload_n 1, 1) := by decide +kernel
theorem dX4_tellAll_65 : decode cX4_tellAll 65 = .ok (.invokevirtual 37, 3) := by decide +kernel
theorem dX4_tellAll_68 : decode cX4_tellAll 68 = .ok (.iload_n 2, 1) := by decide +kernel
theorem dX4_tellAll_69 : decode cX4_tellAll 69 = .ok (.ireturn, 1) := by decide +kernel
theorem dX4_placeWord_0 : decode cX4_placeWord 0 = .ok (.aload_n 1, 1) := by decide +kernel
theorem dX4_placeWord_1 : decode cX4_placeWord 1 = .ok (.getfield 40, 3) := by decide +kernel
theorem dX4_placeWord_4 : decode cX4_placeWord 4 = .ok (.bipush (-4), 2) := by decide +kernel
theorem dX4_placeWord_6 : decode cX4_placeWord 6 = .ok (.if_icmp .ne 23, 3) := by decide +kernel
theorem dX4_placeWord_9 : decode cX4_placeWord 9 = .ok (.aload_n 1, 1) := by decide +kernel
theorem dX4_placeWord_10 : decode cX4_placeWord 10 = .ok (.aload_n 1, 1) := by decide +kernel
theorem dX4_placeWord_11 : decode cX4_placeWord 11 = .ok (.getfield 43, 3) := by decide +kernel
theorem dX4_placeWord_14 : decode cX4_placeWord 14 = .ok (.ifCond .le 7, 3) := by decide +kernel
theorem dX4_placeWord_17 : decode cX4_placeWord 17 = .ok (.iconst 0, 1) := by decide +kernel
theorem dX4_placeWord_18 : decode cX4_placeWord 18 = .ok (.goto 5, 3) := by decide +kernel
theorem dX4_placeWord_21 : decode cX4_placeWord 21 = .ok (.bipush (-4), 2) := by decide +kernel
theorem dX4_placeWord_23 : decode cX4_placeWord 23 = .ok (.putfield 40, 3) := by decide +kernel
theorem dX4_placeWord_26 : decode cX4_placeWord 26 = .ok (.goto 31, 3) := by decide +kernel
theorem dX4_placeWord_29 : decode cX4_placeWord 29 = .ok (.aload_n 0, 1) := by decide +kernel
theorem dX4_placeWord_30 : decode cX4_placeWord 30 = .ok (.getfield 20, 3) := by decide +kernel
theorem dX4_placeWord_33 : decode cX4_placeWord 33 = .ok (.ifCond .ne 24, 3) := by decide +kernel
theorem dX4_placeWord_36 : decode cX4_placeWord 36 = .ok (.aload_n 1, 1) := by decide +kernel
theorem dX4_placeWord_37 : decode cX4_placeWord 37 = .ok (.aload_n 1, 1) := by decide +kernel
theorem dX4_placeWord_38 : decode cX4_placeWord 38 = .ok (.getfield 40, 3) := by decide +kernel
theorem dX4_placeWord_41 : decode cX4_placeWord 41 = .ok (.invokevirtual 46, 3) := by decide +kernel
theorem dX4_placeWord_44 : decode cX4_placeWord 44 = .ok (.ifCond .ne 13, 3) := by decide +kernel
theorem dX4_placeWord_47 : decode cX4_placeWord 47 = .ok (.aload_n 0, 1) := by decide +kernel
theorem dX4_placeWord_48 : decode cX4_placeWord 48 = .ok (.bipush 6, 2) := by decide +kernel
theorem dX4_placeWord_50 : decode cX4_placeWord 50 = .ok (.aload_n 0, 1) := by decide +kernel
theorem dX4_placeWord_51 : decode cX4_placeWord 51 = .ok (.getfield 50, 3) := by decide +kernel
theorem dX4_placeWord_54 : decode cX4_placeWord 54 = .ok (.invokevirtual 53, 3) := by decide +kernel
theorem dX4_placeWord_57 : decode cX4_placeWord 57 = .ok (.return_, 1) := by decide +kernel
theorem dX4_takeLine_0 : decode cX4_takeLine 0 = .ok (.aload_n 0, 1) := by decide +kernel
theorem dX4_takeLine_1 : decode cX4_takeLine 1 = .ok (.invokevirtual 57, 3) := by decide +kernel
theorem dX4_takeLine_4 : decode cX4_takeLine 4 = .ok (.istore_n 2, 1) := by decide +kernel
theorem dX4_takeLine_5 : decode cX4_takeLine 5 = .ok (.iload_n 2, 1) := by decide +kernel
theorem dX4_takeLine_6 : decode cX4_takeLine 6 = .ok (.bipush (-4), 2) := by decide +kernel
theorem dX4_takeLine_8 : decode cX4_takeLine 8 = .ok (.if_icmp .ne 15, 3) := by decide +kernel
theorem dX4_takeLine_11 : decode cX4_takeLine 11 = .ok (.aload_n 0, 1) := by decide +kernel
theorem dX4_takeLine_12 : decode cX4_takeLine 12 = .ok (.iconst 2, 1) := by decide +kernel
theorem dX4_takeLine_13 : decode cX4_takeLine 13 = .ok (.aload_n 0, 1) := by decide +kernel
theorem dX4_takeLine_14 : decode cX4_takeLine 14 = .ok (.getfield 61, 3) := by decide +kernel
theorem dX4_takeLine_17 : decode cX4_takeLine 17 = .ok (.invokevirtual 53, 3) := by decide +kernel
theorem dX4_takeLine_20 : decode cX4_takeLine 20 = .ok (.goto 22, 3) := by decide +kernel
theorem dX4_takeLine_23 : decode cX4_takeLine 23 = .ok (.iload_n 2, 1) := by decide +kernel
theorem dX4_takeLine_24 : decode cX4_takeLine 24 = .ok (.iconst 4, 1) := by decide +kernel
theorem dX4_takeLine_25 : decode cX4_takeLine 25 = .ok (.if_icmp .ne 11, 3) := by decide +kernel
theorem dX4_takeLine_28 : decode cX4_takeLine 28 = .ok (.aload_n 0, 1) := by decide +kernel
theorem dX4_takeLine_29 : decode cX4_takeLine 29 = .ok (.aload_n 1, 1) := by decide +kernel
theorem dX4_takeLine_30 : decode cX4_takeLine 30 = .ok (.invokevirtual 64, 3) := by decide +kernel
theorem dX4_takeLine_33 : decode cX4_takeLine 33 = .ok (.goto 9, 3) := by decide +kernel
theorem dX4_takeLine_36 : decode cX4_takeLine 36 = .ok (.aload_n 0, 1) := by decide +kernel
theorem dX4_takeLine_37 : decode cX4_takeLine 37 = .ok (.aload_n 1, 1) := by decide +kernel
theorem dX4_takeLine_38 : decode cX4_takeLine 38 = .ok (.iload_n 2, 1) := by decide +kernel
theorem dX4_takeLine_39 : decode cX4_takeLine 39 = .ok (.invokevirtual 67, 3) := by decide +kernel
theorem dX4_takeLine_42 : decode cX4_takeLine 42 = .ok (.aload_n 0, 1) := by decide +kernel
theorem dX4_takeLine_43 : decode cX4_takeLine 43 = .ok (.getfield 20, 3) := by decide +kernel
theorem dX4_takeLine_46 : decode cX4_takeLine 46 = .ok (.ifCond .ne 12, 3) := by decide +kernel
theorem dX4_takeLine_49 : decode cX4_takeLine 49 = .ok (.aload_n 0, 1) := by decide +kernel
theorem dX4_takeLine_50 : decode cX4_takeLine 50 = .ok (.invokevirtual 27, 3) := by decide +kernel
theorem dX4_takeLine_53 : decode cX4_takeLine 53 = .ok (.aload_n 0, 1) := by decide +kernel
theorem dX4_takeLine_54 : decode cX4_takeLine 54 = .ok (.iconst 3, 1) := by decide +kernel
theorem dX4_takeLine_55 : decode cX4_takeLine 55 = .ok (.invokevirtual 71, 3) := by decide +kernel
theorem dX4_takeLine_58 : decode cX4_takeLine 58 = .ok (.return_, 1) := by decide +kernel
theorem dX4_takeWord_0 : decode cX4_takeWord 0 = .ok (.aload_n 1, 1) := by decide +kernel
theorem dX4_takeWord_1 : decode cX4_takeWord 1 = .ok (.getfield 40, 3) := by decide +kernel
theorem dX4_takeWord_4 : decode cX4_takeWord 4 = .ok (.bipush (-4), 2) := by decide +kernel
theorem dX4_takeWord_6 : decode cX4_takeWord 6 = .ok (.if_icmp .eq 15, 3) := by decide +kernel
theorem dX4_takeWord_9 : decode cX4_takeWord 9 = .ok (.aload_n 0, 1) := by decide +kernel
theorem dX4_takeWord_10 : decode cX4_takeWord 10 = .ok (.iconst 4, 1) := by decide +kernel
theorem dX4_takeWord_11 : decode cX4_takeWord 11 = .ok (.aload_n 0, 1) := by decide +kernel
theorem dX4_takeWord_12 : decode cX4_takeWord 12 = .ok (.getfield 61, 3) := by decide +kernel
theorem dX4_takeWord_15 : decode cX4_takeWord 15 = .ok (.invokevirtual 53, 3) := by decide +kernel
theorem dX4_takeWord_18 : decode cX4_takeWord 18 = .ok (.goto 13, 3) := by decide +kernel
theorem dX4_takeWord_21 : decode cX4_takeWord 21 = .ok (.aload_n 1, 1) := by decide +kernel
theorem dX4_takeWord_22 : decode cX4_takeWord 22 = .ok (.aload_n 0, 1) := by decide +kernel
theorem dX4_takeWord_23 : decode cX4_takeWord 23 = .ok (.iconst 0, 1) := by decide +kernel
theorem dX4_takeWord_24 : decode cX4_takeWord 24 = .ok (.iconst 4, 1) := by decide +kernel
theorem dX4_takeWord_25 : decode cX4_takeWord 25 = .ok (.invokevirtual 75, 3) := by decide +kernel
theorem dX4_takeWord_28 : decode cX4_takeWord 28 = .ok (.putfield 40, 3) := by decide +kernel
theorem dX4_takeWord_31 : decode cX4_takeWord 31 = .ok (.return_, 1) := by decide +kernel
theorem dX4_takeStation_0 : decode cX4_takeStation 0 = .ok (.aload_n 1, 1) := by decide +kernel
theorem dX4_takeStation_1 : decode cX4_takeStation 1 = .ok (.getfield 43, 3) := by decide +kernel
theorem dX4_takeStation_4 : decode cX4_takeStation 4 = .ok (.iconst 5, 1) := by decide +kernel
theorem dX4_takeStation_5 : decode cX4_takeStation 5 = .ok (.if_icmp .lt 13, 3) := by decide +kernel
theorem dX4_takeStation_8 : decode cX4_takeStation 8 = .ok (.aload_n 0, 1) := by decide +kernel
theorem dX4_takeStation_9 : decode cX4_takeStation 9 = .ok (.iconst 5, 1) := by decide +kernel
theorem dX4_takeStation_10 : decode cX4_takeStation 10 = .ok (.aload_n 0, 1) := by decide +kernel
theorem dX4_takeStation_11 : decode cX4_takeStation 11 = .ok (.getfield 61, 3) := by decide +kernel
theorem dX4_takeStation_14 : decode cX4_takeStation 14 = .ok (.invokevirtual 53, 3) := by decide +kernel
theorem dX4_takeStation_17 : decode cX4_takeStation 17 = .ok (.return_, 1) := by decide +kernel
theorem dX4_takeStation_18 : decode cX4_takeStation 18 = .ok (.aload_n 1, 1) := by decide +kernel
theorem dX4_takeStation_19 : decode cX4_takeStation 19 = .ok (.getfield 79, 3) := by decide +kernel
theorem dX4_takeStation_22 : decode cX4_takeStation 22 = .ok (.aload_n 1, 1) := by decide +kernel
theorem dX4_takeStation_23 : decode cX4_takeStation 23 = .ok (.getfield 43, 3) := by decide +kernel
theorem dX4_takeStation_26 : decode cX4_takeStation 26 = .ok (.aaload, 1) := by decide +kernel
theorem dX4_takeStation_27 : decode cX4_takeStation 27 = .ok (.astore_n 3, 1) := by decide +kernel
theorem dX4_takeStation_28 : decode cX4_takeStation 28 = .ok (.aload_n 3, 1) := by decide +kernel
theorem dX4_takeStation_29 : decode cX4_takeStation 29 = .ok (.iconst 0, 1) := by decide +kernel
theorem dX4_takeStation_30 : decode cX4_takeStation 30 = .ok (.iload_n 2, 1) := by decide +kernel
theorem dX4_takeStation_31 : decode cX4_takeStation 31 = .ok (.iastore, 1) := by decide +kernel
theorem dX4_takeStation_32 : decode cX4_takeStation 32 = .ok (.iconst 1, 1) := by decide +kernel
theorem dX4_takeStation_33 : decode cX4_takeStation 33 = .ok (.istore 4, 2) := by decide +kernel
theorem dX4_takeStation_35 : decode cX4_takeStation 35 = .ok (.iload 4, 2) := by decide +kernel
theorem dX4_takeStation_37 : decode cX4_takeStation 37 = .ok (.iconst 4, 1) := by decide +kernel
theorem dX4_takeStation_38 : decode cX4_takeStation 38 = .ok (.if_icmp .gt 36, 3) := by decide +kernel
theorem dX4_takeStation_41 : decode cX4_takeStation 41 = .ok (.aload_n 0, 1) := by decide +kernel
theorem dX4_takeStation_42 : decode cX4_takeStation 42 = .ok (.getfield 20, 3) := by decide +kernel
theorem dX4_takeStation_45 : decode cX4_takeStation 45 = .ok (.ifCond .ne 29, 3) := by decide +kernel
theorem dX4_takeStation_48 : decode cX4_takeStation 48 = .ok (.aload_n 3, 1) := by decide +kernel
theorem dX4_takeStation_49 : decode cX4_takeStation 49 = .ok (.iload 4, 2) := by decide +kernel
theorem dX4_takeStation_51 : decode cX4_takeStation 51 = .ok (.aload_n 0, 1) := by decide +kernel
theorem dX4_takeStation_52 : decode cX4_takeStation 52 = .ok (.getstatic 83, 3) := by decide +kernel
theorem dX4_takeStation_55 : decode cX4_takeStation 55 = .ok (.iload 4, 2) := by decide +kernel
theorem dX4_takeStation_57 : decode cX4_takeStation 57 = .ok (.iaload, 1) := by decide +kernel
theorem dX4_takeStation_58 : decode cX4_takeStation 58 = .ok (.getstatic 87, 3) := by decide +kernel
theorem dX4_takeStation_61 : decode cX4_takeStation 61 = .ok (.iload 4, 2) := by decide +kernel
theorem dX4_takeStation_63 : decode cX4_takeStation 63 = .ok (.iaload, 1) := by decide +kernel
theorem dX4_takeStation_64 : decode cX4_takeStation 64 = .ok (.invokevirtual 75, 3) := by decide +kernel
theorem dX4_takeStation_67 : decode cX4_takeStation 67 = .ok (.iastore, 1) := by decide +kernel
theorem dX4_takeStation_68 : decode cX4_takeStation 68 = .ok (.iinc 4 1, 3) := by decide +kernel
theorem dX4_takeStation_71 : decode cX4_takeStation 71 = .ok (.goto (-36), 3) := by decide +kernel
theorem dX4_takeStation_74 : decode cX4_takeStation 74 = .ok (.aload_n 3, 1) := by decide +kernel
theorem dX4_takeStation_75 : decode cX4_takeStation 75 = .ok (.iconst 5, 1) := by decide +kernel
theorem dX4_takeStation_76 : decode cX4_takeStation 76 = .ok (.iconst 0, 1) := by decide +kernel
theorem dX4_takeStation_77 : decode cX4_takeStation 77 = .ok (.iastore, 1) := by decide +kernel
theorem dX4_takeStation_78 : decode cX4_takeStation 78 = .ok (.aload_n 3, 1) := by decide +kernel
theorem dX4_takeStation_79 : decode cX4_takeStation 79 = .ok (.bipush 6, 2) := by decide +kernel
theorem dX4_takeStation_81 : decode cX4_takeStation 81 = .ok (.iconst 0, 1) := by decide +kernel
theorem dX4_takeStation_82 : decode cX4_takeStation 82 = .ok (.iastore, 1) := by decide +kernel
theorem dX4_takeStation_83 : decode cX4_takeStation 83 = .ok (.aload_n 1, 1) := by decide +kernel
theorem dX4_takeStation_84 : decode cX4_takeStation 84 = .ok (.dup, 1) := by decide +kernel
theorem dX4_takeStation_85 : decode cX4_takeStation 85 = .ok (.getfield 43, 3) := by decide +kernel
theorem dX4_takeStation_88 : decode cX4_takeStation 88 = .ok (.iconst 1, 1) := by decide +kernel
theorem dX4_takeStation_89 : decode cX4_takeStation 89 = .ok (.iadd, 1) := by decide +kernel
theorem dX4_takeStation_90 : decode cX4_takeStation 90 = .ok (.putfield 43, 3) := by decide +kernel
theorem dX4_takeStation_93 : decode cX4_takeStation 93 = .ok (.return_, 1) := by decide +kernel
theorem dX4_lineBegun_0 : decode cX4_lineBegun 0 = .ok (.aload_n 0, 1) := by decide +kernel
theorem dX4_lineBegun_1 : decode cX4_lineBegun 1 = .ok (.getfield 30, 3) := by decide +kernel
theorem dX4_lineBegun_4 : decode cX4_lineBegun 4 = .ok (.iconst 1, 1) := by decide +kernel
theorem dX4_lineBegun_5 : decode cX4_lineBegun 5 = .ok (.if_icmp .eq 6, 3) := by decide +kernel
theorem dX4_lineBegun_8 : decode cX4_lineBegun 8 = .ok (.bipush (-4), 2) := by decide +kernel
theorem dX4_lineBegun_10 : decode cX4_lineBegun 10 = .ok (.ireturn, 1) := by decide +kernel
theorem dX4_lineBegun_11 : decode cX4_lineBegun 11 = .ok (.aload_n 0, 1) := by decide +kernel
theorem dX4_lineBegun_12 : decode cX4_lineBegun 12 = .ok (.ldc 90, 2) := by decide +kernel
theorem dX4_lineBegun_14 : decode cX4_lineBegun 14 = .ok (.invokevirtual 92, 3) := by decide +kernel
theorem dX4_lineBegun_17 : decode cX4_lineBegun 17 = .ok (.ifCond .eq 5, 3) := by decide +kernel
theorem dX4_lineBegun_20 : decode cX4_lineBegun 20 = .ok (.iconst 0, 1) := by decide +kernel
theorem dX4_lineBegun_21 : decode cX4_lineBegun 21 = .ok (.ireturn, 1) := by decide +kernel
theorem dX4_lineBegun_22 : decode cX4_lineBegun 22 = .ok (.aload_n 0, 1) := by decide +kernel
theorem dX4_lineBegun_23 : decode cX4_lineBegun 23 = .ok (.ldc 96, 2) := by decide +kernel
theorem dX4_lineBegun_25 : decode cX4_lineBegun 25 = .ok (.invokevirtual 92, 3) := by decide +kernel
theorem dX4_lineBegun_28 : decode cX4_lineBegun 28 = .ok (.ifCond .eq 5, 3) := by decide +kernel
theorem dX4_lineBegun_31 : decode cX4_lineBegun 31 = .ok (.iconst 1, 1) := by decide +kernel
theorem dX4_lineBegun_32 : decode cX4_lineBegun 32 = .ok (.ireturn, 1) := by decide +kernel
theorem dX4_lineBegun_33 : decode cX4_lineBegun 33 = .ok (.aload_n 0, 1) := by decide +kernel
theorem dX4_lineBegun_34 : decode cX4_lineBegun 34 = .ok (.ldc 98, 2) := by decide +kernel
theorem dX4_lineBegun_36 : decode cX4_lineBegun 36 = .ok (.invokevirtual 92, 3) := by decide +kernel
theorem dX4_lineBegun_39 : decode cX4_lineBegun 39 = .ok (.ifCond .eq 5, 3) := by decide +kernel
theorem dX4_lineBegun_42 : decode cX4_lineBegun 42 = .ok (.iconst 2, 1) := by decide +kernel
theorem dX4_lineBegun_43 : decode cX4_lineBegun 43 = .ok (.ireturn, 1) := by decide +kernel
theorem dX4_lineBegun_44 : decode cX4_lineBegun 44 = .ok (.aload_n 0, 1) := by decide +kernel
theorem dX4_lineBegun_45 : decode cX4_lineBegun 45 = .ok (.ldc 100, 2) := by decide +kernel
theorem dX4_lineBegun_47 : decode cX4_lineBegun 47 = .ok (.invokevirtual 92, 3) := by decide +kernel
theorem dX4_lineBegun_50 : decode cX4_lineBegun 50 = .ok (.ifCond .eq 5, 3) := by decide +kernel
theorem dX4_lineBegun_53 : decode cX4_lineBegun 53 = .ok (.iconst 3, 1) := by decide +kernel
theorem dX4_lineBegun_54 : decode cX4_lineBegun 54 = .ok (.ireturn, 1) := by decide +kernel
theorem dX4_lineBegun_55 : decode cX4_lineBegun 55 = .ok (.aload_n 0, 1) := by decide +kernel
theorem dX4_lineBegun_56 : decode cX4_lineBegun 56 = .ok (.ldc 102, 2) := by decide +kernel
theorem dX4_lineBegun_58 : decode cX4_lineBegun 58 = .ok (.invokevirtual 92, 3) := by decide +kernel
theorem dX4_lineBegun_61 : decode cX4_lineBegun 61 = .ok (.ifCond .eq 7, 3) := by decide +kernel
theorem dX4_lineBegun_64 : decode cX4_lineBegun 64 = .ok (.iconst 4, 1) := by decide +kernel
theorem dX4_lineBegun_65 : decode cX4_lineBegun 65 = .ok (.goto 5, 3) := by decide +kernel
theorem dX4_lineBegun_68 : decode cX4_lineBegun 68 = .ok (.bipush (-4), 2) := by decide +kernel
theorem dX4_lineBegun_70 : decode cX4_lineBegun 70 = .ok (.ireturn, 1) := by decide +kernel
theorem dX4_isNamed_0 : decode cX4_isNamed 0 = .ok (.aload_n 0, 1) := by decide +kernel
theorem dX4_isNamed_1 : decode cX4_isNamed 1 = .ok (.getfield 24, 3) := by decide +kernel
theorem dX4_isNamed_4 : decode cX4_isNamed 4 = .ok (.aload_n 0, 1) := by decide +kernel
theorem dX4_isNamed_5 : decode cX4_isNamed 5 = .ok (.getfield 61, 3) := by decide +kernel
theorem dX4_isNamed_8 : decode cX4_isNamed 8 = .ok (.isub, 1) := by decide +kernel
theorem dX4_isNamed_9 : decode cX4_isNamed 9 = .ok (.aload_n 1, 1) := by decide +kernel
theorem dX4_isNamed_10 : decode cX4_isNamed 10 = .ok (.invokevirtual 103, 3) := by decide +kernel
theorem dX4_isNamed_13 : decode cX4_isNamed 13 = .ok (.if_icmp .eq 5, 3) := by decide +kernel
theorem dX4_isNamed_16 : decode cX4_isNamed 16 = .ok (.iconst 0, 1) := by decide +kernel
theorem dX4_isNamed_17 : decode cX4_isNamed 17 = .ok (.ireturn, 1) := by decide +kernel
theorem dX4_isNamed_18 : decode cX4_isNamed 18 = .ok (.iconst 0, 1) := by decide +kernel
theorem dX4_isNamed_19 : decode cX4_isNamed 19 = .ok (.istore_n 2, 1) := by decide +kernel
theorem dX4_isNamed_20 : decode cX4_isNamed 20 = .ok (.iload_n 2, 1) := by decide +kernel
theorem dX4_isNamed_21 : decode cX4_isNamed 21 = .ok (.aload_n 1, 1) := by decide +kernel
theorem dX4_isNamed_22 : decode cX4_isNamed 22 = .ok (.invokevirtual 103, 3) := by decide +kernel
theorem dX4_isNamed_25 : decode cX4_isNamed 25 = .ok (.if_icmp .ge 30, 3) := by decide +kernel
theorem dX4_isNamed_28 : decode cX4_isNamed 28 = .ok (.aload_n 0, 1) := by decide +kernel
theorem dX4_isNamed_29 : decode cX4_isNamed 29 = .ok (.getfield 9, 3) := by decide +kernel
theorem dX4_isNamed_32 : decode cX4_isNamed 32 = .ok (.aload_n 0, 1) := by decide +kernel
theorem dX4_isNamed_33 : decode cX4_isNamed 33 = .ok (.getfield 61, 3) := by decide +kernel
theorem dX4_isNamed_36 : decode cX4_isNamed 36 = .ok (.iload_n 2, 1) := by decide +kernel
theorem dX4_isNamed_37 : decode cX4_isNamed 37 = .ok (.iadd, 1) := by decide +kernel
theorem dX4_isNamed_38 : decode cX4_isNamed 38 = .ok (.baload, 1) := by decide +kernel
theorem dX4_isNamed_39 : decode cX4_isNamed 39 = .ok (.aload_n 1, 1) := by decide +kernel
theorem dX4_isNamed_40 : decode cX4_isNamed 40 = .ok (.iload_n 2, 1) := by decide +kernel
theorem dX4_isNamed_41 : decode cX4_isNamed 41 = .ok (.invokevirtual 107, 3) := by decide +kernel
theorem dX4_isNamed_44 : decode cX4_isNamed 44 = .ok (.if_icmp .eq 5, 3) := by decide +kernel
theorem dX4_isNamed_47 : decode cX4_isNamed 47 = .ok (.iconst 0, 1) := by decide +kernel
theorem dX4_isNamed_48 : decode cX4_isNamed 48 = .ok (.ireturn, 1) := by decide +kernel
theorem dX4_isNamed_49 : decode cX4_isNamed 49 = .ok (.iinc 2 1, 3) := by decide +kernel
theorem dX4_isNamed_52 : decode cX4_isNamed 52 = .ok (.goto (-32), 3) := by decide +kernel
theorem dX4_isNamed_55 : decode cX4_isNamed 55 = .ok (.iconst 1, 1) := by decide +kernel
theorem dX4_isNamed_56 : decode cX4_isNamed 56 = .ok (.ireturn, 1) := by decide +kernel
theorem dX4_takeNumber_0 : decode cX4_takeNumber 0 = .ok (.aload_n 0, 1) := by decide +kernel
theorem dX4_takeNumber_1 : decode cX4_takeNumber 1 = .ok (.invokevirtual 27, 3) := by decide +kernel
theorem dX4_takeNumber_4 : decode cX4_takeNumber 4 = .ok (.aload_n 0, 1) := by decide +kernel
theorem dX4_takeNumber_5 : decode cX4_takeNumber 5 = .ok (.iconst 2, 1) := by decide +kernel
theorem dX4_takeNumber_6 : decode cX4_takeNumber 6 = .ok (.invokevirtual 71, 3) := by decide +kernel
theorem dX4_takeNumber_9 : decode cX4_takeNumber 9 = .ok (.aload_n 0, 1) := by decide +kernel
theorem dX4_takeNumber_10 : decode cX4_takeNumber 10 = .ok (.getfield 20, 3) := by decide +kernel
theorem dX4_takeNumber_13 : decode cX4_takeNumber 13 = .ok (.ifCond .eq 5, 3) := by decide +kernel
theorem dX4_takeNumber_16 : decode cX4_takeNumber 16 = .ok (.iconst 0, 1) := by decide +kernel
theorem dX4_takeNumber_17 : decode cX4_takeNumber 17 = .ok (.ireturn, 1) := by decide +kernel
theorem dX4_takeNumber_18 : decode cX4_takeNumber 18 = .ok (.iconst 0, 1) := by decide +kernel
theorem dX4_takeNumber_19 : decode cX4_takeNumber 19 = .ok (.istore_n 3, 1) := by decide +kernel
theorem dX4_takeNumber_20 : decode cX4_takeNumber 20 = .ok (.aload_n 0, 1) := by decide +kernel
theorem dX4_takeNumber_21 : decode cX4_takeNumber 21 = .ok (.getfield 61, 3) := by decide +kernel
theorem dX4_takeNumber_24 : decode cX4_takeNumber 24 = .ok (.istore 4, 2) := by decide +kernel
theorem dX4_takeNumber_26 : decode cX4_takeNumber 26 = .ok (.iload 4, 2) := by decide +kernel
theorem dX4_takeNumber_28 : decode cX4_takeNumber 28 = .ok (.aload_n 0, 1) := by decide +kernel
theorem dX4_takeNumber_29 : decode cX4_takeNumber 29 = .ok (.getfield 24, 3) := by decide +kernel
theorem dX4_takeNumber_32 : decode cX4_takeNumber 32 = .ok (.if_icmp .ge 25, 3) := by decide +kernel
theorem dX4_takeNumber_35 : decode cX4_takeNumber 35 = .ok (.bipush 10, 2) := by decide +kernel
theorem dX4_takeNumber_37 : decode cX4_takeNumber 37 = .ok (.iload_n 3, 1) := by decide +kernel
theorem dX4_takeNumber_38 : decode cX4_takeNumber 38 = .ok (.imul, 1) := by decide +kernel
theorem dX4_takeNumber_39 : decode cX4_takeNumber 39 = .ok (.aload_n 0, 1) := by decide +kernel
theorem dX4_takeNumber_40 : decode cX4_takeNumber 40 = .ok (.getfield 9, 3) := by decide +kernel
theorem dX4_takeNumber_43 : decode cX4_takeNumber 43 = .ok (.iload 4, 2) := by decide +kernel
theorem dX4_takeNumber_45 : decode cX4_takeNumber 45 = .ok (.baload, 1) := by decide +kernel
theorem dX4_takeNumber_46 : decode cX4_takeNumber 46 = .ok (.iadd, 1) := by decide +kernel
theorem dX4_takeNumber_47 : decode cX4_takeNumber 47 = .ok (.bipush 48, 2) := by decide +kernel
theorem dX4_takeNumber_49 : decode cX4_takeNumber 49 = .ok (.isub, 1) := by decide +kernel
theorem dX4_takeNumber_50 : decode cX4_takeNumber 50 = .ok (.istore_n 3, 1) := by decide +kernel
theorem dX4_takeNumber_51 : decode cX4_takeNumber 51 = .ok (.iinc 4 1, 3) := by decide +kernel
theorem dX4_takeNumber_54 : decode cX4_takeNumber 54 = .ok (.goto (-28), 3) := by decide +kernel
theorem dX4_takeNumber_57 : decode cX4_takeNumber 57 = .ok (.iload_n 3, 1) := by decide +kernel
theorem dX4_takeNumber_58 : decode cX4_takeNumber 58 = .ok (.iload_n 1, 1) := by decide +kernel
theorem dX4_takeNumber_59 : decode cX4_takeNumber 59 = .ok (.iload_n 2, 1) := by decide +kernel
theorem dX4_takeNumber_60 : decode cX4_takeNumber 60 = .ok (.invokestatic 111, 3) := by decide +kernel
theorem dX4_takeNumber_63 : decode cX4_takeNumber 63 = .ok (.ifCond .eq 12, 3) := by decide +kernel
theorem dX4_takeNumber_66 : decode cX4_takeNumber 66 = .ok (.aload_n 0, 1) := by decide +kernel
theorem dX4_takeNumber_67 : decode cX4_takeNumber 67 = .ok (.iconst 3, 1) := by decide +kernel
theorem dX4_takeNumber_68 : decode cX4_takeNumber 68 = .ok (.aload_n 0, 1) := by decide +kernel
theorem dX4_takeNumber_69 : decode cX4_takeNumber 69 = .ok (.getfield 61, 3) := by decide +kernel
theorem dX4_takeNumber_72 : decode cX4_takeNumber 72 = .ok (.invokevirtual 53, 3) := by decide +kernel
theorem dX4_takeNumber_75 : decode cX4_takeNumber 75 = .ok (.iload_n 3, 1) := by decide +kernel
theorem dX4_takeNumber_76 : decode cX4_takeNumber 76 = .ok (.ireturn, 1) := by decide +kernel
theorem dX4_require_0 : decode cX4_require 0 = .ok (.aload_n 0, 1) := by decide +kernel
theorem dX4_require_1 : decode cX4_require 1 = .ok (.getfield 20, 3) := by decide +kernel
theorem dX4_require_4 : decode cX4_require 4 = .ok (.ifCond .ne 20, 3) := by decide +kernel
theorem dX4_require_7 : decode cX4_require 7 = .ok (.aload_n 0, 1) := by decide +kernel
theorem dX4_require_8 : decode cX4_require 8 = .ok (.getfield 30, 3) := by decide +kernel
theorem dX4_require_11 : decode cX4_require 11 = .ok (.iload_n 1, 1) := by decide +kernel
theorem dX4_require_12 : decode cX4_require 12 = .ok (.if_icmp .eq 12, 3) := by decide +kernel
theorem dX4_require_15 : decode cX4_require 15 = .ok (.aload_n 0, 1) := by decide +kernel
theorem dX4_require_16 : decode cX4_require 16 = .ok (.iconst 2, 1) := by decide +kernel
theorem dX4_require_17 : decode cX4_require 17 = .ok (.aload_n 0, 1) := by decide +kernel
theorem dX4_require_18 : decode cX4_require 18 = .ok (.getfield 61, 3) := by decide +kernel
theorem dX4_require_21 : decode cX4_require 21 = .ok (.invokevirtual 53, 3) := by decide +kernel
theorem dX4_require_24 : decode cX4_require 24 = .ok (.return_, 1) := by decide +kernel
theorem dX4_advance_0 : decode cX4_advance 0 = .ok (.aload_n 0, 1) := by decide +kernel
theorem dX4_advance_1 : decode cX4_advance 1 = .ok (.getfield 24, 3) := by decide +kernel
theorem dX4_advance_4 : decode cX4_advance 4 = .ok (.aload_n 0, 1) := by decide +kernel
theorem dX4_advance_5 : decode cX4_advance 5 = .ok (.getfield 50, 3) := by decide +kernel
theorem dX4_advance_8 : decode cX4_advance 8 = .ok (.if_icmp .ge 30, 3) := by decide +kernel
theorem dX4_advance_11 : decode cX4_advance 11 = .ok (.aload_n 0, 1) := by decide +kernel
theorem dX4_advance_12 : decode cX4_advance 12 = .ok (.getfield 9, 3) := by decide +kernel
theorem dX4_advance_15 : decode cX4_advance 15 = .ok (.aload_n 0, 1) := by decide +kernel
theorem dX4_advance_16 : decode cX4_advance 16 = .ok (.getfield 24, 3) := by decide +kernel
theorem dX4_advance_19 : decode cX4_advance 19 = .ok (.baload, 1) := by decide +kernel
theorem dX4_advance_20 : decode cX4_advance 20 = .ok (.bipush 32, 2) := by decide +kernel
theorem dX4_advance_22 : decode cX4_advance 22 = .ok (.if_icmp .ne 16, 3) := by decide +kernel
theorem dX4_advance_25 : decode cX4_advance 25 = .ok (.aload_n 0, 1) := by decide +kernel
theorem dX4_advance_26 : decode cX4_advance 26 = .ok (.dup, 1) := by decide +kernel
theorem dX4_advance_27 : decode cX4_advance 27 = .ok (.getfield 24, 3) := by decide +kernel
theorem dX4_advance_30 : decode cX4_advance 30 = .ok (.iconst 1, 1) := by decide +kernel
theorem dX4_advance_31 : decode cX4_advance 31 = .ok (.iadd, 1) := by decide +kernel
theorem dX4_advance_32 : decode cX4_advance 32 = .ok (.putfield 24, 3) := by decide +kernel
theorem dX4_advance_35 : decode cX4_advance 35 = .ok (.goto (-35), 3) := by decide +kernel
theorem dX4_advance_38 : decode cX4_advance 38 = .ok (.aload_n 0, 1) := by decide +kernel
theorem dX4_advance_39 : decode cX4_advance 39 = .ok (.aload_n 0, 1) := by decide +kernel
theorem dX4_advance_40 : decode cX4_advance 40 = .ok (.getfield 24, 3) := by decide +kernel
theorem dX4_advance_43 : decode cX4_advance 43 = .ok (.putfield 61, 3) := by decide +kernel
theorem dX4_advance_46 : decode cX4_advance 46 = .ok (.aload_n 0, 1) := by decide +kernel
theorem dX4_advance_47 : decode cX4_advance 47 = .ok (.aload_n 0, 1) := by decide +kernel
theorem dX4_advance_48 : decode cX4_advance 48 = .ok (.aload_n 0, 1) := by decide +kernel
theorem dX4_advance_49 : decode cX4_advance 49 = .ok (.getfield 61, 3) := by decide +kernel
theorem dX4_advance_52 : decode cX4_advance 52 = .ok (.invokevirtual 115, 3) := by decide +kernel
theorem dX4_advance_55 : decode cX4_advance 55 = .ok (.putfield 30, 3) := by decide +kernel
theorem dX4_advance_58 : decode cX4_advance 58 = .ok (.aload_n 0, 1) := by decide +kernel
theorem dX4_advance_59 : decode cX4_advance 59 = .ok (.getfield 30, 3) := by decide +kernel
theorem dX4_advance_62 : decode cX4_advance 62 = .ok (.ifCond .eq 13, 3) := by decide +kernel
theorem dX4_advance_65 : decode cX4_advance 65 = .ok (.aload_n 0, 1) := by decide +kernel
theorem dX4_advance_66 : decode cX4_advance 66 = .ok (.dup, 1) := by decide +kernel
theorem dX4_advance_67 : decode cX4_advance 67 = .ok (.getfield 24, 3) := by decide +kernel
theorem dX4_advance_70 : decode cX4_advance 70 = .ok (.iconst 1, 1) := by decide +kernel
theorem dX4_advance_71 : decode cX4_advance 71 = .ok (.iadd, 1) := by decide +kernel
theorem dX4_advance_72 : decode cX4_advance 72 = .ok (.putfield 24, 3) := by decide +kernel
theorem dX4_advance_75 : decode cX4_advance 75 = .ok (.aload_n 0, 1) := by decide +kernel
theorem dX4_advance_76 : decode cX4_advance 76 = .ok (.getfield 30, 3) := by decide +kernel
theorem dX4_advance_79 : decode cX4_advance 79 = .ok (.iconst 1, 1) := by decide +kernel
theorem dX4_advance_80 : decode cX4_advance 80 = .ok (.if_icmp .eq 11, 3) := by decide +kernel
theorem dX4_advance_83 : decode cX4_advance 83 = .ok (.aload_n 0, 1) := by decide +kernel
theorem dX4_advance_84 : decode cX4_advance 84 = .ok (.getfield 30, 3) := by decide +kernel
theorem dX4_advance_87 : decode cX4_advance 87 = .ok (.iconst 2, 1) := by decide +kernel
theorem dX4_advance_88 : decode cX4_advance 88 = .ok (.if_icmp .ne 7, 3) := by decide +kernel
theorem dX4_advance_91 : decode cX4_advance 91 = .ok (.iconst 1, 1) := by decide +kernel
theorem dX4_advance_92 : decode cX4_advance 92 = .ok (.goto 4, 3) := by decide +kernel
theorem dX4_advance_95 : decode cX4_advance 95 = .ok (.iconst 0, 1) := by decide +kernel
theorem dX4_advance_96 : decode cX4_advance 96 = .ok (.istore_n 1, 1) := by decide +kernel
theorem dX4_advance_97 : decode cX4_advance 97 = .ok (.iload_n 1, 1) := by decide +kernel
theorem dX4_advance_98 : decode cX4_advance 98 = .ok (.ifCond .eq 42, 3) := by decide +kernel
theorem dX4_advance_101 : decode cX4_advance 101 = .ok (.aload_n 0, 1) := by decide +kernel
theorem dX4_advance_102 : decode cX4_advance 102 = .ok (.getfield 24, 3) := by decide +kernel
theorem dX4_advance_105 : decode cX4_advance 105 = .ok (.aload_n 0, 1) := by decide +kernel
theorem dX4_advance_106 : decode cX4_advance 106 = .ok (.getfield 50, 3) := by decide +kernel
theorem dX4_advance_109 : decode cX4_advance 109 = .ok (.if_icmp .ge 31, 3) := by decide +kernel
theorem dX4_advance_112 : decode cX4_advance 112 = .ok (.aload_n 0, 1) := by decide +kernel
theorem dX4_advance_113 : decode cX4_advance 113 = .ok (.aload_n 0, 1) := by decide +kernel
theorem dX4_advance_114 : decode cX4_advance 114 = .ok (.getfield 24, 3) := by decide +kernel
theorem dX4_advance_117 : decode cX4_advance 117 = .ok (.invokevirtual 115, 3) := by decide +kernel
theorem dX4_advance_120 : decode cX4_advance 120 = .ok (.aload_n 0, 1) := by decide +kernel
theorem dX4_advance_121 : decode cX4_advance 121 = .ok (.getfield 30, 3) := by decide +kernel
theorem dX4_advance_124 : decode cX4_advance 124 = .ok (.if_icmp .ne 16, 3) := by decide +kernel
theorem dX4_advance_127 : decode cX4_advance 127 = .ok (.aload_n 0, 1) := by decide +kernel
theorem dX4_advance_128 : decode cX4_advance 128 = .ok (.dup, 1) := by decide +kernel
theorem dX4_advance_129 : decode cX4_advance 129 = .ok (.getfield 24, 3) := by decide +kernel
theorem dX4_advance_132 : decode cX4_advance 132 = .ok (.iconst 1, 1) := by decide +kernel
theorem dX4_advance_133 : decode cX4_advance 133 = .ok (.iadd, 1) := by decide +kernel
theorem dX4_advance_134 : decode cX4_advance 134 = .ok (.putfield 24, 3) := by decide +kernel
theorem dX4_advance_137 : decode cX4_advance 137 = .ok (.goto (-40), 3) := by decide +kernel
theorem dX4_advance_140 : decode cX4_advance 140 = .ok (.aload_n 0, 1) := by decide +kernel
theorem dX4_advance_141 : decode cX4_advance 141 = .ok (.getfield 30, 3) := by decide +kernel
theorem dX4_advance_144 : decode cX4_advance 144 = .ok (.iconst 4, 1) := by decide +kernel
theorem dX4_advance_145 : decode cX4_advance 145 = .ok (.if_icmp .eq 24, 3) := by decide +kernel
theorem dX4_advance_148 : decode cX4_advance 148 = .ok (.aload_n 0, 1) := by decide +kernel
theorem dX4_advance_149 : decode cX4_advance 149 = .ok (.getfield 30, 3) := by decide +kernel
theorem dX4_advance_152 : decode cX4_advance 152 = .ok (.iconst 2, 1) := by decide +kernel
theorem dX4_advance_153 : decode cX4_advance 153 = .ok (.if_icmp .ne 25, 3) := by decide +kernel
theorem dX4_advance_156 : decode cX4_advance 156 = .ok (.aload_n 0, 1) := by decide +kernel
theorem dX4_advance_157 : decode cX4_advance 157 = .ok (.getfield 24, 3) := by decide +kernel
theorem dX4_advance_160 : decode cX4_advance 160 = .ok (.aload_n 0, 1) := by decide +kernel
theorem dX4_advance_161 : decode cX4_advance 161 = .ok (.getfield 61, 3) := by decide +kernel
theorem dX4_advance_164 : decode cX4_advance 164 = .ok (.isub, 1) := by decide +kernel
theorem dX4_advance_165 : decode cX4_advance 165 = .ok (.iconst 2, 1) := by decide +kernel
theorem dX4_advance_166 : decode cX4_advance 166 = .ok (.if_icmp .le 12, 3) := by decide +kernel
theorem dX4_advance_169 : decode cX4_advance 169 = .ok (.aload_n 0, 1) := by decide +kernel
theorem dX4_advance_170 : decode cX4_advance 170 = .ok (.iconst 1, 1) := by decide +kernel
theorem dX4_advance_171 : decode cX4_advance 171 = .ok (.aload_n 0, 1) := by decide +kernel
theorem dX4_advance_172 : decode cX4_advance 172 = .ok (.getfield 61, 3) := by decide +kernel
theorem dX4_advance_175 : decode cX4_advance 175 = .ok (.invokevirtual 53, 3) := by decide +kernel
theorem dX4_advance_178 : decode cX4_advance 178 = .ok (.return_, 1) := by decide +kernel
theorem dX4_sortAt_0 : decode cX4_sortAt 0 = .ok (.iload_n 1, 1) := by decide +kernel
theorem dX4_sortAt_1 : decode cX4_sortAt 1 = .ok (.aload_n 0, 1) := by decide +kernel
theorem dX4_sortAt_2 : decode cX4_sortAt 2 = .ok (.getfield 50, 3) := by decide +kernel
theorem dX4_sortAt_5 : decode cX4_sortAt 5 = .ok (.if_icmp .lt 5, 3) := by decide +kernel
theorem dX4_sortAt_8 : decode cX4_sortAt 8 = .ok (.iconst 0, 1) := by decide +kernel
theorem dX4_sortAt_9 : decode cX4_sortAt 9 = .ok (.ireturn, 1) := by decide +kernel
theorem dX4_sortAt_10 : decode cX4_sortAt 10 = .ok (.aload_n 0, 1) := by decide +kernel
theorem dX4_sortAt_11 : decode cX4_sortAt 11 = .ok (.getfield 9, 3) := by decide +kernel
theorem dX4_sortAt_14 : decode cX4_sortAt 14 = .ok (.iload_n 1, 1) := by decide +kernel
theorem dX4_sortAt_15 : decode cX4_sortAt 15 = .ok (.baload, 1) := by decide +kernel
theorem dX4_sortAt_16 : decode cX4_sortAt 16 = .ok (.istore_n 2, 1) := by decide +kernel
theorem dX4_sortAt_17 : decode cX4_sortAt 17 = .ok (.iload_n 2, 1) := by decide +kernel
theorem dX4_sortAt_18 : decode cX4_sortAt 18 = .ok (.bipush 97, 2) := by decide +kernel
theorem dX4_sortAt_20 : decode cX4_sortAt 20 = .ok (.if_icmp .lt 11, 3) := by decide +kernel
theorem dX4_sortAt_23 : decode cX4_sortAt 23 = .ok (.iload_n 2, 1) := by decide +kernel
theorem dX4_sortAt_24 : decode cX4_sortAt 24 = .ok (.bipush 122, 2) := by decide +kernel
theorem dX4_sortAt_26 : decode cX4_sortAt 26 = .ok (.if_icmp .gt 5, 3) := by decide +kernel
theorem dX4_sortAt_29 : decode cX4_sortAt 29 = .ok (.iconst 1, 1) := by decide +kernel
theorem dX4_sortAt_30 : decode cX4_sortAt 30 = .ok (.ireturn, 1) := by decide +kernel
theorem dX4_sortAt_31 : decode cX4_sortAt 31 = .ok (.iload_n 2, 1) := by decide +kernel
theorem dX4_sortAt_32 : decode cX4_sortAt 32 = .ok (.bipush 48, 2) := by decide +kernel
theorem dX4_sortAt_34 : decode cX4_sortAt 34 = .ok (.if_icmp .lt 11, 3) := by decide +kernel
theorem dX4_sortAt_37 : decode cX4_sortAt 37 = .ok (.iload_n 2, 1) := by decide +kernel
theorem dX4_sortAt_38 : decode cX4_sortAt 38 = .ok (.bipush 57, 2) := by decide +kernel
theorem dX4_sortAt_40 : decode cX4_sortAt 40 = .ok (.if_icmp .gt 5, 3) := by decide +kernel
theorem dX4_sortAt_43 : decode cX4_sortAt 43 = .ok (.iconst 2, 1) := by decide +kernel
theorem dX4_sortAt_44 : decode cX4_sortAt 44 = .ok (.ireturn, 1) := by decide +kernel
theorem dX4_sortAt_45 : decode cX4_sortAt 45 = .ok (.iload_n 2, 1) := by decide +kernel
theorem dX4_sortAt_46 : decode cX4_sortAt 46 = .ok (.bipush 59, 2) := by decide +kernel
theorem dX4_sortAt_48 : decode cX4_sortAt 48 = .ok (.if_icmp .ne 7, 3) := by decide +kernel
theorem dX4_sortAt_51 : decode cX4_sortAt 51 = .ok (.iconst 3, 1) := by decide +kernel
theorem dX4_sortAt_52 : decode cX4_sortAt 52 = .ok (.goto 4, 3) := by decide +kernel
theorem dX4_sortAt_55 : decode cX4_sortAt 55 = .ok (.iconst 4, 1) := by decide +kernel
theorem dX4_sortAt_56 : decode cX4_sortAt 56 = .ok (.ireturn, 1) := by decide +kernel
theorem dX4_blame_0 : decode cX4_blame 0 = .ok (.aload_n 0, 1) := by decide +kernel
theorem dX4_blame_1 : decode cX4_blame 1 = .ok (.iload_n 1, 1) := by decide +kernel
theorem dX4_blame_2 : decode cX4_blame 2 = .ok (.putfield 20, 3) := by decide +kernel
theorem dX4_blame_5 : decode cX4_blame 5 = .ok (.aload_n 0, 1) := by decide +kernel
theorem dX4_blame_6 : decode cX4_blame 6 = .ok (.iload_n 2, 1) := by decide +kernel
theorem dX4_blame_7 : decode cX4_blame 7 = .ok (.putfield 119, 3) := by decide +kernel
theorem dX4_blame_10 : decode cX4_blame 10 = .ok (.return_, 1) := by decide +kernel
end
section
theorem dX6_init_0 : decode cX6_init 0 = .ok (.aload_n 0, 1) := by decide +kernel
theorem dX6_init_1 : decode cX6_init 1 = .ok (.invokespecial 1, 3) := by decide +kernel
theorem dX6_init_4 : decode cX6_init 4 = .ok (.aload_n 0, 1) := by decide +kernel
theorem dX6_init_5 : decode cX6_init 5 = .ok (.sipush 180, 3) := by decide +kernel
theorem dX6_init_8 : decode cX6_init 8 = .ok (.newarray .int, 2) := by decide +kernel
theorem dX6_init_10 : decode cX6_init 10 = .ok (.putfield 7, 3) := by decide +kernel
theorem dX6_init_13 : decode cX6_init 13 = .ok (.aload_n 0, 1) := by decide +kernel
theorem dX6_init_14 : decode cX6_init 14 = .ok (.bipush 60, 2) := by decide +kernel
theorem dX6_init_16 : decode cX6_init 16 = .ok (.newarray .int, 2) := by decide +kernel
theorem dX6_init_18 : decode cX6_init 18 = .ok (.putfield 13, 3) := by decide +kernel
theorem dX6_init_21 : decode cX6_init 21 = .ok (.aload_n 0, 1) := by decide +kernel
theorem dX6_init_22 : decode cX6_init 22 = .ok (.iconst 2, 1) := by decide +kernel
theorem dX6_init_23 : decode cX6_init 23 = .ok (.newarray .boolean, 2) := by decide +kernel
theorem dX6_init_25 : decode cX6_init 25 = .ok (.putfield 16, 3) := by decide +kernel
theorem dX6_init_28 : decode cX6_init 28 = .ok (.aload_n 0, 1) := by decide +kernel
theorem dX6_init_29 : decode cX6_init 29 = .ok (.bipush 60, 2) := by decide +kernel
theorem dX6_init_31 : decode cX6_init 31 = .ok (.newarray .int, 2) := by decide +kernel
theorem dX6_init_33 : decode cX6_init 33 = .ok (.putfield 20, 3) := by decide +kernel
theorem dX6_init_36 : decode cX6_init 36 = .ok (.aload_n 0, 1) := by decide +kernel
theorem dX6_init_37 : decode cX6_init 37 = .ok (.sipush 160, 3) := by decide +kernel
theorem dX6_init_40 : decode cX6_init 40 = .ok (.newarray .int, 2) := by decide +kernel
theorem dX6_init_42 : decode cX6_init 42 = .ok (.putfield 23, 3) := by decide +kernel
theorem dX6_init_45 : decode cX6_init 45 = .ok (.aload_n 0, 1) := by decide +kernel
theorem dX6_init_46 : decode cX6_init 46 = .ok (.iconst 5, 1) := by decide +kernel
theorem dX6_init_47 : decode cX6_init 47 = .ok (.newarray .int, 2) := by decide +kernel
theorem dX6_init_49 : decode cX6_init 49 = .ok (.putfield 26, 3) := by decide +kernel
theorem dX6_init_52 : decode cX6_init 52 = .ok (.aload_n 0, 1) := by decide +kernel
theorem dX6_init_53 : decode cX6_init 53 = .ok (.sipush 205, 3) := by decide +kernel
theorem dX6_init_56 : decode cX6_init 56 = .ok (.newarray .int, 2) := by decide +kernel
theorem dX6_init_58 : decode cX6_init 58 = .ok (.putfield 29, 3) := by decide +kernel
theorem dX6_init_61 : decode cX6_init 61 = .ok (.aload_n 0, 1) := by decide +kernel
theorem dX6_init_62 : decode cX6_init 62 = .ok (.sipush 410, 3) := by decide +kernel
theorem dX6_init_65 : decode cX6_init 65 = .ok (.newarray .int, 2) := by decide +kernel
theorem dX6_init_67 : decode cX6_init 67 = .ok (.putfield 32, 3) := by decide +kernel
theorem dX6_init_70 : decode cX6_init 70 = .ok (.aload_n 0, 1) := by decide +kernel
theorem dX6_init_71 : decode cX6_init 71 = .ok (.iconst 4, 1) := by decide +kernel
theorem dX6_init_72 : decode cX6_init 72 = .ok (.newarray .int, 2) := by decide +kernel
theorem dX6_init_74 : decode cX6_init 74 = .ok (.putfield 35, 3) := by decide +kernel
theorem dX6_init_77 : decode cX6_init 77 = .ok (.aload_n 0, 1) := by decide +kernel
theorem dX6_init_78 : decode cX6_init 78 = .ok (.iconst 4, 1) := by decide +kernel
theorem dX6_init_79 : decode cX6_init 79 = .ok (.newarray .int, 2) := by decide +kernel
theorem dX6_init_81 : decode cX6_init 81 = .ok (.putfield 38, 3) := by decide +kernel
theorem dX6_init_84 : decode cX6_init 84 = .ok (.aload_n 0, 1) := by decide +kernel
theorem dX6_init_85 : decode cX6_init 85 = .ok (.sipush 160, 3) := by decide +kernel
theorem dX6_init_88 : decode cX6_init 88 = .ok (.newarray .int, 2) := by decide +kernel
theorem dX6_init_90 : decode cX6_init 90 = .ok (.putfield 41, 3) := by decide +kernel
theorem dX6_init_93 : decode cX6_init 93 = .ok (.aload_n 0, 1) := by decide +kernel
theorem dX6_init_94 : decode cX6_init 94 = .ok (.bipush 60, 2) := by decide +kernel
theorem dX6_init_96 : decode cX6_init 96 = .ok (.newarray .int, 2) := by decide +kernel
theorem dX6_init_98 : decode cX6_init 98 = .ok (.putfield 44, 3) := by decide +kernel
theorem dX6_init_101 : decode cX6_init 101 = .ok (.iconst 0, 1) := by decide +kernel
theorem dX6_init_102 : decode cX6_init 102 = .ok (.istore_n 1, 1) := by decide +kernel
theorem dX6_init_103 : decode cX6_init 103 = .ok (.iload_n 1, 1) := by decide +kernel
theorem dX6_init_104 : decode cX6_init 104 = .ok (.iconst 4, 1) := by decide +kernel
theorem dX6_init_105 : decode cX6_init 105 = .ok (.if_icmp .ge 17, 3) := by decide +kernel
theorem dX6_init_108 : decode cX6_init 108 = .ok (.aload_n 0, 1) := by decide +kernel
theorem dX6_init_109 : decode cX6_init 109 = .ok (.getfield 35, 3) := by decide +kernel
theorem dX6_init_112 : decode cX6_init 112 = .ok (.iload_n 1, 1) := by decide +kernel
theorem dX6_init_113 : decode cX6_init 113 = .ok (.bipush (-4), 2) := by decide +kernel
theorem dX6_init_115 : decode cX6_init 115 = .ok (.iastore, 1) := by decide +kernel
theorem dX6_init_116 : decode cX6_init 116 = .ok (.iinc 1 1, 3) := by decide +kernel
theorem dX6_init_119 : decode cX6_init 119 = .ok (.goto (-16), 3) := by decide +kernel
theorem dX6_init_122 : decode cX6_init 122 = .ok (.aload_n 0, 1) := by decide +kernel
theorem dX6_init_123 : decode cX6_init 123 = .ok (.invokevirtual 47, 3) := by decide +kernel
theorem dX6_init_126 : decode cX6_init 126 = .ok (.aload_n 0, 1) := by decide +kernel
theorem dX6_init_127 : decode cX6_init 127 = .ok (.invokevirtual 50, 3) := by decide +kernel
theorem dX6_init_130 : decode cX6_init 130 = .ok (.return_, 1) := by decide +kernel
theorem dX6_in_0 : decode cX6_in 0 = .ok (.lload_n 0, 1) := by decide +kernel
theorem dX6_in_1 : decode cX6_in 1 = .ok (.lload_n 2, 1) := by decide +kernel
theorem dX6_in_2 : decode cX6_in 2 = .ok (.lcmp, 1) := by decide +kernel
theorem dX6_in_3 : decode cX6_in 3 = .ok (.ifCond .lt 14, 3) := by decide +kernel
theorem dX6_in_6 : decode cX6_in 6 = .ok (.lload_n 0, 1) := by decide +kernel
theorem dX6_in_7 : decode cX6_in 7 = .ok (.lload 4, 2) := by decide +kernel
theorem dX6_in_9 : decode cX6_in 9 = .ok (.lcmp, 1) := by decide +kernel
theorem dX6_in_10 : decode cX6_in 10 = .ok (.ifCond .gt 7, 3) := by decide +kernel
theorem dX6_in_13 : decode cX6_in 13 = .ok (.iconst 1, 1) := by decide +kernel
theorem dX6_in_14 : decode cX6_in 14 = .ok (.goto 4, 3) := by decide +kernel
theorem dX6_in_17 : decode cX6_in 17 = .ok (.iconst 0, 1) := by decide +kernel
theorem dX6_in_18 : decode cX6_in 18 = .ok (.ireturn, 1) := by decide +kernel
theorem dX6_flag_0 : decode cX6_flag 0 = .ok (.iload_n 0, 1) := by decide +kernel
theorem dX6_flag_1 : decode cX6_flag 1 = .ok (.ifCond .eq 7, 3) := by decide +kernel
theorem dX6_flag_4 : decode cX6_flag 4 = .ok (.iconst 1, 1) := by decide +kernel
theorem dX6_flag_5 : decode cX6_flag 5 = .ok (.goto 4, 3) := by decide +kernel
theorem dX6_flag_8 : decode cX6_flag 8 = .ok (.iconst 0, 1) := by decide +kernel
theorem dX6_flag_9 : decode cX6_flag 9 = .ok (.ireturn, 1) := by decide +kernel
theorem dX6_lesser_0 : decode cX6_lesser 0 = .ok (.iload_n 0, 1) := by decide +kernel
theorem dX6_lesser_1 : decode cX6_lesser 1 = .ok (.iload_n 1, 1) := by decide +kernel
theorem dX6_lesser_2 : decode cX6_lesser 2 = .ok (.if_icmp .ge 7, 3) := by decide +kernel
theorem dX6_lesser_5 : decode cX6_lesser 5 = .ok (.iload_n 0, 1) := by decide +kernel
theorem dX6_lesser_6 : decode cX6_lesser 6 = .ok (.goto 4, 3) := by decide +kernel
theorem dX6_lesser_9 : decode cX6_lesser 9 = .ok (.iload_n 1, 1) := by decide +kernel
theorem dX6_lesser_10 : decode cX6_lesser 10 = .ok (.ireturn, 1) := by decide +kernel
theorem dX6_firstDraft_0 : decode cX6_firstDraft 0 = .ok (.iconst 0, 1) := by decide +kernel
theorem dX6_firstDraft_1 : decode cX6_firstDraft 1 = .ok (.istore_n 1, 1) := by decide +kernel
theorem dX6_firstDraft_2 : decode cX6_firstDraft 2 = .ok (.iload_n 1, 1) := by decide +kernel
theorem dX6_firstDraft_3 : decode cX6_firstDraft 3 = .ok (.bipush 60, 2) := by decide +kernel
theorem dX6_firstDraft_5 : decode cX6_firstDraft 5 = .ok (.if_icmp .ge 16, 3) := by decide +kernel
theorem dX6_firstDraft_8 : decode cX6_firstDraft 8 = .ok (.aload_n 0, 1) := by decide +kernel
theorem dX6_firstDraft_9 : decode cX6_firstDraft 9 = .ok (.getfield 20, 3) := by decide +kernel
theorem dX6_firstDraft_12 : decode cX6_firstDraft 12 = .ok (.iload_n 1, 1) := by decide +kernel
theorem dX6_firstDraft_13 : decode cX6_firstDraft 13 = .ok (.iconst 0, 1) := by decide +kernel
theorem dX6_firstDraft_14 : decode cX6_firstDraft 14 = .ok (.iastore, 1) := by decide +kernel
theorem dX6_firstDraft_15 : decode cX6_firstDraft 15 = .ok (.iinc 1 1, 3) := by decide +kernel
theorem dX6_firstDraft_18 : decode cX6_firstDraft 18 = .ok (.goto (-16), 3) := by decide +kernel
theorem dX6_firstDraft_21 : decode cX6_firstDraft 21 = .ok (.aload_n 0, 1) := by decide +kernel
theorem dX6_firstDraft_22 : decode cX6_firstDraft 22 = .ok (.iconst 0, 1) := by decide +kernel
theorem dX6_firstDraft_23 : decode cX6_firstDraft 23 = .ok (.putfield 53, 3) := by decide +kernel
theorem dX6_firstDraft_26 : decode cX6_firstDraft 26 = .ok (.return_, 1) := by decide +kernel
theorem dX6_keepDraft_0 : decode cX6_keepDraft 0 = .ok (.iconst 0, 1) := by decide +kernel
theorem dX6_keepDraft_1 : decode cX6_keepDraft 1 = .ok (.istore_n 1, 1) := by decide +kernel
theorem dX6_keepDraft_2 : decode cX6_keepDraft 2 = .ok (.iload_n 1, 1) := by decide +kernel
theorem dX6_keepDraft_3 : decode cX6_keepDraft 3 = .ok (.bipush 60, 2) := by decide +kernel
theorem dX6_keepDraft_5 : decode cX6_keepDraft 5 = .ok (.if_icmp .ge 21, 3) := by decide +kernel
theorem dX6_keepDraft_8 : decode cX6_keepDraft 8 = .ok (.aload_n 0, 1) := by decide +kernel
theorem dX6_keepDraft_9 : decode cX6_keepDraft 9 = .ok (.getfield 7, 3) := by decide +kernel
theorem dX6_keepDraft_12 : decode cX6_keepDraft 12 = .ok (.iload_n 1, 1) := by decide +kernel
theorem dX6_keepDraft_13 : decode cX6_keepDraft 13 = .ok (.aload_n 0, 1) := by decide +kernel
theorem dX6_keepDraft_14 : decode cX6_keepDraft 14 = .ok (.getfield 20, 3) := by decide +kernel
theorem dX6_keepDraft_17 : decode cX6_keepDraft 17 = .ok (.iload_n 1, 1) := by decide +kernel
theorem dX6_keepDraft_18 : decode cX6_keepDraft 18 = .ok (.iaload, 1) := by decide +kernel
theorem dX6_keepDraft_19 : decode cX6_keepDraft 19 = .ok (.iastore, 1) := by decide +kernel
theorem dX6_keepDraft_20 : decode cX6_keepDraft 20 = .ok (.iinc 1 1, 3) := by decide +kernel
theorem dX6_keepDraft_23 : decode cX6_keepDraft 23 = .ok (.goto (-21), 3) := by decide +kernel
theorem dX6_keepDraft_26 : decode cX6_keepDraft 26 = .ok (.aload_n 0, 1) := by decide +kernel
theorem dX6_keepDraft_27 : decode cX6_keepDraft 27 = .ok (.getfield 16, 3) := by decide +kernel
theorem dX6_keepDraft_30 : decode cX6_keepDraft 30 = .ok (.iconst 0, 1) := by decide +kernel
theorem dX6_keepDraft_31 : decode cX6_keepDraft 31 = .ok (.iconst 0, 1) := by decide +kernel
theorem dX6_keepDraft_32 : decode cX6_keepDraft 32 = .ok (.bastore, 1) := by decide +kernel
theorem dX6_keepDraft_33 : decode cX6_keepDraft 33 = .ok (.aload_n 0, 1) := by decide +kernel
theorem dX6_keepDraft_34 : decode cX6_keepDraft 34 = .ok (.getfield 16, 3) := by decide +kernel
theorem dX6_keepDraft_37 : decode cX6_keepDraft 37 = .ok (.iconst 1, 1) := by decide +kernel
theorem dX6_keepDraft_38 : decode cX6_keepDraft 38 = .ok (.iconst 0, 1) := by decide +kernel
theorem dX6_keepDraft_39 : decode cX6_keepDraft 39 = .ok (.bastore, 1) := by decide +kernel
theorem dX6_keepDraft_40 : decode cX6_keepDraft 40 = .ok (.return_, 1) := by decide +kernel
theorem dX6_feed_0 : decode cX6_feed 0 = .ok (.iload_n 1, 1) := by decide +kernel
theorem dX6_feed_1 : decode cX6_feed 1 = .ok (.i2l, 1) := by decide +kernel
theorem dX6_feed_2 : decode cX6_feed 2 = .ok (.lconst 0, 1) := by decide +kernel
theorem dX6_feed_3 : decode cX6_feed 3 = .ok (.ldc2_w 57, 3) := by decide +kernel
theorem dX6_feed_6 : decode cX6_feed 6 = .ok (.invokestatic 59, 3) := by decide +kernel
theorem dX6_feed_9 : decode cX6_feed 9 = .ok (.ifCond .ne 5, 3) := by decide +kernel
theorem dX6_feed_12 : decode cX6_feed 12 = .ok (.iconst (-1), 1) := by decide +kernel
theorem dX6_feed_13 : decode cX6_feed 13 = .ok (.ireturn, 1) := by decide +kernel
theorem dX6_feed_14 : decode cX6_feed 14 = .ok (.aload_n 0, 1) := by decide +kernel
theorem dX6_feed_15 : decode cX6_feed 15 = .ok (.getfield 63, 3) := by decide +kernel
theorem dX6_feed_18 : decode cX6_feed 18 = .ok (.sipush 160, 3) := by decide +kernel
theorem dX6_feed_21 : decode cX6_feed 21 = .ok (.if_icmp .ne 6, 3) := by decide +kernel
theorem dX6_feed_24 : decode cX6_feed 24 = .ok (.bipush (-3), 2) := by decide +kernel
theorem dX6_feed_26 : decode cX6_feed 26 = .ok (.ireturn, 1) := by decide +kernel
theorem dX6_feed_27 : decode cX6_feed 27 = .ok (.aload_n 0, 1) := by decide +kernel
theorem dX6_feed_28 : decode cX6_feed 28 = .ok (.getfield 23, 3) := by decide +kernel
theorem dX6_feed_31 : decode cX6_feed 31 = .ok (.aload_n 0, 1) := by decide +kernel
theorem dX6_feed_32 : decode cX6_feed 32 = .ok (.getfield 63, 3) := by decide +kernel
theorem dX6_feed_35 : decode cX6_feed 35 = .ok (.iload_n 1, 1) := by decide +kernel
theorem dX6_feed_36 : decode cX6_feed 36 = .ok (.iastore, 1) := by decide +kernel
theorem dX6_feed_37 : decode cX6_feed 37 = .ok (.aload_n 0, 1) := by decide +kernel
theorem dX6_feed_38 : decode cX6_feed 38 = .ok (.dup, 1) := by decide +kernel
theorem dX6_feed_39 : decode cX6_feed 39 = .ok (.getfield 63, 3) := by decide +kernel
theorem dX6_feed_42 : decode cX6_feed 42 = .ok (.iconst 1, 1) := by decide +kernel
theorem dX6_feed_43 : decode cX6_feed 43 = .ok (.iadd, 1) := by decide +kernel
theorem dX6_feed_44 : decode cX6_feed 44 = .ok (.putfield 63, 3) := by decide +kernel
theorem dX6_feed_47 : decode cX6_feed 47 = .ok (.aload_n 0, 1) := by decide +kernel
theorem dX6_feed_48 : decode cX6_feed 48 = .ok (.getfield 63, 3) := by decide +kernel
theorem dX6_feed_51 : decode cX6_feed 51 = .ok (.ireturn, 1) := by decide +kernel
theorem dX6_end_0 : decode cX6_end 0 = .ok (.iload_n 1, 1) := by decide +kernel
theorem dX6_end_1 : decode cX6_end 1 = .ok (.i2l, 1) := by decide +kernel
theorem dX6_end_2 : decode cX6_end 2 = .ok (.lconst 0, 1) := by decide +kernel
theorem dX6_end_3 : decode cX6_end 3 = .ok (.aload_n 0, 1) := by decide +kernel
theorem dX6_end_4 : decode cX6_end 4 = .ok (.getfield 63, 3) := by decide +kernel
theorem dX6_end_7 : decode cX6_end 7 = .ok (.i2l, 1) := by decide +kernel
theorem dX6_end_8 : decode cX6_end 8 = .ok (.invokestatic 59, 3) := by decide +kernel
theorem dX6_end_11 : decode cX6_end 11 = .ok (.ifCond .ne 5, 3) := by decide +kernel
theorem dX6_end_14 : decode cX6_end 14 = .ok (.iconst (-1), 1) := by decide +kernel
theorem dX6_end_15 : decode cX6_end 15 = .ok (.ireturn, 1) := by decide +kernel
theorem dX6_end_16 : decode cX6_end 16 = .ok (.aload_n 0, 1) := by decide +kernel
theorem dX6_end_17 : decode cX6_end 17 = .ok (.getfield 63, 3) := by decide +kernel
theorem dX6_end_20 : decode cX6_end 20 = .ok (.istore_n 2, 1) := by decide +kernel
theorem dX6_end_21 : decode cX6_end 21 = .ok (.aload_n 0, 1) := by decide +kernel
theorem dX6_end_22 : decode cX6_end 22 = .ok (.iload_n 1, 1) := by decide +kernel
theorem dX6_end_23 : decode cX6_end 23 = .ok (.putfield 63, 3) := by decide +kernel
theorem dX6_end_26 : decode cX6_end 26 = .ok (.iload_n 2, 1) := by decide +kernel
theorem dX6_end_27 : decode cX6_end 27 = .ok (.ireturn, 1) := by decide +kernel
theorem dX6_requires_0 : decode cX6_requires 0 = .ok (.iload_n 1, 1) := by decide +kernel
theorem dX6_requires_1 : decode cX6_requires 1 = .ok (.ifCond .ne 23, 3) := by decide +kernel
theorem dX6_requires_4 : decode cX6_requires 4 = .ok (.aload_n 0, 1) := by decide +kernel
theorem dX6_requires_5 : decode cX6_requires 5 = .ok (.getfield 67, 3) := by decide +kernel
theorem dX6_requires_8 : decode cX6_requires 8 = .ok (.ifCond .ne 16, 3) := by decide +kernel
theorem dX6_requires_11 : decode cX6_requires 11 = .ok (.aload_n 0, 1) := by decide +kernel
theorem dX6_requires_12 : decode cX6_requires 12 = .ok (.iload_n 2, 1) := by decide +kernel
theorem dX6_requires_13 : decode cX6_requires 13 = .ok (.putfield 67, 3) := by decide +kernel
theorem dX6_requires_16 : decode cX6_requires 16 = .ok (.aload_n 0, 1) := by decide +kernel
theorem dX6_requires_17 : decode cX6_requires 17 = .ok (.aload_n 0, 1) := by decide +kernel
theorem dX6_requires_18 : decode cX6_requires 18 = .ok (.getfield 70, 3) := by decide +kernel
theorem dX6_requires_21 : decode cX6_requires 21 = .ok (.putfield 73, 3) := by decide +kernel
theorem dX6_requires_24 : decode cX6_requires 24 = .ok (.return_, 1) := by decide +kernel
theorem dX6_byteAt_0 : decode cX6_byteAt 0 = .ok (.iload_n 1, 1) := by decide +kernel
theorem dX6_byteAt_1 : decode cX6_byteAt 1 = .ok (.aload_n 0, 1) := by decide +kernel
theorem dX6_byteAt_2 : decode cX6_byteAt 2 = .ok (.getfield 63, 3) := by decide +kernel
theorem dX6_byteAt_5 : decode cX6_byteAt 5 = .ok (.if_icmp .ge 12, 3) := by decide +kernel
theorem dX6_byteAt_8 : decode cX6_byteAt 8 = .ok (.aload_n 0, 1) := by decide +kernel
theorem dX6_byteAt_9 : decode cX6_byteAt 9 = .ok (.getfield 23, 3) := by decide +kernel
theorem dX6_byteAt_12 : decode cX6_byteAt 12 = .ok (.iload_n 1, 1) := by decide +kernel
theorem dX6_byteAt_13 : decode cX6_byteAt 13 = .ok (.iaload, 1) := by decide +kernel
theorem dX6_byteAt_14 : decode cX6_byteAt 14 = .ok (.goto 4, 3) := by decide +kernel
theorem dX6_byteAt_17 : decode cX6_byteAt 17 = .ok (.iconst (-1), 1) := by decide +kernel
theorem dX6_byteAt_18 : decode cX6_byteAt 18 = .ok (.ireturn, 1) := by decide +kernel
theorem dX6_is_0 : decode cX6_is 0 = .ok (.aload_n 0, 1) := by decide +kernel
theorem dX6_is_1 : decode cX6_is 1 = .ok (.getfield 76, 3) := by decide +kernel
theorem dX6_is_4 : decode cX6_is 4 = .ok (.aload_n 0, 1) := by decide +kernel
theorem dX6_is_5 : decode cX6_is 5 = .ok (.getfield 70, 3) := by decide +kernel
theorem dX6_is_8 : decode cX6_is 8 = .ok (.isub, 1) := by decide +kernel
theorem dX6_is_9 : decode cX6_is 9 = .ok (.iload_n 1, 1) := by decide +kernel
theorem dX6_is_10 : decode cX6_is 10 = .ok (.if_icmp .ne 63, 3) := by decide +kernel
theorem dX6_is_13 : decode cX6_is 13 = .ok (.aload_n 0, 1) := by decide +kernel
theorem dX6_is_14 : decode cX6_is 14 = .ok (.aload_n 0, 1) := by decide +kernel
theorem dX6_is_15 : decode cX6_is 15 = .ok (.getfield 70, 3) := by decide +kernel
theorem dX6_is_18 : decode cX6_is 18 = .ok (.invokevirtual 79, 3) := by decide +kernel
theorem dX6_is_21 : decode cX6_is 21 = .ok (.iload_n 2, 1) := by decide +kernel
theorem dX6_is_22 : decode cX6_is 22 = .ok (.if_icmp .ne 51, 3) := by decide +kernel
theorem dX6_is_25 : decode cX6_is 25 = .ok (.aload_n 0, 1) := by decide +kernel
theorem dX6_is_26 : decode cX6_is 26 = .ok (.aload_n 0, 1) := by decide +kernel
theorem dX6_is_27 : decode cX6_is 27 = .ok (.getfield 70, 3) := by decide +kernel
theorem dX6_is_30 : decode cX6_is 30 = .ok (.iconst 1, 1) := by decide +kernel
theorem dX6_is_31 : decode cX6_is 31 = .ok (.iadd, 1) := by decide +kernel
theorem dX6_is_32 : decode cX6_is 32 = .ok (.invokevirtual 79, 3) := by decide +kernel
theorem dX6_is_35 : decode cX6_is 35 = .ok (.iload_n 3, 1) := by decide +kernel
theorem dX6_is_36 : decode cX6_is 36 = .ok (.if_icmp .ne 37, 3) := by decide +kernel
theorem dX6_is_39 : decode cX6_is 39 = .ok (.aload_n 0, 1) := by decide +kernel
theorem dX6_is_40 : decode cX6_is 40 = .ok (.aload_n 0, 1) := by decide +kernel
theorem dX6_is_41 : decode cX6_is 41 = .ok (.getfield 70, 3) := by decide +kernel
theorem dX6_is_44 : decode cX6_is 44 = .ok (.iconst 2, 1) := by decide +kernel
theorem dX6_is_45 : decode cX6_is 45 = .ok (.iadd, 1) := by decide +kernel
theorem dX6_is_46 : decode cX6_is 46 = .ok (.invokevirtual 79, 3) := by decide +kernel
theorem dX6_is_49 : decode cX6_is 49 = .ok (.iload 4, 2) := by decide +kernel
theorem dX6_is_51 : decode cX6_is 51 = .ok (.if_icmp .ne 22, 3) := by decide +kernel
theorem dX6_is_54 : decode cX6_is 54 = .ok (.aload_n 0, 1) := by decide +kernel
theorem dX6_is_55 : decode cX6_is 55 = .ok (.aload_n 0, 1) := by decide +kernel
theorem dX6_is_56 : decode cX6_is 56 = .ok (.getfield 70, 3) := by decide +kernel
theorem dX6_is_59 : decode cX6_is 59 = .ok (.iconst 3, 1) := by decide +kernel
theorem dX6_is_60 : decode cX6_is 60 = .ok (.iadd, 1) := by decide +kernel
theorem dX6_is_61 : decode cX6_is 61 = .ok (.invokevirtual 79, 3) := by decide +kernel
theorem dX6_is_64 : decode cX6_is 64 = .ok (.iload 5, 2) := by decide +kernel
theorem dX6_is_66 : decode cX6_is 66 = .ok (.if_icmp .ne 7, 3) := by decide +kernel
theorem dX6_is_69 : decode cX6_is 69 = .ok (.iconst 1, 1) := by decide +kernel
theorem dX6_is_70 : decode cX6_is 70 = .ok (.goto 4, 3) := by decide +kernel
theorem dX6_is_73 : decode cX6_is 73 = .ok (.iconst 0, 1) := by decide +kernel
theorem dX6_is_74 : decode cX6_is 74 = .ok (.ireturn, 1) := by decide +kernel
theorem dX6_lineNow_0 : decode cX6_lineNow 0 = .ok (.aload_n 0, 1) := by decide +kernel
theorem dX6_lineNow_1 : decode cX6_lineNow 1 = .ok (.iconst 5, 1) := by decide +kernel
theorem dX6_lineNow_2 : decode cX6_lineNow 2 = .ok (.bipush 112, 2) := by decide +kernel
theorem dX6_lineNow_4 : decode cX6_lineNow 4 = .ok (.bipush 108, 2) := by decide +kernel
theorem dX6_lineNow_6 : decode cX6_lineNow 6 = .ok (.bipush 97, 2) := by decide +kernel
theorem dX6_lineNow_8 : decode cX6_lineNow 8 = .ok (.bipush 105, 2) := by decide +kernel
theorem dX6_lineNow_10 : decode cX6_lineNow 10 = .ok (.invokevirtual 83, 3) := by decide +kernel
theorem dX6_lineNow_13 : decode cX6_lineNow 13 = .ok (.ifCond .eq 20, 3) := by decide +kernel
theorem dX6_lineNow_16 : decode cX6_lineNow 16 = .ok (.aload_n 0, 1) := by decide +kernel
theorem dX6_lineNow_17 : decode cX6_lineNow 17 = .ok (.aload_n 0, 1) := by decide +kernel
theorem dX6_lineNow_18 : decode cX6_lineNow 18 = .ok (.getfield 70, 3) := by decide +kernel
theorem dX6_lineNow_21 : decode cX6_lineNow 21 = .ok (.iconst 4, 1) := by decide +kernel
theorem dX6_lineNow_22 : decode cX6_lineNow 22 = .ok (.iadd, 1) := by decide +kernel
theorem dX6_lineNow_23 : decode cX6_lineNow 23 = .ok (.invokevirtual 79, 3) := by decide +kernel
theorem dX6_lineNow_26 : decode cX6_lineNow 26 = .ok (.bipush 110, 2) := by decide +kernel
theorem dX6_lineNow_28 : decode cX6_lineNow 28 = .ok (.if_icmp .ne 5, 3) := by decide +kernel
theorem dX6_lineNow_31 : decode cX6_lineNow 31 = .ok (.iconst 0, 1) := by decide +kernel
theorem dX6_lineNow_32 : decode cX6_lineNow 32 = .ok (.ireturn, 1) := by decide +kernel
theorem dX6_lineNow_33 : decode cX6_lineNow 33 = .ok (.aload_n 0, 1) := by decide +kernel
theorem dX6_lineNow_34 : decode cX6_lineNow 34 = .ok (.bipush 6, 2) := by decide +kernel
theorem dX6_lineNow_36 : decode cX6_lineNow 36 = .ok (.bipush 103, 2) := by decide +kernel
theorem dX6_lineNow_38 : decode cX6_lineNow 38 = .ok (.bipush 114, 2) := by decide +kernel
theorem dX6_lineNow_40 : decode cX6_lineNow 40 = .ok (.bipush 101, 2) := by decide +kernel
theorem dX6_lineNow_42 : decode cX6_lineNow 42 = .ok (.bipush 101, 2) := by decide +kernel
theorem dX6_lineNow_44 : decode cX6_lineNow 44 = .ok (.invokevirtual 83, 3) := by decide +kernel
theorem dX6_lineNow_47 : decode cX6_lineNow 47 = .ok (.ifCond .eq 35, 3) := by decide +kernel
theorem dX6_lineNow_50 : decode cX6_lineNow 50 = .ok (.aload_n 0, 1) := by decide +kernel
theorem dX6_lineNow_51 : decode cX6_lineNow 51 = .ok (.aload_n 0, 1) := by decide +kernel
theorem dX6_lineNow_52 : decode cX6_lineNow 52 = .ok (.getfield 70, 3) := by decide +kernel
theorem dX6_lineNow_55 : decode cX6_lineNow 55 = .ok (.iconst 4, 1) := by decide +kernel
theorem dX6_lineNow_56 : decode cX6_lineNow 56 = .ok (.iadd, 1) := by decide +kernel
theorem dX6_lineNow_57 : decode cX6_lineNow 57 = .ok (.invokevirtual 79, 3) := by decide +kernel
theorem dX6_lineNow_60 : decode cX6_lineNow 60 = .ok (.bipush 100, 2) := by decide +kernel
theorem dX6_lineNow_62 : decode cX6_lineNow 62 = .ok (.if_icmp .ne 20, 3) := by decide +kernel
theorem dX6_lineNow_65 : decode cX6_lineNow 65 = .ok (.aload_n 0, 1) := by decide +kernel
theorem dX6_lineNow_66 : decode cX6_lineNow 66 = .ok (.aload_n 0, 1) := by decide +kernel
theorem dX6_lineNow_67 : decode cX6_lineNow 67 = .ok (.getfield 70, 3) := by decide +kernel
theorem dX6_lineNow_70 : decode cX6_lineNow 70 = .ok (.iconst 5, 1) := by decide +kernel
theorem dX6_lineNow_71 : decode cX6_lineNow 71 = .ok (.iadd, 1) := by decide +kernel
theorem dX6_lineNow_72 : decode cX6_lineNow 72 = .ok (.invokevirtual 79, 3) := by decide +kernel
theorem dX6_lineNow_75 : decode cX6_lineNow 75 = .ok (.bipush 121, 2) := by decide +kernel
theorem dX6_lineNow_77 : decode cX6_lineNow 77 = .ok (.if_icmp .ne 5, 3) := by decide +kernel
theorem dX6_lineNow_80 : decode cX6_lineNow 80 = .ok (.iconst 1, 1) := by decide +kernel
theorem dX6_lineNow_81 : decode cX6_lineNow 81 = .ok (.ireturn, 1) := by decide +kernel
theorem dX6_lineNow_82 : decode cX6_lineNow 82 = .ok (.aload_n 0, 1) := by decide +kernel
theorem dX6_lineNow_83 : decode cX6_lineNow 83 = .ok (.iconst 4, 1) := by decide +kernel
theorem dX6_lineNow_84 : decode cX6_lineNow 84 = .ok (.bipush 109, 2) := by decide +kernel
theorem dX6_lineNow_86 : decode cX6_lineNow 86 = .ok (.bipush 101, 2) := by decide +kernel
theorem dX6_lineNow_88 : decode cX6_lineNow 88 = .ok (.bipush 101, 2) := by decide +kernel
theorem dX6_lineNow_90 : decode cX6_lineNow 90 = .ok (.bipush 107, 2) := by decide +kernel
theorem dX6_lineNow_92 : decode cX6_lineNow 92 = .ok (.invokevirtual 83, 3) := by decide +kernel
theorem dX6_lineNow_95 : decode cX6_lineNow 95 = .ok (.ifCond .eq 5, 3) := by decide +kernel
theorem dX6_lineNow_98 : decode cX6_lineNow 98 = .ok (.iconst 2, 1) := by decide +kernel
theorem dX6_lineNow_99 : decode cX6_lineNow 99 = .ok (.ireturn, 1) := by decide +kernel
theorem dX6_lineNow_100 : decode cX6_lineNow 100 = .ok (.aload_n 0, 1) := by decide +kernel
theorem dX6_lineNow_101 : decode cX6_lineNow 101 = .ok (.iconst 4, 1) := by decide +kernel
theorem dX6_lineNow_102 : decode cX6_lineNow 102 = .ok (.bipush 102, 2) := by decide +kernel
theorem dX6_lineNow_104 : decode cX6_lineNow 104 = .ok (.bipush 97, 2) := by decide +kernel
theorem dX6_lineNow_106 : decode cX6_lineNow 106 = .ok (.bipush 105, 2) := by decide +kernel
theorem dX6_lineNow_108 : decode cX6_lineNow 108 = .ok (.bipush 114, 2) := by decide +kernel
theorem dX6_lineNow_110 : decode cX6_lineNow 110 = .ok (.invokevirtual 83, 3) := by decide +kernel
theorem dX6_lineNow_113 : decode cX6_lineNow 113 = .ok (.ifCond .eq 7, 3) := by decide +kernel
theorem dX6_lineNow_116 : decode cX6_lineNow 116 = .ok (.iconst 3, 1) := by decide +kernel
theorem dX6_lineNow_117 : decode cX6_lineNow 117 = .ok (.goto 25, 3) := by decide +kernel
theorem dX6_lineNow_120 : decode cX6_lineNow 120 = .ok (.aload_n 0, 1) := by decide +kernel
theorem dX6_lineNow_121 : decode cX6_lineNow 121 = .ok (.iconst 4, 1) := by decide +kernel
theorem dX6_lineNow_122 : decode cX6_lineNow 122 = .ok (.bipush 119, 2) := by decide +kernel
theorem dX6_lineNow_124 : decode cX6_lineNow 124 = .ok (.bipush 111, 2) := by decide +kernel
theorem dX6_lineNow_126 : decode cX6_lineNow 126 = .ok (.bipush 114, 2) := by decide +kernel
theorem dX6_lineNow_128 : decode cX6_lineNow 128 = .ok (.bipush 100, 2) := by decide +kernel
theorem dX6_lineNow_130 : decode cX6_lineNow 130 = .ok (.invokevirtual 83, 3) := by decide +kernel
theorem dX6_lineNow_133 : decode cX6_lineNow 133 = .ok (.ifCond .eq 7, 3) := by decide +kernel
theorem dX6_lineNow_136 : decode cX6_lineNow 136 = .ok (.iconst 4, 1) := by decide +kernel
theorem dX6_lineNow_137 : decode cX6_lineNow 137 = .ok (.goto 5, 3) := by decide +kernel
theorem dX6_lineNow_140 : decode cX6_lineNow 140 = .ok (.bipush (-4), 2) := by decide +kernel
theorem dX6_lineNow_142 : decode cX6_lineNow 142 = .ok (.ireturn, 1) := by decide +kernel
theorem dX6_reads_0 : decode cX6_reads 0 = .ok (.aload_n 0, 1) := by decide +kernel
theorem dX6_reads_1 : decode cX6_reads 1 = .ok (.getfield 67, 3) := by decide +kernel
theorem dX6_reads_4 : decode cX6_reads 4 = .ok (.ifCond .le 4, 3) := by decide +kernel
theorem dX6_reads_7 : decode cX6_reads 7 = .ok (.return_, 1) := by decide +kernel
theorem dX6_reads_8 : decode cX6_reads 8 = .ok (.aload_n 0, 1) := by decide +kernel
theorem dX6_reads_9 : decode cX6_reads 9 = .ok (.aload_n 0, 1) := by decide +kernel
theorem dX6_reads_10 : decode cX6_reads 10 = .ok (.getfield 76, 3) := by decide +kernel
theorem dX6_reads_13 : decode cX6_reads 13 = .ok (.invokevirtual 79, 3) := by decide +kernel
theorem dX6_reads_16 : decode cX6_reads 16 = .ok (.bipush 32, 2) := by decide +kernel
theorem dX6_reads_18 : decode cX6_reads 18 = .ok (.if_icmp .ne 16, 3) := by decide +kernel
theorem dX6_reads_21 : decode cX6_reads 21 = .ok (.aload_n 0, 1) := by decide +kernel
theorem dX6_reads_22 : decode cX6_reads 22 = .ok (.dup, 1) := by decide +kernel
theorem dX6_reads_23 : decode cX6_reads 23 = .ok (.getfield 76, 3) := by decide +kernel
theorem dX6_reads_26 : decode cX6_reads 26 = .ok (.iconst 1, 1) := by decide +kernel
theorem dX6_reads_27 : decode cX6_reads 27 = .ok (.iadd, 1) := by decide +kernel
theorem dX6_reads_28 : decode cX6_reads 28 = .ok (.putfield 76, 3) := by decide +kernel
theorem dX6_reads_31 : decode cX6_reads 31 = .ok (.goto (-23), 3) := by decide +kernel
theorem dX6_reads_34 : decode cX6_reads 34 = .ok (.aload_n 0, 1) := by decide +kernel
theorem dX6_reads_35 : decode cX6_reads 35 = .ok (.aload_n 0, 1) := by decide +kernel
theorem dX6_reads_36 : decode cX6_reads 36 = .ok (.getfield 76, 3) := by decide +kernel
theorem dX6_reads_39 : decode cX6_reads 39 = .ok (.putfield 70, 3) := by decide +kernel
theorem dX6_reads_42 : decode cX6_reads 42 = .ok (.aload_n 0, 1) := by decide +kernel
theorem dX6_reads_43 : decode cX6_reads 43 = .ok (.aload_n 0, 1) := by decide +kernel
theorem dX6_reads_44 : decode cX6_reads 44 = .ok (.getfield 76, 3) := by decide +kernel
theorem dX6_reads_47 : decode cX6_reads 47 = .ok (.invokevirtual 79, 3) := by decide +kernel
theorem dX6_reads_50 : decode cX6_reads 50 = .ok (.istore_n 1, 1) := by decide +kernel
theorem dX6_reads_51 : decode cX6_reads 51 = .ok (.iload_n 1, 1) := by decide +kernel
theorem dX6_reads_52 : decode cX6_reads 52 = .ok (.ifCond .ge 11, 3) := by decide +kernel
theorem dX6_reads_55 : decode cX6_reads 55 = .ok (.aload_n 0, 1) := by decide +kernel
theorem dX6_reads_56 : decode cX6_reads 56 = .ok (.iconst 0, 1) := by decide +kernel
theorem dX6_reads_57 : decode cX6_reads 57 = .ok (.putfield 87, 3) := by decide +kernel
theorem dX6_reads_60 : decode cX6_reads 60 = .ok (.goto 214, 3) := by decide +kernel
theorem dX6_reads_63 : decode cX6_reads 63 = .ok (.iload_n 1, 1) := by decide +kernel
theorem dX6_reads_64 : decode cX6_reads 64 = .ok (.i2l, 1) := by decide +kernel
theorem dX6_reads_65 : decode cX6_reads 65 = .ok (.ldc2_w 90, 3) := by decide +kernel
theorem dX6_reads_68 : decode cX6_reads 68 = .ok (.ldc2_w 92, 3) := by decide +kernel
theorem dX6_reads_71 : decode cX6_reads 71 = .ok (.invokestatic 59, 3) := by decide +kernel
theorem dX6_reads_74 : decode cX6_reads 74 = .ok (.ifCond .eq 42, 3) := by decide +kernel
theorem dX6_reads_77 : decode cX6_reads 77 = .ok (.aload_n 0, 1) := by decide +kernel
theorem dX6_reads_78 : decode cX6_reads 78 = .ok (.iconst 1, 1) := by decide +kernel
theorem dX6_reads_79 : decode cX6_reads 79 = .ok (.putfield 87, 3) := by decide +kernel
theorem dX6_reads_82 : decode cX6_reads 82 = .ok (.aload_n 0, 1) := by decide +kernel
theorem dX6_reads_83 : decode cX6_reads 83 = .ok (.aload_n 0, 1) := by decide +kernel
theorem dX6_reads_84 : decode cX6_reads 84 = .ok (.getfield 76, 3) := by decide +kernel
theorem dX6_reads_87 : decode cX6_reads 87 = .ok (.invokevirtual 79, 3) := by decide +kernel
theorem dX6_reads_90 : decode cX6_reads 90 = .ok (.i2l, 1) := by decide +kernel
theorem dX6_reads_91 : decode cX6_reads 91 = .ok (.ldc2_w 90, 3) := by decide +kernel
theorem dX6_reads_94 : decode cX6_reads 94 = .ok (.ldc2_w 92, 3) := by decide +kernel
theorem dX6_reads_97 : decode cX6_reads 97 = .ok (.invokestatic 59, 3) := by decide +kernel
theorem dX6_reads_100 : decode cX6_reads 100 = .ok (.ifCond .eq 174, 3) := by decide +kernel
theorem dX6_reads_103 : decode cX6_reads 103 = .ok (.aload_n 0, 1) := by decide +kernel
theorem dX6_reads_104 : decode cX6_reads 104 = .ok (.dup, 1) := by decide +kernel
theorem dX6_reads_105 : decode cX6_reads 105 = .ok (.getfield 76, 3) := by decide +kernel
theorem dX6_reads_108 : decode cX6_reads 108 = .ok (.iconst 1, 1) := by decide +kernel
theorem dX6_reads_109 : decode cX6_reads 109 = .ok (.iadd, 1) := by decide +kernel
theorem dX6_reads_110 : decode cX6_reads 110 = .ok (.putfield 76, 3) := by decide +kernel
theorem dX6_reads_113 : decode cX6_reads 113 = .ok (.goto (-31), 3) := by decide +kernel
theorem dX6_reads_116 : decode cX6_reads 116 = .ok (.iload_n 1, 1) := by decide +kernel
theorem dX6_reads_117 : decode cX6_reads 117 = .ok (.i2l, 1) := by decide +kernel
theorem dX6_reads_118 : decode cX6_reads 118 = .ok (.ldc2_w 94, 3) := by decide +kernel
theorem dX6_reads_121 : decode cX6_reads 121 = .ok (.ldc2_w 96, 3) := by decide +kernel
theorem dX6_reads_124 : decode cX6_reads 124 = .ok (.invokestatic 59, 3) := by decide +kernel
theorem dX6_reads_127 : decode cX6_reads 127 = .ok (.ifCond .eq 116, 3) := by decide +kernel
theorem dX6_reads_130 : decode cX6_reads 130 = .ok (.aload_n 0, 1) := by decide +kernel
theorem dX6_reads_131 : decode cX6_reads 131 = .ok (.iconst 2, 1) := by decide +kernel
theorem dX6_reads_132 : decode cX6_reads 132 = .ok (.putfield 87, 3) := by decide +kernel
theorem dX6_reads_135 : decode cX6_reads 135 = .ok (.aload_n 0, 1) := by decide +kernel
theorem dX6_reads_136 : decode cX6_reads 136 = .ok (.iconst 0, 1) := by decide +kernel
theorem dX6_reads_137 : decode cX6_reads 137 = .ok (.putfield 98, 3) := by decide +kernel
theorem dX6_reads_140 : decode cX6_reads 140 = .ok (.aload_n 0, 1) := by decide +kernel
theorem dX6_reads_141 : decode cX6_reads 141 = .ok (.aload_n 0, 1) := by decide +kernel
theorem dX6_reads_142 : decode cX6_reads 142 = .ok (.getfield 76, 3) := by decide +kernel
theorem dX6_reads_145 : decode cX6_reads 145 = .ok (.invokevirtual 79, 3) := by decide +kernel
theorem dX6_reads_148 : decode cX6_reads 148 = .ok (.i2l, 1) := by decide +kernel
theorem dX6_reads_149 : decode cX6_reads 149 = .ok (.ldc2_w 94, 3) := by decide +kernel
theorem dX6_reads_152 : decode cX6_reads 152 = .ok (.ldc2_w 96, 3) := by decide +kernel
theorem dX6_reads_155 : decode cX6_reads 155 = .ok (.invokestatic 59, 3) := by decide +kernel
theorem dX6_reads_158 : decode cX6_reads 158 = .ok (.ifCond .eq 59, 3) := by decide +kernel
theorem dX6_reads_161 : decode cX6_reads 161 = .ok (.aload_n 0, 1) := by decide +kernel
theorem dX6_reads_162 : decode cX6_reads 162 = .ok (.aload_n 0, 1) := by decide +kernel
theorem dX6_reads_163 : decode cX6_reads 163 = .ok (.getfield 76, 3) := by decide +kernel
theorem dX6_reads_166 : decode cX6_reads 166 = .ok (.aload_n 0, 1) := by decide +kernel
theorem dX6_reads_167 : decode cX6_reads 167 = .ok (.getfield 70, 3) := by decide +kernel
theorem dX6_reads_170 : decode cX6_reads 170 = .ok (.isub, 1) := by decide +kernel
theorem dX6_reads_171 : decode cX6_reads 171 = .ok (.iconst 2, 1) := by decide +kernel
theorem dX6_reads_172 : decode cX6_reads 172 = .ok (.if_icmp .ge 25, 3) := by decide +kernel
theorem dX6_reads_175 : decode cX6_reads 175 = .ok (.bipush 10, 2) := by decide +kernel
theorem dX6_reads_177 : decode cX6_reads 177 = .ok (.aload_n 0, 1) := by decide +kernel
theorem dX6_reads_178 : decode cX6_reads 178 = .ok (.getfield 98, 3) := by decide +kernel
theorem dX6_reads_181 : decode cX6_reads 181 = .ok (.imul, 1) := by decide +kernel
theorem dX6_reads_182 : decode cX6_reads 182 = .ok (.aload_n 0, 1) := by decide +kernel
theorem dX6_reads_183 : decode cX6_reads 183 = .ok (.aload_n 0, 1) := by decide +kernel
theorem dX6_reads_184 : decode cX6_reads 184 = .ok (.getfield 76, 3) := by decide +kernel
theorem dX6_reads_187 : decode cX6_reads 187 = .ok (.invokevirtual 79, 3) := by decide +kernel
theorem dX6_reads_190 : decode cX6_reads 190 = .ok (.iadd, 1) := by decide +kernel
theorem dX6_reads_191 : decode cX6_reads 191 = .ok (.bipush 48, 2) := by decide +kernel
theorem dX6_reads_193 : decode cX6_reads 193 = .ok (.isub, 1) := by decide +kernel
theorem dX6_reads_194 : decode cX6_reads 194 = .ok (.goto 7, 3) := by decide +kernel
theorem dX6_reads_197 : decode cX6_reads 197 = .ok (.aload_n 0, 1) := by decide +kernel
theorem dX6_reads_198 : decode cX6_reads 198 = .ok (.getfield 98, 3) := by decide +kernel
theorem dX6_reads_201 : decode cX6_reads 201 = .ok (.putfield 98, 3) := by decide +kernel
theorem dX6_reads_204 : decode cX6_reads 204 = .ok (.aload_n 0, 1) := by decide +kernel
theorem dX6_reads_205 : decode cX6_reads 205 = .ok (.dup, 1) := by decide +kernel
theorem dX6_reads_206 : decode cX6_reads 206 = .ok (.getfield 76, 3) := by decide +kernel
theorem dX6_reads_209 : decode cX6_reads 209 = .ok (.iconst 1, 1) := by decide +kernel
theorem dX6_reads_210 : decode cX6_reads 210 = .ok (.iadd, 1) := by decide +kernel
theorem dX6_reads_211 : decode cX6_reads 211 = .ok (.putfield 76, 3) := by decide +kernel
theorem dX6_reads_214 : decode cX6_reads 214 = .ok (.goto (-74), 3) := by decide +kernel
theorem dX6_reads_217 : decode cX6_reads 217 = .ok (.aload_n 0, 1) := by decide +kernel
theorem dX6_reads_218 : decode cX6_reads 218 = .ok (.aload_n 0, 1) := by decide +kernel
theorem dX6_reads_219 : decode cX6_reads 219 = .ok (.getfield 76, 3) := by decide +kernel
theorem dX6_reads_222 : decode cX6_reads 222 = .ok (.aload_n 0, 1) := by decide +kernel
theorem dX6_reads_223 : decode cX6_reads 223 = .ok (.getfield 70, 3) := by decide +kernel
theorem dX6_reads_226 : decode cX6_reads 226 = .ok (.isub, 1) := by decide +kernel
theorem dX6_reads_227 : decode cX6_reads 227 = .ok (.iconst 2, 1) := by decide +kernel
theorem dX6_reads_228 : decode cX6_reads 228 = .ok (.if_icmp .gt 7, 3) := by decide +kernel
theorem dX6_reads_231 : decode cX6_reads 231 = .ok (.iconst 1, 1) := by decide +kernel
theorem dX6_reads_232 : decode cX6_reads 232 = .ok (.goto 4, 3) := by decide +kernel
theorem dX6_reads_235 : decode cX6_reads 235 = .ok (.iconst 0, 1) := by decide +kernel
theorem dX6_reads_236 : decode cX6_reads 236 = .ok (.iconst 1, 1) := by decide +kernel
theorem dX6_reads_237 : decode cX6_reads 237 = .ok (.invokevirtual 101, 3) := by decide +kernel
theorem dX6_reads_240 : decode cX6_reads 240 = .ok (.goto 34, 3) := by decide +kernel
theorem dX6_reads_243 : decode cX6_reads 243 = .ok (.aload_n 0, 1) := by decide +kernel
theorem dX6_reads_244 : decode cX6_reads 244 = .ok (.iconst 3, 1) := by decide +kernel
theorem dX6_reads_245 : decode cX6_reads 245 = .ok (.putfield 87, 3) := by decide +kernel
theorem dX6_reads_248 : decode cX6_reads 248 = .ok (.aload_n 0, 1) := by decide +kernel
theorem dX6_reads_249 : decode cX6_reads 249 = .ok (.iload_n 1, 1) := by decide +kernel
theorem dX6_reads_250 : decode cX6_reads 250 = .ok (.bipush 59, 2) := by decide +kernel
theorem dX6_reads_252 : decode cX6_reads 252 = .ok (.if_icmp .ne 7, 3) := by decide +kernel
theorem dX6_reads_255 : decode cX6_reads 255 = .ok (.iconst 1, 1) := by decide +kernel
theorem dX6_reads_256 : decode cX6_reads 256 = .ok (.goto 4, 3) := by decide +kernel
theorem dX6_reads_259 : decode cX6_reads 259 = .ok (.iconst 0, 1) := by decide +kernel
theorem dX6_reads_260 : decode cX6_reads 260 = .ok (.iconst 1, 1) := by decide +kernel
theorem dX6_reads_261 : decode cX6_reads 261 = .ok (.invokevirtual 101, 3) := by decide +kernel
theorem dX6_reads_264 : decode cX6_reads 264 = .ok (.aload_n 0, 1) := by decide +kernel
theorem dX6_reads_265 : decode cX6_reads 265 = .ok (.dup, 1) := by decide +kernel
theorem dX6_reads_266 : decode cX6_reads 266 = .ok (.getfield 76, 3) := by decide +kernel
theorem dX6_reads_269 : decode cX6_reads 269 = .ok (.iconst 1, 1) := by decide +kernel
theorem dX6_reads_270 : decode cX6_reads 270 = .ok (.iadd, 1) := by decide +kernel
theorem dX6_reads_271 : decode cX6_reads 271 = .ok (.putfield 76, 3) := by decide +kernel
theorem dX6_reads_274 : decode cX6_reads 274 = .ok (.return_, 1) := by decide +kernel
theorem dX6_readNumber_0 : decode cX6_readNumber 0 = .ok (.aload_n 0, 1) := by decide +kernel
theorem dX6_readNumber_1 : decode cX6_readNumber 1 = .ok (.getfield 67, 3) := by decide +kernel
theorem dX6_readNumber_4 : decode cX6_readNumber 4 = .ok (.ifCond .ne 21, 3) := by decide +kernel
theorem dX6_readNumber_7 : decode cX6_readNumber 7 = .ok (.aload_n 0, 1) := by decide +kernel
theorem dX6_readNumber_8 : decode cX6_readNumber 8 = .ok (.aload_n 0, 1) := by decide +kernel
theorem dX6_readNumber_9 : decode cX6_readNumber 9 = .ok (.getfield 87, 3) := by decide +kernel
theorem dX6_readNumber_12 : decode cX6_readNumber 12 = .ok (.iconst 2, 1) := by decide +kernel
theorem dX6_readNumber_13 : decode cX6_readNumber 13 = .ok (.if_icmp .ne 7, 3) := by decide +kernel
theorem dX6_readNumber_16 : decode cX6_readNumber 16 = .ok (.iconst 1, 1) := by decide +kernel
theorem dX6_readNumber_17 : decode cX6_readNumber 17 = .ok (.goto 4, 3) := by decide +kernel
theorem dX6_readNumber_20 : decode cX6_readNumber 20 = .ok (.iconst 0, 1) := by decide +kernel
theorem dX6_readNumber_21 : decode cX6_readNumber 21 = .ok (.iconst 2, 1) := by decide +kernel
theorem dX6_readNumber_22 : decode cX6_readNumber 22 = .ok (.invokevirtual 101, 3) := by decide +kernel
theorem dX6_readNumber_25 : decode cX6_readNumber 25 = .ok (.aload_n 0, 1) := by decide +kernel
theorem dX6_readNumber_26 : decode cX6_readNumber 26 = .ok (.getfield 67, 3) := by decide +kernel
theorem dX6_readNumber_29 : decode cX6_readNumber 29 = .ok (.ifCond .ne 20, 3) := by decide +kernel
theorem dX6_readNumber_32 : decode cX6_readNumber 32 = .ok (.aload_n 0, 1) := by decide +kernel
theorem dX6_readNumber_33 : decode cX6_readNumber 33 = .ok (.aload_n 0, 1) := by decide +kernel
theorem dX6_readNumber_34 : decode cX6_readNumber 34 = .ok (.getfield 98, 3) := by decide +kernel
theorem dX6_readNumber_37 : decode cX6_readNumber 37 = .ok (.i2l, 1) := by decide +kernel
theorem dX6_readNumber_38 : decode cX6_readNumber 38 = .ok (.iload_n 1, 1) := by decide +kernel
theorem dX6_readNumber_39 : decode cX6_readNumber 39 = .ok (.i2l, 1) := by decide +kernel
theorem dX6_readNumber_40 : decode cX6_readNumber 40 = .ok (.iload_n 2, 1) := by decide +kernel
theorem dX6_readNumber_41 : decode cX6_readNumber 41 = .ok (.i2l, 1) := by decide +kernel
theorem dX6_readNumber_42 : decode cX6_readNumber 42 = .ok (.invokestatic 59, 3) := by decide +kernel
theorem dX6_readNumber_45 : decode cX6_readNumber 45 = .ok (.iconst 3, 1) := by decide +kernel
theorem dX6_readNumber_46 : decode cX6_readNumber 46 = .ok (.invokevirtual 101, 3) := by decide +kernel
theorem dX6_readNumber_49 : decode cX6_readNumber 49 = .ok (.aload_n 0, 1) := by decide +kernel
theorem dX6_readNumber_50 : decode cX6_readNumber 50 = .ok (.getfield 67, 3) := by decide +kernel
theorem dX6_readNumber_53 : decode cX6_readNumber 53 = .ok (.ifCond .ne 10, 3) := by decide +kernel
theorem dX6_readNumber_56 : decode cX6_readNumber 56 = .ok (.aload_n 0, 1) := by decide +kernel
theorem dX6_readNumber_57 : decode cX6_readNumber 57 = .ok (.getfield 98, 3) := by decide +kernel
theorem dX6_readNumber_60 : decode cX6_readNumber 60 = .ok (.goto 4, 3) := by decide +kernel
theorem dX6_readNumber_63 : decode cX6_readNumber 63 = .ok (.iconst 0, 1) := by decide +kernel
theorem dX6_readNumber_64 : decode cX6_readNumber 64 = .ok (.istore_n 3, 1) := by decide +kernel
theorem dX6_readNumber_65 : decode cX6_readNumber 65 = .ok (.aload_n 0, 1) := by decide +kernel
theorem dX6_readNumber_66 : decode cX6_readNumber 66 = .ok (.invokevirtual 105, 3) := by decide +kernel
theorem dX6_readNumber_69 : decode cX6_readNumber 69 = .ok (.iload_n 3, 1) := by decide +kernel
theorem dX6_readNumber_70 : decode cX6_readNumber 70 = .ok (.ireturn, 1) := by decide +kernel
theorem dX6_lowOf_0 : decode cX6_lowOf 0 = .ok (.iload_n 0, 1) := by decide +kernel
theorem dX6_lowOf_1 : decode cX6_lowOf 1 = .ok (.iconst 2, 1) := by decide +kernel
theorem dX6_lowOf_2 : decode cX6_lowOf 2 = .ok (.if_icmp .eq 8, 3) := by decide +kernel
theorem dX6_lowOf_5 : decode cX6_lowOf 5 = .ok (.iload_n 0, 1) := by decide +kernel
theorem dX6_lowOf_6 : decode cX6_lowOf 6 = .ok (.iconst 4, 1) := by decide +kernel
theorem dX6_lowOf_7 : decode cX6_lowOf 7 = .ok (.if_icmp .ne 7, 3) := by decide +kernel
theorem dX6_lowOf_10 : decode cX6_lowOf 10 = .ok (.iconst 1, 1) := by decide +kernel
theorem dX6_lowOf_11 : decode cX6_lowOf 11 = .ok (.goto 4, 3) := by decide +kernel
theorem dX6_lowOf_14 : decode cX6_lowOf 14 = .ok (.iconst 0, 1) := by decide +kernel
theorem dX6_lowOf_15 : decode cX6_lowOf 15 = .ok (.ireturn, 1) := by decide +kernel
theorem dX6_mostOf_0 : decode cX6_mostOf 0 = .ok (.iload_n 0, 1) := by decide +kernel
theorem dX6_mostOf_1 : decode cX6_mostOf 1 = .ok (.ifCond .ne 7, 3) := by decide +kernel
theorem dX6_mostOf_4 : decode cX6_mostOf 4 = .ok (.iconst 3, 1) := by decide +kernel
theorem dX6_mostOf_5 : decode cX6_mostOf 5 = .ok (.goto 15, 3) := by decide +kernel
theorem dX6_mostOf_8 : decode cX6_mostOf 8 = .ok (.iload_n 0, 1) := by decide +kernel
theorem dX6_mostOf_9 : decode cX6_mostOf 9 = .ok (.iconst 1, 1) := by decide +kernel
theorem dX6_mostOf_10 : decode cX6_mostOf 10 = .ok (.if_icmp .ne 8, 3) := by decide +kernel
theorem dX6_mostOf_13 : decode cX6_mostOf 13 = .ok (.bipush 99, 2) := by decide +kernel
theorem dX6_mostOf_15 : decode cX6_mostOf 15 = .ok (.goto 5, 3) := by decide +kernel
theorem dX6_mostOf_18 : decode cX6_mostOf 18 = .ok (.bipush 9, 2) := by decide +kernel
theorem dX6_mostOf_20 : decode cX6_mostOf 20 = .ok (.ireturn, 1) := by decide +kernel
theorem dX6_readStation_0 : decode cX6_readStation 0 = .ok (.bipush 7, 2) := by decide +kernel
theorem dX6_readStation_2 : decode cX6_readStation 2 = .ok (.aload_n 0, 1) := by decide +kernel
theorem dX6_readStation_3 : decode cX6_readStation 3 = .ok (.getfield 20, 3) := by decide +kernel
theorem dX6_readStation_6 : decode cX6_readStation 6 = .ok (.bipush 35, 2) := by decide +kernel
theorem dX6_readStation_8 : decode cX6_readStation 8 = .ok (.iaload, 1) := by decide +kernel
theorem dX6_readStation_9 : decode cX6_readStation 9 = .ok (.imul, 1) := by decide +kernel
theorem dX6_readStation_10 : decode cX6_readStation 10 = .ok (.istore_n 2, 1) := by decide +kernel
theorem dX6_readStation_11 : decode cX6_readStation 11 = .ok (.aload_n 0, 1) := by decide +kernel
theorem dX6_readStation_12 : decode cX6_readStation 12 = .ok (.getfield 20, 3) := by decide +kernel
theorem dX6_readStation_15 : decode cX6_readStation 15 = .ok (.iload_n 2, 1) := by decide +kernel
theorem dX6_readStation_16 : decode cX6_readStation 16 = .ok (.iconst 0, 1) := by decide +kernel
theorem dX6_readStation_17 : decode cX6_readStation 17 = .ok (.iadd, 1) := by decide +kernel
theorem dX6_readStation_18 : decode cX6_readStation 18 = .ok (.iload_n 1, 1) := by decide +kernel
theorem dX6_readStation_19 : decode cX6_readStation 19 = .ok (.iastore, 1) := by decide +kernel
theorem dX6_readStation_20 : decode cX6_readStation 20 = .ok (.iconst 1, 1) := by decide +kernel
theorem dX6_readStation_21 : decode cX6_readStation 21 = .ok (.istore_n 3, 1) := by decide +kernel
theorem dX6_readStation_22 : decode cX6_readStation 22 = .ok (.iload_n 3, 1) := by decide +kernel
theorem dX6_readStation_23 : decode cX6_readStation 23 = .ok (.iconst 4, 1) := by decide +kernel
theorem dX6_readStation_24 : decode cX6_readStation 24 = .ok (.if_icmp .gt 29, 3) := by decide +kernel
theorem dX6_readStation_27 : decode cX6_readStation 27 = .ok (.aload_n 0, 1) := by decide +kernel
theorem dX6_readStation_28 : decode cX6_readStation 28 = .ok (.getfield 20, 3) := by decide +kernel
theorem dX6_readStation_31 : decode cX6_readStation 31 = .ok (.iload_n 2, 1) := by decide +kernel
theorem dX6_readStation_32 : decode cX6_readStation 32 = .ok (.iload_n 3, 1) := by decide +kernel
theorem dX6_readStation_33 : decode cX6_readStation 33 = .ok (.iadd, 1) := by decide +kernel
theorem dX6_readStation_34 : decode cX6_readStation 34 = .ok (.aload_n 0, 1) := by decide +kernel
theorem dX6_readStation_35 : decode cX6_readStation 35 = .ok (.iload_n 3, 1) := by decide +kernel
theorem dX6_readStation_36 : decode cX6_readStation 36 = .ok (.invokestatic 108, 3) := by decide +kernel
theorem dX6_readStation_39 : decode cX6_readStation 39 = .ok (.iload_n 3, 1) := by decide +kernel
theorem dX6_readStation_40 : decode cX6_readStation 40 = .ok (.invokestatic 111, 3) := by decide +kernel
theorem dX6_readStation_43 : decode cX6_readStation 43 = .ok (.invokevirtual 114, 3) := by decide +kernel
theorem dX6_readStation_46 : decode cX6_readStation 46 = .ok (.iastore, 1) := by decide +kernel
theorem dX6_readStation_47 : decode cX6_readStation 47 = .ok (.iinc 3 1, 3) := by decide +kernel
theorem dX6_readStation_50 : decode cX6_readStation 50 = .ok (.goto (-28), 3) := by decide +kernel
theorem dX6_readStation_53 : decode cX6_readStation 53 = .ok (.aload_n 0, 1) := by decide +kernel
theorem dX6_readStation_54 : decode cX6_readStation 54 = .ok (.getfield 20, 3) := by decide +kernel
theorem dX6_readStation_57 : decode cX6_readStation 57 = .ok (.bipush 35, 2) := by decide +kernel
theorem dX6_readStation_59 : decode cX6_readStation 59 = .ok (.dup2, 1) := by decide +kernel
theorem dX6_readStation_60 : decode cX6_readStation 60 = .ok (.iaload, 1) := by decide +kernel
theorem dX6_readStation_61 : decode cX6_readStation 61 = .ok (.iconst 1, 1) := by decide +kernel
theorem dX6_readStation_62 : decode cX6_readStation 62 = .ok (.iadd, 1) := by decide +kernel
theorem dX6_readStation_63 : decode cX6_readStation 63 = .ok (.iastore, 1) := by decide +kernel
theorem dX6_readStation_64 : decode cX6_readStation 64 = .ok (.return_, 1) := by decide +kernel
theorem dX6_readLine_0 : decode cX6_readLine 0 = .ok (.aload_n 0, 1) := by decide +kernel
theorem dX6_readLine_1 : decode cX6_readLine 1 = .ok (.getfield 87, 3) := by decide +kernel
theorem dX6_readLine_4 : decode cX6_readLine 4 = .ok (.iconst 1, 1) := by decide +kernel
theorem dX6_readLine_5 : decode cX6_readLine 5 = .ok (.if_icmp .ne 10, 3) := by decide +kernel
theorem dX6_readLine_8 : decode cX6_readLine 8 = .ok (.aload_n 0, 1) := by decide +kernel
theorem dX6_readLine_9 : decode cX6_readLine 9 = .ok (.invokevirtual 118, 3) := by decide +kernel
theorem dX6_readLine_12 : decode cX6_readLine 12 = .ok (.goto 5, 3) := by decide +kernel
theorem dX6_readLine_15 : decode cX6_readLine 15 = .ok (.bipush (-4), 2) := by decide +kernel
theorem dX6_readLine_17 : decode cX6_readLine 17 = .ok (.istore_n 1, 1) := by decide +kernel
theorem dX6_readLine_18 : decode cX6_readLine 18 = .ok (.aload_n 0, 1) := by decide +kernel
theorem dX6_readLine_19 : decode cX6_readLine 19 = .ok (.iload_n 1, 1) := by decide +kernel
theorem dX6_readLine_20 : decode cX6_readLine 20 = .ok (.bipush (-4), 2) := by decide +kernel
theorem dX6_readLine_22 : decode cX6_readLine 22 = .ok (.if_icmp .eq 7, 3) := by decide +kernel
theorem dX6_readLine_25 : decode cX6_readLine 25 = .ok (.iconst 1, 1) := by decide +kernel
theorem dX6_readLine_26 : decode cX6_readLine 26 = .ok (.goto 4, 3) := by decide +kernel
theorem dX6_readLine_29 : decode cX6_readLine 29 = .ok (.iconst 0, 1) := by decide +kernel
theorem dX6_readLine_30 : decode cX6_readLine 30 = .ok (.iconst 2, 1) := by decide +kernel
theorem dX6_readLine_31 : decode cX6_readLine 31 = .ok (.invokevirtual 101, 3) := by decide +kernel
theorem dX6_readLine_34 : decode cX6_readLine 34 = .ok (.aload_n 0, 1) := by decide +kernel
theorem dX6_readLine_35 : decode cX6_readLine 35 = .ok (.iload_n 1, 1) := by decide +kernel
theorem dX6_readLine_36 : decode cX6_readLine 36 = .ok (.iconst 4, 1) := by decide +kernel
theorem dX6_readLine_37 : decode cX6_readLine 37 = .ok (.if_icmp .eq 14, 3) := by decide +kernel
theorem dX6_readLine_40 : decode cX6_readLine 40 = .ok (.aload_n 0, 1) := by decide +kernel
theorem dX6_readLine_41 : decode cX6_readLine 41 = .ok (.getfield 20, 3) := by decide +kernel
theorem dX6_readLine_44 : decode cX6_readLine 44 = .ok (.bipush 35, 2) := by decide +kernel
theorem dX6_readLine_46 : decode cX6_readLine 46 = .ok (.iaload, 1) := by decide +kernel
theorem dX6_readLine_47 : decode cX6_readLine 47 = .ok (.iconst 5, 1) := by decide +kernel
theorem dX6_readLine_48 : decode cX6_readLine 48 = .ok (.if_icmp .ge 7, 3) := by decide +kernel
theorem dX6_readLine_51 : decode cX6_readLine 51 = .ok (.iconst 1, 1) := by decide +kernel
theorem dX6_readLine_52 : decode cX6_readLine 52 = .ok (.goto 4, 3) := by decide +kernel
theorem dX6_readLine_55 : decode cX6_readLine 55 = .ok (.iconst 0, 1) := by decide +kernel
theorem dX6_readLine_56 : decode cX6_readLine 56 = .ok (.iconst 5, 1) := by decide +kernel
theorem dX6_readLine_57 : decode cX6_readLine 57 = .ok (.invokevirtual 101, 3) := by decide +kernel
theorem dX6_readLine_60 : decode cX6_readLine 60 = .ok (.aload_n 0, 1) := by decide +kernel
theorem dX6_readLine_61 : decode cX6_readLine 61 = .ok (.iload_n 1, 1) := by decide +kernel
theorem dX6_readLine_62 : decode cX6_readLine 62 = .ok (.iconst 4, 1) := by decide +kernel
theorem dX6_readLine_63 : decode cX6_readLine 63 = .ok (.if_icmp .ne 10, 3) := by decide +kernel
theorem dX6_readLine_66 : decode cX6_readLine 66 = .ok (.aload_n 0, 1) := by decide +kernel
theorem dX6_readLine_67 : decode cX6_readLine 67 = .ok (.getfield 53, 3) := by decide +kernel
theorem dX6_readLine_70 : decode cX6_readLine 70 = .ok (.ifCond .ne 7, 3) := by decide +kernel
theorem dX6_readLine_73 : decode cX6_readLine 73 = .ok (.iconst 1, 1) := by decide +kernel
theorem dX6_readLine_74 : decode cX6_readLine 74 = .ok (.goto 4, 3) := by decide +kernel
theorem dX6_readLine_77 : decode cX6_readLine 77 = .ok (.iconst 0, 1) := by decide +kernel
theorem dX6_readLine_78 : decode cX6_readLine 78 = .ok (.iconst 4, 1) := by decide +kernel
theorem dX6_readLine_79 : decode cX6_readLine 79 = .ok (.invokevirtual 101, 3) := by decide +kernel
theorem dX6_readLine_82 : decode cX6_readLine 82 = .ok (.aload_n 0, 1) := by decide +kernel
theorem dX6_readLine_83 : decode cX6_readLine 83 = .ok (.aload_n 0, 1) := by decide +kernel
theorem dX6_readLine_84 : decode cX6_readLine 84 = .ok (.getfield 53, 3) := by decide +kernel
theorem dX6_readLine_87 : decode cX6_readLine 87 = .ok (.ifCond .ne 8, 3) := by decide +kernel
theorem dX6_readLine_90 : decode cX6_readLine 90 = .ok (.iload_n 1, 1) := by decide +kernel
theorem dX6_readLine_91 : decode cX6_readLine 91 = .ok (.iconst 4, 1) := by decide +kernel
theorem dX6_readLine_92 : decode cX6_readLine 92 = .ok (.if_icmp .ne 7, 3) := by decide +kernel
theorem dX6_readLine_95 : decode cX6_readLine 95 = .ok (.iconst 1, 1) := by decide +kernel
theorem dX6_readLine_96 : decode cX6_readLine 96 = .ok (.goto 4, 3) := by decide +kernel
theorem dX6_readLine_99 : decode cX6_readLine 99 = .ok (.iconst 0, 1) := by decide +kernel
theorem dX6_readLine_100 : decode cX6_readLine 100 = .ok (.putfield 53, 3) := by decide +kernel
theorem dX6_readLine_103 : decode cX6_readLine 103 = .ok (.aload_n 0, 1) := by decide +kernel
theorem dX6_readLine_104 : decode cX6_readLine 104 = .ok (.invokevirtual 105, 3) := by decide +kernel
theorem dX6_readLine_107 : decode cX6_readLine 107 = .ok (.aload_n 0, 1) := by decide +kernel
theorem dX6_readLine_108 : decode cX6_readLine 108 = .ok (.getfield 67, 3) := by decide +kernel
theorem dX6_readLine_111 : decode cX6_readLine 111 = .ok (.ifCond .le 4, 3) := by decide +kernel
theorem dX6_readLine_114 : decode cX6_readLine 114 = .ok (.return_, 1) := by decide +kernel
theorem dX6_readLine_115 : decode cX6_readLine 115 = .ok (.iload_n 1, 1) := by decide +kernel
theorem dX6_readLine_116 : decode cX6_readLine 116 = .ok (.iconst 4, 1) := by decide +kernel
theorem dX6_readLine_117 : decode cX6_readLine 117 = .ok (.if_icmp .ne 19, 3) := by decide +kernel
theorem dX6_readLine_120 : decode cX6_readLine 120 = .ok (.aload_n 0, 1) := by decide +kernel
theorem dX6_readLine_121 : decode cX6_readLine 121 = .ok (.getfield 20, 3) := by decide +kernel
theorem dX6_readLine_124 : decode cX6_readLine 124 = .ok (.bipush 36, 2) := by decide +kernel
theorem dX6_readLine_126 : decode cX6_readLine 126 = .ok (.aload_n 0, 1) := by decide +kernel
theorem dX6_readLine_127 : decode cX6_readLine 127 = .ok (.iconst 0, 1) := by decide +kernel
theorem dX6_readLine_128 : decode cX6_readLine 128 = .ok (.iconst 4, 1) := by decide +kernel
theorem dX6_readLine_129 : decode cX6_readLine 129 = .ok (.invokevirtual 114, 3) := by decide +kernel
theorem dX6_readLine_132 : decode cX6_readLine 132 = .ok (.iastore, 1) := by decide +kernel
theorem dX6_readLine_133 : decode cX6_readLine 133 = .ok (.goto 8, 3) := by decide +kernel
theorem dX6_readLine_136 : decode cX6_readLine 136 = .ok (.aload_n 0, 1) := by decide +kernel
theorem dX6_readLine_137 : decode cX6_readLine 137 = .ok (.iload_n 1, 1) := by decide +kernel
theorem dX6_readLine_138 : decode cX6_readLine 138 = .ok (.invokevirtual 122, 3) := by decide +kernel
theorem dX6_readLine_141 : decode cX6_readLine 141 = .ok (.aload_n 0, 1) := by decide +kernel
theorem dX6_readLine_142 : decode cX6_readLine 142 = .ok (.getfield 67, 3) := by decide +kernel
theorem dX6_readLine_145 : decode cX6_readLine 145 = .ok (.ifCond .ne 21, 3) := by decide +kernel
theorem dX6_readLine_148 : decode cX6_readLine 148 = .ok (.aload_n 0, 1) := by decide +kernel
theorem dX6_readLine_149 : decode cX6_readLine 149 = .ok (.aload_n 0, 1) := by decide +kernel
theorem dX6_readLine_150 : decode cX6_readLine 150 = .ok (.getfield 87, 3) := by decide +kernel
theorem dX6_readLine_153 : decode cX6_readLine 153 = .ok (.iconst 3, 1) := by decide +kernel
theorem dX6_readLine_154 : decode cX6_readLine 154 = .ok (.if_icmp .ne 7, 3) := by decide +kernel
theorem dX6_readLine_157 : decode cX6_readLine 157 = .ok (.iconst 1, 1) := by decide +kernel
theorem dX6_readLine_158 : decode cX6_readLine 158 = .ok (.goto 4, 3) := by decide +kernel
theorem dX6_readLine_161 : decode cX6_readLine 161 = .ok (.iconst 0, 1) := by decide +kernel
theorem dX6_readLine_162 : decode cX6_readLine 162 = .ok (.iconst 2, 1) := by decide +kernel
theorem dX6_readLine_163 : decode cX6_readLine 163 = .ok (.invokevirtual 101, 3) := by decide +kernel
theorem dX6_readLine_166 : decode cX6_readLine 166 = .ok (.aload_n 0, 1) := by decide +kernel
theorem dX6_readLine_167 : decode cX6_readLine 167 = .ok (.invokevirtual 105, 3) := by decide +kernel
theorem dX6_readLine_170 : decode cX6_readLine 170 = .ok (.return_, 1) := by decide +kernel
theorem dX6_text_0 : decode cX6_text 0 = .ok (.iconst 0, 1) := by decide +kernel
theorem dX6_text_1 : decode cX6_text 1 = .ok (.istore_n 1, 1) := by decide +kernel
theorem dX6_text_2 : decode cX6_text 2 = .ok (.aload_n 0, 1) := by decide +kernel
theorem dX6_text_3 : decode cX6_text 3 = .ok (.iconst 0, 1) := by decide +kernel
theorem dX6_text_4 : decode cX6_text 4 = .ok (.putfield 67, 3) := by decide +kernel
theorem dX6_text_7 : decode cX6_text 7 = .ok (.aload_n 0, 1) := by decide +kernel
theorem dX6_text_8 : decode cX6_text 8 = .ok (.iconst 0, 1) := by decide +kernel
theorem dX6_text_9 : decode cX6_text 9 = .ok (.putfield 76, 3) := by decide +kernel
theorem dX6_text_12 : decode cX6_text 12 = .ok (.aload_n 0, 1) := by decide +kernel
theorem dX6_text_13 : decode cX6_text 13 = .ok (.invokevirtual 47, 3) := by decide +kernel
theorem dX6_text_16 : decode cX6_text 16 = .ok (.aload_n 0, 1) := by decide +kernel
theorem dX6_text_17 : decode cX6_text 17 = .ok (.invokevirtual 105, 3) := by decide +kernel
theorem dX6_text_20 : decode cX6_text 20 = .ok (.aload_n 0, 1) := by decide +kernel
theorem dX6_text_21 : decode cX6_text 21 = .ok (.getfield 67, 3) := by decide +kernel
theorem dX6_text_24 : decode cX6_text 24 = .ok (.ifCond .ne 20, 3) := by decide +kernel
theorem dX6_text_27 : decode cX6_text 27 = .ok (.aload_n 0, 1) := by decide +kernel
theorem dX6_text_28 : decode cX6_text 28 = .ok (.getfield 87, 3) := by decide +kernel
theorem dX6_text_31 : decode cX6_text 31 = .ok (.ifCond .eq 13, 3) := by decide +kernel
theorem dX6_text_34 : decode cX6_text 34 = .ok (.aload_n 0, 1) := by decide +kernel
theorem dX6_text_35 : decode cX6_text 35 = .ok (.invokevirtual 126, 3) := by decide +kernel
theorem dX6_text_38 : decode cX6_text 38 = .ok (.iinc 1 1, 3) := by decide +kernel
theorem dX6_text_41 : decode cX6_text 41 = .ok (.goto (-21), 3) := by decide +kernel
theorem dX6_text_44 : decode cX6_text 44 = .ok (.aload_n 0, 1) := by decide +kernel
theorem dX6_text_45 : decode cX6_text 45 = .ok (.aload_n 0, 1) := by decide +kernel
theorem dX6_text_46 : decode cX6_text 46 = .ok (.getfield 53, 3) := by decide +kernel
theorem dX6_text_49 : decode cX6_text 49 = .ok (.ifCond .eq 20, 3) := by decide +kernel
theorem dX6_text_52 : decode cX6_text 52 = .ok (.aload_n 0, 1) := by decide +kernel
theorem dX6_text_53 : decode cX6_text 53 = .ok (.getfield 20, 3) := by decide +kernel
theorem dX6_text_56 : decode cX6_text 56 = .ok (.bipush 36, 2) := by decide +kernel
theorem dX6_text_58 : decode cX6_text 58 = .ok (.iaload, 1) := by decide +kernel
theorem dX6_text_59 : decode cX6_text 59 = .ok (.aload_n 0, 1) := by decide +kernel
theorem dX6_text_60 : decode cX6_text 60 = .ok (.getfield 20, 3) := by decide +kernel
theorem dX6_text_63 : decode cX6_text 63 = .ok (.bipush 35, 2) := by decide +kernel
theorem dX6_text_65 : decode cX6_text 65 = .ok (.iaload, 1) := by decide +kernel
theorem dX6_text_66 : decode cX6_text 66 = .ok (.if_icmp .ge 7, 3) := by decide +kernel
theorem dX6_text_69 : decode cX6_text 69 = .ok (.iconst 1, 1) := by decide +kernel
theorem dX6_text_70 : decode cX6_text 70 = .ok (.goto 4, 3) := by decide +kernel
theorem dX6_text_73 : decode cX6_text 73 = .ok (.iconst 0, 1) := by decide +kernel
theorem dX6_text_74 : decode cX6_text 74 = .ok (.bipush 6, 2) := by decide +kernel
theorem dX6_text_76 : decode cX6_text 76 = .ok (.invokevirtual 101, 3) := by decide +kernel
theorem dX6_text_79 : decode cX6_text 79 = .ok (.aload_n 0, 1) := by decide +kernel
theorem dX6_text_80 : decode cX6_text 80 = .ok (.iconst 0, 1) := by decide +kernel
theorem dX6_text_81 : decode cX6_text 81 = .ok (.putfield 63, 3) := by decide +kernel
theorem dX6_text_84 : decode cX6_text 84 = .ok (.aload_n 0, 1) := by decide +kernel
theorem dX6_text_85 : decode cX6_text 85 = .ok (.getfield 67, 3) := by decide +kernel
theorem dX6_text_88 : decode cX6_text 88 = .ok (.ifCond .le 11, 3) := by decide +kernel
theorem dX6_text_91 : decode cX6_text 91 = .ok (.bipush (-10), 2) := by decide +kernel
theorem dX6_text_93 : decode cX6_text 93 = .ok (.aload_n 0, 1) := by decide +kernel
theorem dX6_text_94 : decode cX6_text 94 = .ok (.getfield 73, 3) := by decide +kernel
theorem dX6_text_97 : decode cX6_text 97 = .ok (.isub, 1) := by decide +kernel
theorem dX6_text_98 : decode cX6_text 98 = .ok (.ireturn, 1) := by decide +kernel
theorem dX6_text_99 : decode cX6_text 99 = .ok (.aload_n 0, 1) := by decide +kernel
theorem dX6_text_100 : decode cX6_text 100 = .ok (.invokevirtual 50, 3) := by decide +kernel
theorem dX6_text_103 : decode cX6_text 103 = .ok (.iload_n 1, 1) := by decide +kernel
theorem dX6_text_104 : decode cX6_text 104 = .ok (.ireturn, 1) := by decide +kernel
end
section
theorem dX6_fault_0 : decode cX6_fault 0 = .ok (.aload_n 0, 1) := by decide +kernel
theorem dX6_fault_1 : decode cX6_fault 1 = .ok (.getfield 67, 3) := by decide +kernel
theorem dX6_fault_4 : decode cX6_fault 4 = .ok (.ireturn, 1) := by decide +kernel
theorem dX6_isStation_0 : decode cX6_isStation 0 = .ok (.iload_n 1, 1) := by decide +kernel
theorem dX6_isStation_1 : decode cX6_isStation 1 = .ok (.i2l, 1) := by decide +kernel
theorem dX6_isStation_2 : decode cX6_isStation 2 = .ok (.lconst 0, 1) := by decide +kernel
theorem dX6_isStation_3 : decode cX6_isStation 3 = .ok (.aload_n 0, 1) := by decide +kernel
theorem dX6_isStation_4 : decode cX6_isStation 4 = .ok (.getfield 7, 3) := by decide +kernel
theorem dX6_isStation_7 : decode cX6_isStation 7 = .ok (.bipush 35, 2) := by decide +kernel
theorem dX6_isStation_9 : decode cX6_isStation 9 = .ok (.iaload, 1) := by decide +kernel
theorem dX6_isStation_10 : decode cX6_isStation 10 = .ok (.iconst 1, 1) := by decide +kernel
theorem dX6_isStation_11 : decode cX6_isStation 11 = .ok (.isub, 1) := by decide +kernel
theorem dX6_isStation_12 : decode cX6_isStation 12 = .ok (.i2l, 1) := by decide +kernel
theorem dX6_isStation_13 : decode cX6_isStation 13 = .ok (.invokestatic 59, 3) := by decide +kernel
theorem dX6_isStation_16 : decode cX6_isStation 16 = .ok (.ireturn, 1) := by decide +kernel
theorem dX6_isPart_0 : decode cX6_isPart 0 = .ok (.iload_n 0, 1) := by decide +kernel
theorem dX6_isPart_1 : decode cX6_isPart 1 = .ok (.i2l, 1) := by decide +kernel
theorem dX6_isPart_2 : decode cX6_isPart 2 = .ok (.lconst 0, 1) := by decide +kernel
theorem dX6_isPart_3 : decode cX6_isPart 3 = .ok (.lconst 1, 1) := by decide +kernel
theorem dX6_isPart_4 : decode cX6_isPart 4 = .ok (.invokestatic 59, 3) := by decide +kernel
theorem dX6_isPart_7 : decode cX6_isPart 7 = .ok (.ireturn, 1) := by decide +kernel
theorem dX6_starts_0 : decode cX6_starts 0 = .ok (.iconst 0, 1) := by decide +kernel
theorem dX6_starts_1 : decode cX6_starts 1 = .ok (.istore_n 1, 1) := by decide +kernel
theorem dX6_starts_2 : decode cX6_starts 2 = .ok (.iload_n 1, 1) := by decide +kernel
theorem dX6_starts_3 : decode cX6_starts 3 = .ok (.bipush 60, 2) := by decide +kernel
theorem dX6_starts_5 : decode cX6_starts 5 = .ok (.if_icmp .ge 21, 3) := by decide +kernel
theorem dX6_starts_8 : decode cX6_starts 8 = .ok (.aload_n 0, 1) := by decide +kernel
theorem dX6_starts_9 : decode cX6_starts 9 = .ok (.getfield 13, 3) := by decide +kernel
theorem dX6_starts_12 : decode cX6_starts 12 = .ok (.iload_n 1, 1) := by decide +kernel
theorem dX6_starts_13 : decode cX6_starts 13 = .ok (.aload_n 0, 1) := by decide +kernel
theorem dX6_starts_14 : decode cX6_starts 14 = .ok (.getfield 7, 3) := by decide +kernel
theorem dX6_starts_17 : decode cX6_starts 17 = .ok (.iload_n 1, 1) := by decide +kernel
theorem dX6_starts_18 : decode cX6_starts 18 = .ok (.iaload, 1) := by decide +kernel
theorem dX6_starts_19 : decode cX6_starts 19 = .ok (.iastore, 1) := by decide +kernel
theorem dX6_starts_20 : decode cX6_starts 20 = .ok (.iinc 1 1, 3) := by decide +kernel
theorem dX6_starts_23 : decode cX6_starts 23 = .ok (.goto (-21), 3) := by decide +kernel
theorem dX6_starts_26 : decode cX6_starts 26 = .ok (.iconst 0, 1) := by decide +kernel
theorem dX6_starts_27 : decode cX6_starts 27 = .ok (.istore_n 1, 1) := by decide +kernel
theorem dX6_starts_28 : decode cX6_starts 28 = .ok (.iload_n 1, 1) := by decide +kernel
theorem dX6_starts_29 : decode cX6_starts 29 = .ok (.iconst 5, 1) := by decide +kernel
theorem dX6_starts_30 : decode cX6_starts 30 = .ok (.if_icmp .ge 16, 3) := by decide +kernel
theorem dX6_starts_33 : decode cX6_starts 33 = .ok (.aload_n 0, 1) := by decide +kernel
theorem dX6_starts_34 : decode cX6_starts 34 = .ok (.getfield 26, 3) := by decide +kernel
theorem dX6_starts_37 : decode cX6_starts 37 = .ok (.iload_n 1, 1) := by decide +kernel
theorem dX6_starts_38 : decode cX6_starts 38 = .ok (.iconst 0, 1) := by decide +kernel
theorem dX6_starts_39 : decode cX6_starts 39 = .ok (.iastore, 1) := by decide +kernel
theorem dX6_starts_40 : decode cX6_starts 40 = .ok (.iinc 1 1, 3) := by decide +kernel
theorem dX6_starts_43 : decode cX6_starts 43 = .ok (.goto (-15), 3) := by decide +kernel
theorem dX6_starts_46 : decode cX6_starts 46 = .ok (.aload_n 0, 1) := by decide +kernel
theorem dX6_starts_47 : decode cX6_starts 47 = .ok (.bipush (-4), 2) := by decide +kernel
theorem dX6_starts_49 : decode cX6_starts 49 = .ok (.putfield 129, 3) := by decide +kernel
theorem dX6_starts_52 : decode cX6_starts 52 = .ok (.aload_n 0, 1) := by decide +kernel
theorem dX6_starts_53 : decode cX6_starts 53 = .ok (.iconst 0, 1) := by decide +kernel
theorem dX6_starts_54 : decode cX6_starts 54 = .ok (.putfield 132, 3) := by decide +kernel
theorem dX6_starts_57 : decode cX6_starts 57 = .ok (.aload_n 0, 1) := by decide +kernel
theorem dX6_starts_58 : decode cX6_starts 58 = .ok (.iconst 0, 1) := by decide +kernel
theorem dX6_starts_59 : decode cX6_starts 59 = .ok (.putfield 135, 3) := by decide +kernel
theorem dX6_starts_62 : decode cX6_starts 62 = .ok (.aload_n 0, 1) := by decide +kernel
theorem dX6_starts_63 : decode cX6_starts 63 = .ok (.iconst 0, 1) := by decide +kernel
theorem dX6_starts_64 : decode cX6_starts 64 = .ok (.putfield 138, 3) := by decide +kernel
theorem dX6_starts_67 : decode cX6_starts 67 = .ok (.return_, 1) := by decide +kernel
theorem dX6_settles_0 : decode cX6_settles 0 = .ok (.iconst 0, 1) := by decide +kernel
theorem dX6_settles_1 : decode cX6_settles 1 = .ok (.istore_n 1, 1) := by decide +kernel
theorem dX6_settles_2 : decode cX6_settles 2 = .ok (.iload_n 1, 1) := by decide +kernel
theorem dX6_settles_3 : decode cX6_settles 3 = .ok (.bipush 60, 2) := by decide +kernel
theorem dX6_settles_5 : decode cX6_settles 5 = .ok (.if_icmp .ge 21, 3) := by decide +kernel
theorem dX6_settles_8 : decode cX6_settles 8 = .ok (.aload_n 0, 1) := by decide +kernel
theorem dX6_settles_9 : decode cX6_settles 9 = .ok (.getfield 7, 3) := by decide +kernel
theorem dX6_settles_12 : decode cX6_settles 12 = .ok (.iload_n 1, 1) := by decide +kernel
theorem dX6_settles_13 : decode cX6_settles 13 = .ok (.aload_n 0, 1) := by decide +kernel
theorem dX6_settles_14 : decode cX6_settles 14 = .ok (.getfield 13, 3) := by decide +kernel
theorem dX6_settles_17 : decode cX6_settles 17 = .ok (.iload_n 1, 1) := by decide +kernel
theorem dX6_settles_18 : decode cX6_settles 18 = .ok (.iaload, 1) := by decide +kernel
theorem dX6_settles_19 : decode cX6_settles 19 = .ok (.iastore, 1) := by decide +kernel
theorem dX6_settles_20 : decode cX6_settles 20 = .ok (.iinc 1 1, 3) := by decide +kernel
theorem dX6_settles_23 : decode cX6_settles 23 = .ok (.goto (-21), 3) := by decide +kernel
theorem dX6_settles_26 : decode cX6_settles 26 = .ok (.return_, 1) := by decide +kernel
theorem dX6_of_0 : decode cX6_of 0 = .ok (.aload_n 0, 1) := by decide +kernel
theorem dX6_of_1 : decode cX6_of 1 = .ok (.getfield 13, 3) := by decide +kernel
theorem dX6_of_4 : decode cX6_of 4 = .ok (.bipush 7, 2) := by decide +kernel
theorem dX6_of_6 : decode cX6_of 6 = .ok (.iload_n 1, 1) := by decide +kernel
theorem dX6_of_7 : decode cX6_of 7 = .ok (.imul, 1) := by decide +kernel
theorem dX6_of_8 : decode cX6_of 8 = .ok (.iload_n 2, 1) := by decide +kernel
theorem dX6_of_9 : decode cX6_of 9 = .ok (.iadd, 1) := by decide +kernel
theorem dX6_of_10 : decode cX6_of 10 = .ok (.iaload, 1) := by decide +kernel
theorem dX6_of_11 : decode cX6_of 11 = .ok (.ireturn, 1) := by decide +kernel
theorem dX6_becomesOf_0 : decode cX6_becomesOf 0 = .ok (.aload_n 0, 1) := by decide +kernel
theorem dX6_becomesOf_1 : decode cX6_becomesOf 1 = .ok (.getfield 13, 3) := by decide +kernel
theorem dX6_becomesOf_4 : decode cX6_becomesOf 4 = .ok (.bipush 7, 2) := by decide +kernel
theorem dX6_becomesOf_6 : decode cX6_becomesOf 6 = .ok (.iload_n 1, 1) := by decide +kernel
theorem dX6_becomesOf_7 : decode cX6_becomesOf 7 = .ok (.imul, 1) := by decide +kernel
theorem dX6_becomesOf_8 : decode cX6_becomesOf 8 = .ok (.iload_n 2, 1) := by decide +kernel
theorem dX6_becomesOf_9 : decode cX6_becomesOf 9 = .ok (.iadd, 1) := by decide +kernel
theorem dX6_becomesOf_10 : decode cX6_becomesOf 10 = .ok (.iload_n 3, 1) := by decide +kernel
theorem dX6_becomesOf_11 : decode cX6_becomesOf 11 = .ok (.iastore, 1) := by decide +kernel
theorem dX6_becomesOf_12 : decode cX6_becomesOf 12 = .ok (.return_, 1) := by decide +kernel
theorem dX6_growsTo_0 : decode cX6_growsTo 0 = .ok (.aload_n 0, 1) := by decide +kernel
theorem dX6_growsTo_1 : decode cX6_growsTo 1 = .ok (.getfield 13, 3) := by decide +kernel
theorem dX6_growsTo_4 : decode cX6_growsTo 4 = .ok (.iload_n 1, 1) := by decide +kernel
theorem dX6_growsTo_5 : decode cX6_growsTo 5 = .ok (.ldc 141, 2) := by decide +kernel
theorem dX6_growsTo_7 : decode cX6_growsTo 7 = .ok (.aload_n 0, 1) := by decide +kernel
theorem dX6_growsTo_8 : decode cX6_growsTo 8 = .ok (.getfield 13, 3) := by decide +kernel
theorem dX6_growsTo_11 : decode cX6_growsTo 11 = .ok (.iload_n 1, 1) := by decide +kernel
theorem dX6_growsTo_12 : decode cX6_growsTo 12 = .ok (.iaload, 1) := by decide +kernel
theorem dX6_growsTo_13 : decode cX6_growsTo 13 = .ok (.iload_n 2, 1) := by decide +kernel
theorem dX6_growsTo_14 : decode cX6_growsTo 14 = .ok (.iadd, 1) := by decide +kernel
theorem dX6_growsTo_15 : decode cX6_growsTo 15 = .ok (.invokestatic 142, 3) := by decide +kernel
theorem dX6_growsTo_18 : decode cX6_growsTo 18 = .ok (.iastore, 1) := by decide +kernel
theorem dX6_growsTo_19 : decode cX6_growsTo 19 = .ok (.return_, 1) := by decide +kernel
theorem dX6_isOutdone_0 : decode cX6_isOutdone 0 = .ok (.iconst 0, 1) := by decide +kernel
theorem dX6_isOutdone_1 : decode cX6_isOutdone 1 = .ok (.istore_n 2, 1) := by decide +kernel
theorem dX6_isOutdone_2 : decode cX6_isOutdone 2 = .ok (.iconst 0, 1) := by decide +kernel
theorem dX6_isOutdone_3 : decode cX6_isOutdone 3 = .ok (.istore_n 3, 1) := by decide +kernel
theorem dX6_isOutdone_4 : decode cX6_isOutdone 4 = .ok (.iload_n 3, 1) := by decide +kernel
theorem dX6_isOutdone_5 : decode cX6_isOutdone 5 = .ok (.aload_n 0, 1) := by decide +kernel
theorem dX6_isOutdone_6 : decode cX6_isOutdone 6 = .ok (.getfield 13, 3) := by decide +kernel
theorem dX6_isOutdone_9 : decode cX6_isOutdone 9 = .ok (.bipush 35, 2) := by decide +kernel
theorem dX6_isOutdone_11 : decode cX6_isOutdone 11 = .ok (.iaload, 1) := by decide +kernel
theorem dX6_isOutdone_12 : decode cX6_isOutdone 12 = .ok (.if_icmp .ge 34, 3) := by decide +kernel
theorem dX6_isOutdone_15 : decode cX6_isOutdone 15 = .ok (.iload_n 2, 1) := by decide +kernel
theorem dX6_isOutdone_16 : decode cX6_isOutdone 16 = .ok (.ifCond .ne 18, 3) := by decide +kernel
theorem dX6_isOutdone_19 : decode cX6_isOutdone 19 = .ok (.aload_n 0, 1) := by decide +kernel
theorem dX6_isOutdone_20 : decode cX6_isOutdone 20 = .ok (.iload_n 3, 1) := by decide +kernel
theorem dX6_isOutdone_21 : decode cX6_isOutdone 21 = .ok (.iconst 1, 1) := by decide +kernel
theorem dX6_isOutdone_22 : decode cX6_isOutdone 22 = .ok (.invokevirtual 145, 3) := by decide +kernel
theorem dX6_isOutdone_25 : decode cX6_isOutdone 25 = .ok (.aload_n 0, 1) := by decide +kernel
theorem dX6_isOutdone_26 : decode cX6_isOutdone 26 = .ok (.iload_n 1, 1) := by decide +kernel
theorem dX6_isOutdone_27 : decode cX6_isOutdone 27 = .ok (.iconst 1, 1) := by decide +kernel
theorem dX6_isOutdone_28 : decode cX6_isOutdone 28 = .ok (.invokevirtual 145, 3) := by decide +kernel
theorem dX6_isOutdone_31 : decode cX6_isOutdone 31 = .ok (.if_icmp .le 7, 3) := by decide +kernel
theorem dX6_isOutdone_34 : decode cX6_isOutdone 34 = .ok (.iconst 1, 1) := by decide +kernel
theorem dX6_isOutdone_35 : decode cX6_isOutdone 35 = .ok (.goto 4, 3) := by decide +kernel
theorem dX6_isOutdone_38 : decode cX6_isOutdone 38 = .ok (.iconst 0, 1) := by decide +kernel
theorem dX6_isOutdone_39 : decode cX6_isOutdone 39 = .ok (.istore_n 2, 1) := by decide +kernel
theorem dX6_isOutdone_40 : decode cX6_isOutdone 40 = .ok (.iinc 3 1, 3) := by decide +kernel
theorem dX6_isOutdone_43 : decode cX6_isOutdone 43 = .ok (.goto (-39), 3) := by decide +kernel
theorem dX6_isOutdone_46 : decode cX6_isOutdone 46 = .ok (.iload_n 2, 1) := by decide +kernel
theorem dX6_isOutdone_47 : decode cX6_isOutdone 47 = .ok (.ireturn, 1) := by decide +kernel
theorem dX6_sendsNow_0 : decode cX6_sendsNow 0 = .ok (.aload_n 0, 1) := by decide +kernel
theorem dX6_sendsNow_1 : decode cX6_sendsNow 1 = .ok (.iload_n 1, 1) := by decide +kernel
theorem dX6_sendsNow_2 : decode cX6_sendsNow 2 = .ok (.iconst 0, 1) := by decide +kernel
theorem dX6_sendsNow_3 : decode cX6_sendsNow 3 = .ok (.invokevirtual 145, 3) := by decide +kernel
theorem dX6_sendsNow_6 : decode cX6_sendsNow 6 = .ok (.istore_n 2, 1) := by decide +kernel
theorem dX6_sendsNow_7 : decode cX6_sendsNow 7 = .ok (.aload_n 0, 1) := by decide +kernel
theorem dX6_sendsNow_8 : decode cX6_sendsNow 8 = .ok (.iload_n 1, 1) := by decide +kernel
theorem dX6_sendsNow_9 : decode cX6_sendsNow 9 = .ok (.iconst 1, 1) := by decide +kernel
theorem dX6_sendsNow_10 : decode cX6_sendsNow 10 = .ok (.invokevirtual 145, 3) := by decide +kernel
theorem dX6_sendsNow_13 : decode cX6_sendsNow 13 = .ok (.iload_n 2, 1) := by decide +kernel
theorem dX6_sendsNow_14 : decode cX6_sendsNow 14 = .ok (.iconst 1, 1) := by decide +kernel
theorem dX6_sendsNow_15 : decode cX6_sendsNow 15 = .ok (.if_icmp .ne 14, 3) := by decide +kernel
theorem dX6_sendsNow_18 : decode cX6_sendsNow 18 = .ok (.iconst 2, 1) := by decide +kernel
theorem dX6_sendsNow_19 : decode cX6_sendsNow 19 = .ok (.aload_n 0, 1) := by decide +kernel
theorem dX6_sendsNow_20 : decode cX6_sendsNow 20 = .ok (.iload_n 1, 1) := by decide +kernel
theorem dX6_sendsNow_21 : decode cX6_sendsNow 21 = .ok (.iconst 2, 1) := by decide +kernel
theorem dX6_sendsNow_22 : decode cX6_sendsNow 22 = .ok (.invokevirtual 145, 3) := by decide +kernel
theorem dX6_sendsNow_25 : decode cX6_sendsNow 25 = .ok (.imul, 1) := by decide +kernel
theorem dX6_sendsNow_26 : decode cX6_sendsNow 26 = .ok (.goto 9, 3) := by decide +kernel
theorem dX6_sendsNow_29 : decode cX6_sendsNow 29 = .ok (.aload_n 0, 1) := by decide +kernel
theorem dX6_sendsNow_30 : decode cX6_sendsNow 30 = .ok (.iload_n 1, 1) := by decide +kernel
theorem dX6_sendsNow_31 : decode cX6_sendsNow 31 = .ok (.iconst 2, 1) := by decide +kernel
theorem dX6_sendsNow_32 : decode cX6_sendsNow 32 = .ok (.invokevirtual 145, 3) := by decide +kernel
theorem dX6_sendsNow_35 : decode cX6_sendsNow 35 = .ok (.invokestatic 142, 3) := by decide +kernel
theorem dX6_sendsNow_38 : decode cX6_sendsNow 38 = .ok (.istore_n 3, 1) := by decide +kernel
theorem dX6_sendsNow_39 : decode cX6_sendsNow 39 = .ok (.iload_n 2, 1) := by decide +kernel
theorem dX6_sendsNow_40 : decode cX6_sendsNow 40 = .ok (.iconst 3, 1) := by decide +kernel
theorem dX6_sendsNow_41 : decode cX6_sendsNow 41 = .ok (.if_icmp .ne 16, 3) := by decide +kernel
theorem dX6_sendsNow_44 : decode cX6_sendsNow 44 = .ok (.aload_n 0, 1) := by decide +kernel
theorem dX6_sendsNow_45 : decode cX6_sendsNow 45 = .ok (.iload_n 1, 1) := by decide +kernel
theorem dX6_sendsNow_46 : decode cX6_sendsNow 46 = .ok (.bipush 6, 2) := by decide +kernel
theorem dX6_sendsNow_48 : decode cX6_sendsNow 48 = .ok (.invokevirtual 145, 3) := by decide +kernel
theorem dX6_sendsNow_51 : decode cX6_sendsNow 51 = .ok (.iconst 1, 1) := by decide +kernel
theorem dX6_sendsNow_52 : decode cX6_sendsNow 52 = .ok (.if_icmp .ne 5, 3) := by decide +kernel
theorem dX6_sendsNow_55 : decode cX6_sendsNow 55 = .ok (.iconst 0, 1) := by decide +kernel
theorem dX6_sendsNow_56 : decode cX6_sendsNow 56 = .ok (.ireturn, 1) := by decide +kernel
theorem dX6_sendsNow_57 : decode cX6_sendsNow 57 = .ok (.iload_n 2, 1) := by decide +kernel
theorem dX6_sendsNow_58 : decode cX6_sendsNow 58 = .ok (.iconst 2, 1) := by decide +kernel
theorem dX6_sendsNow_59 : decode cX6_sendsNow 59 = .ok (.if_icmp .eq 8, 3) := by decide +kernel
theorem dX6_sendsNow_62 : decode cX6_sendsNow 62 = .ok (.iload_n 2, 1) := by decide +kernel
theorem dX6_sendsNow_63 : decode cX6_sendsNow 63 = .ok (.iconst 3, 1) := by decide +kernel
theorem dX6_sendsNow_64 : decode cX6_sendsNow 64 = .ok (.if_icmp .ne 21, 3) := by decide +kernel
theorem dX6_sendsNow_67 : decode cX6_sendsNow 67 = .ok (.iload_n 3, 1) := by decide +kernel
theorem dX6_sendsNow_68 : decode cX6_sendsNow 68 = .ok (.ifCond .le 17, 3) := by decide +kernel
theorem dX6_sendsNow_71 : decode cX6_sendsNow 71 = .ok (.aload_n 0, 1) := by decide +kernel
theorem dX6_sendsNow_72 : decode cX6_sendsNow 72 = .ok (.iload_n 1, 1) := by decide +kernel
theorem dX6_sendsNow_73 : decode cX6_sendsNow 73 = .ok (.invokevirtual 148, 3) := by decide +kernel
theorem dX6_sendsNow_76 : decode cX6_sendsNow 76 = .ok (.ifCond .eq 9, 3) := by decide +kernel
theorem dX6_sendsNow_79 : decode cX6_sendsNow 79 = .ok (.iload_n 3, 1) := by decide +kernel
theorem dX6_sendsNow_80 : decode cX6_sendsNow 80 = .ok (.iconst 1, 1) := by decide +kernel
theorem dX6_sendsNow_81 : decode cX6_sendsNow 81 = .ok (.isub, 1) := by decide +kernel
theorem dX6_sendsNow_82 : decode cX6_sendsNow 82 = .ok (.goto 4, 3) := by decide +kernel
theorem dX6_sendsNow_85 : decode cX6_sendsNow 85 = .ok (.iload_n 3, 1) := by decide +kernel
theorem dX6_sendsNow_86 : decode cX6_sendsNow 86 = .ok (.ireturn, 1) := by decide +kernel
theorem dX6_comesTo_0 : decode cX6_comesTo 0 = .ok (.iload_n 2, 1) := by decide +kernel
theorem dX6_comesTo_1 : decode cX6_comesTo 1 = .ok (.bipush 99, 2) := by decide +kernel
theorem dX6_comesTo_3 : decode cX6_comesTo 3 = .ok (.aload_n 0, 1) := by decide +kernel
theorem dX6_comesTo_4 : decode cX6_comesTo 4 = .ok (.iload_n 1, 1) := by decide +kernel
theorem dX6_comesTo_5 : decode cX6_comesTo 5 = .ok (.iconst 1, 1) := by decide +kernel
theorem dX6_comesTo_6 : decode cX6_comesTo 6 = .ok (.invokevirtual 145, 3) := by decide +kernel
theorem dX6_comesTo_9 : decode cX6_comesTo 9 = .ok (.isub, 1) := by decide +kernel
theorem dX6_comesTo_10 : decode cX6_comesTo 10 = .ok (.invokestatic 142, 3) := by decide +kernel
theorem dX6_comesTo_13 : decode cX6_comesTo 13 = .ok (.istore_n 3, 1) := by decide +kernel
theorem dX6_comesTo_14 : decode cX6_comesTo 14 = .ok (.aload_n 0, 1) := by decide +kernel
theorem dX6_comesTo_15 : decode cX6_comesTo 15 = .ok (.iload_n 1, 1) := by decide +kernel
theorem dX6_comesTo_16 : decode cX6_comesTo 16 = .ok (.iconst 1, 1) := by decide +kernel
theorem dX6_comesTo_17 : decode cX6_comesTo 17 = .ok (.aload_n 0, 1) := by decide +kernel
theorem dX6_comesTo_18 : decode cX6_comesTo 18 = .ok (.iload_n 1, 1) := by decide +kernel
theorem dX6_comesTo_19 : decode cX6_comesTo 19 = .ok (.iconst 1, 1) := by decide +kernel
theorem dX6_comesTo_20 : decode cX6_comesTo 20 = .ok (.invokevirtual 145, 3) := by decide +kernel
theorem dX6_comesTo_23 : decode cX6_comesTo 23 = .ok (.iload_n 3, 1) := by decide +kernel
theorem dX6_comesTo_24 : decode cX6_comesTo 24 = .ok (.iadd, 1) := by decide +kernel
theorem dX6_comesTo_25 : decode cX6_comesTo 25 = .ok (.invokevirtual 152, 3) := by decide +kernel
theorem dX6_comesTo_28 : decode cX6_comesTo 28 = .ok (.aload_n 0, 1) := by decide +kernel
theorem dX6_comesTo_29 : decode cX6_comesTo 29 = .ok (.dup, 1) := by decide +kernel
theorem dX6_comesTo_30 : decode cX6_comesTo 30 = .ok (.getfield 138, 3) := by decide +kernel
theorem dX6_comesTo_33 : decode cX6_comesTo 33 = .ok (.iload_n 2, 1) := by decide +kernel
theorem dX6_comesTo_34 : decode cX6_comesTo 34 = .ok (.iload_n 3, 1) := by decide +kernel
theorem dX6_comesTo_35 : decode cX6_comesTo 35 = .ok (.isub, 1) := by decide +kernel
theorem dX6_comesTo_36 : decode cX6_comesTo 36 = .ok (.iadd, 1) := by decide +kernel
theorem dX6_comesTo_37 : decode cX6_comesTo 37 = .ok (.putfield 138, 3) := by decide +kernel
theorem dX6_comesTo_40 : decode cX6_comesTo 40 = .ok (.aload_n 0, 1) := by decide +kernel
theorem dX6_comesTo_41 : decode cX6_comesTo 41 = .ok (.bipush 40, 2) := by decide +kernel
theorem dX6_comesTo_43 : decode cX6_comesTo 43 = .ok (.iload_n 2, 1) := by decide +kernel
theorem dX6_comesTo_44 : decode cX6_comesTo 44 = .ok (.iload_n 3, 1) := by decide +kernel
theorem dX6_comesTo_45 : decode cX6_comesTo 45 = .ok (.isub, 1) := by decide +kernel
theorem dX6_comesTo_46 : decode cX6_comesTo 46 = .ok (.invokevirtual 156, 3) := by decide +kernel
theorem dX6_comesTo_49 : decode cX6_comesTo 49 = .ok (.iload_n 2, 1) := by decide +kernel
theorem dX6_comesTo_50 : decode cX6_comesTo 50 = .ok (.iload_n 3, 1) := by decide +kernel
theorem dX6_comesTo_51 : decode cX6_comesTo 51 = .ok (.isub, 1) := by decide +kernel
theorem dX6_comesTo_52 : decode cX6_comesTo 52 = .ok (.ireturn, 1) := by decide +kernel
theorem dX6_visitGoes_0 : decode cX6_visitGoes 0 = .ok (.aload_n 0, 1) := by decide +kernel
theorem dX6_visitGoes_1 : decode cX6_visitGoes 1 = .ok (.getfield 13, 3) := by decide +kernel
theorem dX6_visitGoes_4 : decode cX6_visitGoes 4 = .ok (.bipush 38, 2) := by decide +kernel
theorem dX6_visitGoes_6 : decode cX6_visitGoes 6 = .ok (.dup2, 1) := by decide +kernel
theorem dX6_visitGoes_7 : decode cX6_visitGoes 7 = .ok (.iaload, 1) := by decide +kernel
theorem dX6_visitGoes_8 : decode cX6_visitGoes 8 = .ok (.iconst 1, 1) := by decide +kernel
theorem dX6_visitGoes_9 : decode cX6_visitGoes 9 = .ok (.iadd, 1) := by decide +kernel
theorem dX6_visitGoes_10 : decode cX6_visitGoes 10 = .ok (.iastore, 1) := by decide +kernel
theorem dX6_visitGoes_11 : decode cX6_visitGoes 11 = .ok (.aload_n 0, 1) := by decide +kernel
theorem dX6_visitGoes_12 : decode cX6_visitGoes 12 = .ok (.getfield 13, 3) := by decide +kernel
theorem dX6_visitGoes_15 : decode cX6_visitGoes 15 = .ok (.bipush 35, 2) := by decide +kernel
theorem dX6_visitGoes_17 : decode cX6_visitGoes 17 = .ok (.iaload, 1) := by decide +kernel
theorem dX6_visitGoes_18 : decode cX6_visitGoes 18 = .ok (.ifCond .ne 4, 3) := by decide +kernel
theorem dX6_visitGoes_21 : decode cX6_visitGoes 21 = .ok (.return_, 1) := by decide +kernel
theorem dX6_visitGoes_22 : decode cX6_visitGoes 22 = .ok (.aload_n 0, 1) := by decide +kernel
theorem dX6_visitGoes_23 : decode cX6_visitGoes 23 = .ok (.getfield 13, 3) := by decide +kernel
theorem dX6_visitGoes_26 : decode cX6_visitGoes 26 = .ok (.bipush 36, 2) := by decide +kernel
theorem dX6_visitGoes_28 : decode cX6_visitGoes 28 = .ok (.iaload, 1) := by decide +kernel
theorem dX6_visitGoes_29 : decode cX6_visitGoes 29 = .ok (.istore_n 2, 1) := by decide +kernel
theorem dX6_visitGoes_30 : decode cX6_visitGoes 30 = .ok (.iload_n 1, 1) := by decide +kernel
theorem dX6_visitGoes_31 : decode cX6_visitGoes 31 = .ok (.ifCond .ne 11, 3) := by decide +kernel
theorem dX6_visitGoes_34 : decode cX6_visitGoes 34 = .ok (.iload_n 2, 1) := by decide +kernel
theorem dX6_visitGoes_35 : decode cX6_visitGoes 35 = .ok (.aload_n 0, 1) := by decide +kernel
theorem dX6_visitGoes_36 : decode cX6_visitGoes 36 = .ok (.getfield 129, 3) := by decide +kernel
theorem dX6_visitGoes_39 : decode cX6_visitGoes 39 = .ok (.if_icmp .ne 7, 3) := by decide +kernel
theorem dX6_visitGoes_42 : decode cX6_visitGoes 42 = .ok (.iconst 0, 1) := by decide +kernel
theorem dX6_visitGoes_43 : decode cX6_visitGoes 43 = .ok (.goto 8, 3) := by decide +kernel
theorem dX6_visitGoes_46 : decode cX6_visitGoes 46 = .ok (.aload_n 0, 1) := by decide +kernel
theorem dX6_visitGoes_47 : decode cX6_visitGoes 47 = .ok (.iload_n 2, 1) := by decide +kernel
theorem dX6_visitGoes_48 : decode cX6_visitGoes 48 = .ok (.invokevirtual 160, 3) := by decide +kernel
theorem dX6_visitGoes_51 : decode cX6_visitGoes 51 = .ok (.istore_n 3, 1) := by decide +kernel
theorem dX6_visitGoes_52 : decode cX6_visitGoes 52 = .ok (.aload_n 0, 1) := by decide +kernel
theorem dX6_visitGoes_53 : decode cX6_visitGoes 53 = .ok (.getfield 13, 3) := by decide +kernel
theorem dX6_visitGoes_56 : decode cX6_visitGoes 56 = .ok (.bipush 37, 2) := by decide +kernel
theorem dX6_visitGoes_58 : decode cX6_visitGoes 58 = .ok (.iaload, 1) := by decide +kernel
theorem dX6_visitGoes_59 : decode cX6_visitGoes 59 = .ok (.istore 4, 2) := by decide +kernel
theorem dX6_visitGoes_61 : decode cX6_visitGoes 61 = .ok (.aload_n 0, 1) := by decide +kernel
theorem dX6_visitGoes_62 : decode cX6_visitGoes 62 = .ok (.iload_n 2, 1) := by decide +kernel
theorem dX6_visitGoes_63 : decode cX6_visitGoes 63 = .ok (.iconst 1, 1) := by decide +kernel
theorem dX6_visitGoes_64 : decode cX6_visitGoes 64 = .ok (.aload_n 0, 1) := by decide +kernel
theorem dX6_visitGoes_65 : decode cX6_visitGoes 65 = .ok (.iload_n 2, 1) := by decide +kernel
theorem dX6_visitGoes_66 : decode cX6_visitGoes 66 = .ok (.iconst 1, 1) := by decide +kernel
theorem dX6_visitGoes_67 : decode cX6_visitGoes 67 = .ok (.invokevirtual 145, 3) := by decide +kernel
theorem dX6_visitGoes_70 : decode cX6_visitGoes 70 = .ok (.iload_n 3, 1) := by decide +kernel
theorem dX6_visitGoes_71 : decode cX6_visitGoes 71 = .ok (.isub, 1) := by decide +kernel
theorem dX6_visitGoes_72 : decode cX6_visitGoes 72 = .ok (.invokevirtual 152, 3) := by decide +kernel
theorem dX6_visitGoes_75 : decode cX6_visitGoes 75 = .ok (.aload_n 0, 1) := by decide +kernel
theorem dX6_visitGoes_76 : decode cX6_visitGoes 76 = .ok (.iload_n 2, 1) := by decide +kernel
theorem dX6_visitGoes_77 : decode cX6_visitGoes 77 = .ok (.bipush 6, 2) := by decide +kernel
theorem dX6_visitGoes_79 : decode cX6_visitGoes 79 = .ok (.iload_n 3, 1) := by decide +kernel
theorem dX6_visitGoes_80 : decode cX6_visitGoes 80 = .ok (.ifCond .le 7, 3) := by decide +kernel
theorem dX6_visitGoes_83 : decode cX6_visitGoes 83 = .ok (.iconst 1, 1) := by decide +kernel
theorem dX6_visitGoes_84 : decode cX6_visitGoes 84 = .ok (.goto 4, 3) := by decide +kernel
theorem dX6_visitGoes_87 : decode cX6_visitGoes 87 = .ok (.iconst 0, 1) := by decide +kernel
theorem dX6_visitGoes_88 : decode cX6_visitGoes 88 = .ok (.invokestatic 163, 3) := by decide +kernel
theorem dX6_visitGoes_91 : decode cX6_visitGoes 91 = .ok (.invokevirtual 152, 3) := by decide +kernel
theorem dX6_visitGoes_94 : decode cX6_visitGoes 94 = .ok (.aload_n 0, 1) := by decide +kernel
theorem dX6_visitGoes_95 : decode cX6_visitGoes 95 = .ok (.iload_n 2, 1) := by decide +kernel
theorem dX6_visitGoes_96 : decode cX6_visitGoes 96 = .ok (.iconst 5, 1) := by decide +kernel
theorem dX6_visitGoes_97 : decode cX6_visitGoes 97 = .ok (.ldc 141, 2) := by decide +kernel
theorem dX6_visitGoes_99 : decode cX6_visitGoes 99 = .ok (.aload_n 0, 1) := by decide +kernel
theorem dX6_visitGoes_100 : decode cX6_visitGoes 100 = .ok (.iload_n 2, 1) := by decide +kernel
theorem dX6_visitGoes_101 : decode cX6_visitGoes 101 = .ok (.iconst 5, 1) := by decide +kernel
theorem dX6_visitGoes_102 : decode cX6_visitGoes 102 = .ok (.invokevirtual 145, 3) := by decide +kernel
theorem dX6_visitGoes_105 : decode cX6_visitGoes 105 = .ok (.iload_n 3, 1) := by decide +kernel
theorem dX6_visitGoes_106 : decode cX6_visitGoes 106 = .ok (.iadd, 1) := by decide +kernel
theorem dX6_visitGoes_107 : decode cX6_visitGoes 107 = .ok (.invokestatic 142, 3) := by decide +kernel
theorem dX6_visitGoes_110 : decode cX6_visitGoes 110 = .ok (.invokevirtual 152, 3) := by decide +kernel
theorem dX6_visitGoes_113 : decode cX6_visitGoes 113 = .ok (.aload_n 0, 1) := by decide +kernel
theorem dX6_visitGoes_114 : decode cX6_visitGoes 114 = .ok (.getfield 26, 3) := by decide +kernel
theorem dX6_visitGoes_117 : decode cX6_visitGoes 117 = .ok (.iload_n 2, 1) := by decide +kernel
theorem dX6_visitGoes_118 : decode cX6_visitGoes 118 = .ok (.dup2, 1) := by decide +kernel
theorem dX6_visitGoes_119 : decode cX6_visitGoes 119 = .ok (.iaload, 1) := by decide +kernel
theorem dX6_visitGoes_120 : decode cX6_visitGoes 120 = .ok (.iload_n 3, 1) := by decide +kernel
theorem dX6_visitGoes_121 : decode cX6_visitGoes 121 = .ok (.iadd, 1) := by decide +kernel
theorem dX6_visitGoes_122 : decode cX6_visitGoes 122 = .ok (.iastore, 1) := by decide +kernel
theorem dX6_visitGoes_123 : decode cX6_visitGoes 123 = .ok (.aload_n 0, 1) := by decide +kernel
theorem dX6_visitGoes_124 : decode cX6_visitGoes 124 = .ok (.dup, 1) := by decide +kernel
theorem dX6_visitGoes_125 : decode cX6_visitGoes 125 = .ok (.getfield 132, 3) := by decide +kernel
theorem dX6_visitGoes_128 : decode cX6_visitGoes 128 = .ok (.iload_n 3, 1) := by decide +kernel
theorem dX6_visitGoes_129 : decode cX6_visitGoes 129 = .ok (.iadd, 1) := by decide +kernel
theorem dX6_visitGoes_130 : decode cX6_visitGoes 130 = .ok (.putfield 132, 3) := by decide +kernel
theorem dX6_visitGoes_133 : decode cX6_visitGoes 133 = .ok (.aload_n 0, 1) := by decide +kernel
theorem dX6_visitGoes_134 : decode cX6_visitGoes 134 = .ok (.dup, 1) := by decide +kernel
theorem dX6_visitGoes_135 : decode cX6_visitGoes 135 = .ok (.getfield 135, 3) := by decide +kernel
theorem dX6_visitGoes_138 : decode cX6_visitGoes 138 = .ok (.iload_n 3, 1) := by decide +kernel
theorem dX6_visitGoes_139 : decode cX6_visitGoes 139 = .ok (.aload_n 0, 1) := by decide +kernel
theorem dX6_visitGoes_140 : decode cX6_visitGoes 140 = .ok (.iload_n 2, 1) := by decide +kernel
theorem dX6_visitGoes_141 : decode cX6_visitGoes 141 = .ok (.iconst 4, 1) := by decide +kernel
theorem dX6_visitGoes_142 : decode cX6_visitGoes 142 = .ok (.invokevirtual 145, 3) := by decide +kernel
theorem dX6_visitGoes_145 : decode cX6_visitGoes 145 = .ok (.iadd, 1) := by decide +kernel
theorem dX6_visitGoes_146 : decode cX6_visitGoes 146 = .ok (.iadd, 1) := by decide +kernel
theorem dX6_visitGoes_147 : decode cX6_visitGoes 147 = .ok (.putfield 135, 3) := by decide +kernel
theorem dX6_visitGoes_150 : decode cX6_visitGoes 150 = .ok (.aload_n 0, 1) := by decide +kernel
theorem dX6_visitGoes_151 : decode cX6_visitGoes 151 = .ok (.bipush 39, 2) := by decide +kernel
theorem dX6_visitGoes_153 : decode cX6_visitGoes 153 = .ok (.iload_n 3, 1) := by decide +kernel
theorem dX6_visitGoes_154 : decode cX6_visitGoes 154 = .ok (.invokevirtual 156, 3) := by decide +kernel
theorem dX6_visitGoes_157 : decode cX6_visitGoes 157 = .ok (.aload_n 0, 1) := by decide +kernel
theorem dX6_visitGoes_158 : decode cX6_visitGoes 158 = .ok (.bipush 37, 2) := by decide +kernel
theorem dX6_visitGoes_160 : decode cX6_visitGoes 160 = .ok (.iload_n 3, 1) := by decide +kernel
theorem dX6_visitGoes_161 : decode cX6_visitGoes 161 = .ok (.aload_n 0, 1) := by decide +kernel
theorem dX6_visitGoes_162 : decode cX6_visitGoes 162 = .ok (.iload_n 2, 1) := by decide +kernel
theorem dX6_visitGoes_163 : decode cX6_visitGoes 163 = .ok (.iconst 4, 1) := by decide +kernel
theorem dX6_visitGoes_164 : decode cX6_visitGoes 164 = .ok (.invokevirtual 145, 3) := by decide +kernel
theorem dX6_visitGoes_167 : decode cX6_visitGoes 167 = .ok (.iadd, 1) := by decide +kernel
theorem dX6_visitGoes_168 : decode cX6_visitGoes 168 = .ok (.invokevirtual 156, 3) := by decide +kernel
theorem dX6_visitGoes_171 : decode cX6_visitGoes 171 = .ok (.aload_n 0, 1) := by decide +kernel
theorem dX6_visitGoes_172 : decode cX6_visitGoes 172 = .ok (.getfield 13, 3) := by decide +kernel
theorem dX6_visitGoes_175 : decode cX6_visitGoes 175 = .ok (.bipush 37, 2) := by decide +kernel
theorem dX6_visitGoes_177 : decode cX6_visitGoes 177 = .ok (.iaload, 1) := by decide +kernel
theorem dX6_visitGoes_178 : decode cX6_visitGoes 178 = .ok (.bipush 10, 2) := by decide +kernel
theorem dX6_visitGoes_180 : decode cX6_visitGoes 180 = .ok (.idiv, 1) := by decide +kernel
theorem dX6_visitGoes_181 : decode cX6_visitGoes 181 = .ok (.iload 4, 2) := by decide +kernel
theorem dX6_visitGoes_183 : decode cX6_visitGoes 183 = .ok (.bipush 10, 2) := by decide +kernel
theorem dX6_visitGoes_185 : decode cX6_visitGoes 185 = .ok (.idiv, 1) := by decide +kernel
theorem dX6_visitGoes_186 : decode cX6_visitGoes 186 = .ok (.isub, 1) := by decide +kernel
theorem dX6_visitGoes_187 : decode cX6_visitGoes 187 = .ok (.istore 5, 2) := by decide +kernel
theorem dX6_visitGoes_189 : decode cX6_visitGoes 189 = .ok (.iconst 0, 1) := by decide +kernel
theorem dX6_visitGoes_190 : decode cX6_visitGoes 190 = .ok (.istore 6, 2) := by decide +kernel
theorem dX6_visitGoes_192 : decode cX6_visitGoes 192 = .ok (.iload 6, 2) := by decide +kernel
theorem dX6_visitGoes_194 : decode cX6_visitGoes 194 = .ok (.aload_n 0, 1) := by decide +kernel
theorem dX6_visitGoes_195 : decode cX6_visitGoes 195 = .ok (.getfield 13, 3) := by decide +kernel
theorem dX6_visitGoes_198 : decode cX6_visitGoes 198 = .ok (.bipush 35, 2) := by decide +kernel
theorem dX6_visitGoes_200 : decode cX6_visitGoes 200 = .ok (.iaload, 1) := by decide +kernel
theorem dX6_visitGoes_201 : decode cX6_visitGoes 201 = .ok (.if_icmp .ge 26, 3) := by decide +kernel
theorem dX6_visitGoes_204 : decode cX6_visitGoes 204 = .ok (.aload_n 0, 1) := by decide +kernel
theorem dX6_visitGoes_205 : decode cX6_visitGoes 205 = .ok (.iload 6, 2) := by decide +kernel
theorem dX6_visitGoes_207 : decode cX6_visitGoes 207 = .ok (.iload 5, 2) := by decide +kernel
theorem dX6_visitGoes_209 : decode cX6_visitGoes 209 = .ok (.aload_n 0, 1) := by decide +kernel
theorem dX6_visitGoes_210 : decode cX6_visitGoes 210 = .ok (.iload 6, 2) := by decide +kernel
theorem dX6_visitGoes_212 : decode cX6_visitGoes 212 = .ok (.iconst 3, 1) := by decide +kernel
theorem dX6_visitGoes_213 : decode cX6_visitGoes 213 = .ok (.invokevirtual 145, 3) := by decide +kernel
theorem dX6_visitGoes_216 : decode cX6_visitGoes 216 = .ok (.imul, 1) := by decide +kernel
theorem dX6_visitGoes_217 : decode cX6_visitGoes 217 = .ok (.invokevirtual 167, 3) := by decide +kernel
theorem dX6_visitGoes_220 : decode cX6_visitGoes 220 = .ok (.pop, 1) := by decide +kernel
theorem dX6_visitGoes_221 : decode cX6_visitGoes 221 = .ok (.iinc 6 1, 3) := by decide +kernel
theorem dX6_visitGoes_224 : decode cX6_visitGoes 224 = .ok (.goto (-32), 3) := by decide +kernel
theorem dX6_visitGoes_227 : decode cX6_visitGoes 227 = .ok (.aload_n 0, 1) := by decide +kernel
theorem dX6_visitGoes_228 : decode cX6_visitGoes 228 = .ok (.getfield 13, 3) := by decide +kernel
theorem dX6_visitGoes_231 : decode cX6_visitGoes 231 = .ok (.bipush 36, 2) := by decide +kernel
theorem dX6_visitGoes_233 : decode cX6_visitGoes 233 = .ok (.iload_n 2, 1) := by decide +kernel
theorem dX6_visitGoes_234 : decode cX6_visitGoes 234 = .ok (.iconst 1, 1) := by decide +kernel
theorem dX6_visitGoes_235 : decode cX6_visitGoes 235 = .ok (.iadd, 1) := by decide +kernel
theorem dX6_visitGoes_236 : decode cX6_visitGoes 236 = .ok (.aload_n 0, 1) := by decide +kernel
theorem dX6_visitGoes_237 : decode cX6_visitGoes 237 = .ok (.getfield 13, 3) := by decide +kernel
theorem dX6_visitGoes_240 : decode cX6_visitGoes 240 = .ok (.bipush 35, 2) := by decide +kernel
theorem dX6_visitGoes_242 : decode cX6_visitGoes 242 = .ok (.iaload, 1) := by decide +kernel
theorem dX6_visitGoes_243 : decode cX6_visitGoes 243 = .ok (.irem, 1) := by decide +kernel
theorem dX6_visitGoes_244 : decode cX6_visitGoes 244 = .ok (.iastore, 1) := by decide +kernel
theorem dX6_visitGoes_245 : decode cX6_visitGoes 245 = .ok (.return_, 1) := by decide +kernel
theorem dX6_visitsGo_0 : decode cX6_visitsGo 0 = .ok (.iconst 0, 1) := by decide +kernel
theorem dX6_visitsGo_1 : decode cX6_visitsGo 1 = .ok (.istore_n 2, 1) := by decide +kernel
theorem dX6_visitsGo_2 : decode cX6_visitsGo 2 = .ok (.iload_n 2, 1) := by decide +kernel
theorem dX6_visitsGo_3 : decode cX6_visitsGo 3 = .ok (.iload_n 1, 1) := by decide +kernel
theorem dX6_visitsGo_4 : decode cX6_visitsGo 4 = .ok (.if_icmp .ge 14, 3) := by decide +kernel
theorem dX6_visitsGo_7 : decode cX6_visitsGo 7 = .ok (.aload_n 0, 1) := by decide +kernel
theorem dX6_visitsGo_8 : decode cX6_visitsGo 8 = .ok (.iconst 0, 1) := by decide +kernel
theorem dX6_visitsGo_9 : decode cX6_visitsGo 9 = .ok (.invokevirtual 170, 3) := by decide +kernel
theorem dX6_visitsGo_12 : decode cX6_visitsGo 12 = .ok (.iinc 2 1, 3) := by decide +kernel
theorem dX6_visitsGo_15 : decode cX6_visitsGo 15 = .ok (.goto (-13), 3) := by decide +kernel
theorem dX6_visitsGo_18 : decode cX6_visitsGo 18 = .ok (.return_, 1) := by decide +kernel
theorem dX6_sumOf_0 : decode cX6_sumOf 0 = .ok (.iconst 0, 1) := by decide +kernel
theorem dX6_sumOf_1 : decode cX6_sumOf 1 = .ok (.istore_n 2, 1) := by decide +kernel
theorem dX6_sumOf_2 : decode cX6_sumOf 2 = .ok (.iconst 0, 1) := by decide +kernel
theorem dX6_sumOf_3 : decode cX6_sumOf 3 = .ok (.istore_n 3, 1) := by decide +kernel
theorem dX6_sumOf_4 : decode cX6_sumOf 4 = .ok (.iload_n 3, 1) := by decide +kernel
theorem dX6_sumOf_5 : decode cX6_sumOf 5 = .ok (.aload_n 0, 1) := by decide +kernel
theorem dX6_sumOf_6 : decode cX6_sumOf 6 = .ok (.getfield 13, 3) := by decide +kernel
theorem dX6_sumOf_9 : decode cX6_sumOf 9 = .ok (.bipush 35, 2) := by decide +kernel
theorem dX6_sumOf_11 : decode cX6_sumOf 11 = .ok (.iaload, 1) := by decide +kernel
theorem dX6_sumOf_12 : decode cX6_sumOf 12 = .ok (.if_icmp .ge 18, 3) := by decide +kernel
theorem dX6_sumOf_15 : decode cX6_sumOf 15 = .ok (.iload_n 2, 1) := by decide +kernel
theorem dX6_sumOf_16 : decode cX6_sumOf 16 = .ok (.aload_n 0, 1) := by decide +kernel
theorem dX6_sumOf_17 : decode cX6_sumOf 17 = .ok (.iload_n 3, 1) := by decide +kernel
theorem dX6_sumOf_18 : decode cX6_sumOf 18 = .ok (.iload_n 1, 1) := by decide +kernel
theorem dX6_sumOf_19 : decode cX6_sumOf 19 = .ok (.invokevirtual 145, 3) := by decide +kernel
theorem dX6_sumOf_22 : decode cX6_sumOf 22 = .ok (.iadd, 1) := by decide +kernel
theorem dX6_sumOf_23 : decode cX6_sumOf 23 = .ok (.istore_n 2, 1) := by decide +kernel
theorem dX6_sumOf_24 : decode cX6_sumOf 24 = .ok (.iinc 3 1, 3) := by decide +kernel
theorem dX6_sumOf_27 : decode cX6_sumOf 27 = .ok (.goto (-23), 3) := by decide +kernel
theorem dX6_sumOf_30 : decode cX6_sumOf 30 = .ok (.iload_n 2, 1) := by decide +kernel
theorem dX6_sumOf_31 : decode cX6_sumOf 31 = .ok (.ireturn, 1) := by decide +kernel
theorem dX6_rule_0 : decode cX6_rule 0 = .ok (.aload_n 0, 1) := by decide +kernel
theorem dX6_rule_1 : decode cX6_rule 1 = .ok (.invokevirtual 174, 3) := by decide +kernel
theorem dX6_rule_4 : decode cX6_rule 4 = .ok (.iload_n 1, 1) := by decide +kernel
theorem dX6_rule_5 : decode cX6_rule 5 = .ok (.tableswitch 142 0 7 #[47, 55, 78, 86, 94, 102, 110, 116], 47) := by decide +kernel
theorem dX6_rule_52 : decode cX6_rule 52 = .ok (.aload_n 0, 1) := by decide +kernel
theorem dX6_rule_53 : decode cX6_rule 53 = .ok (.getfield 7, 3) := by decide +kernel
theorem dX6_rule_56 : decode cX6_rule 56 = .ok (.bipush 35, 2) := by decide +kernel
theorem dX6_rule_58 : decode cX6_rule 58 = .ok (.iaload, 1) := by decide +kernel
theorem dX6_rule_59 : decode cX6_rule 59 = .ok (.ireturn, 1) := by decide +kernel
theorem dX6_rule_60 : decode cX6_rule 60 = .ok (.aload_n 0, 1) := by decide +kernel
theorem dX6_rule_61 : decode cX6_rule 61 = .ok (.getfield 7, 3) := by decide +kernel
theorem dX6_rule_64 : decode cX6_rule 64 = .ok (.bipush 35, 2) := by decide +kernel
theorem dX6_rule_66 : decode cX6_rule 66 = .ok (.iaload, 1) := by decide +kernel
theorem dX6_rule_67 : decode cX6_rule 67 = .ok (.ifCond .ne 8, 3) := by decide +kernel
theorem dX6_rule_70 : decode cX6_rule 70 = .ok (.bipush (-4), 2) := by decide +kernel
theorem dX6_rule_72 : decode cX6_rule 72 = .ok (.goto 10, 3) := by decide +kernel
theorem dX6_rule_75 : decode cX6_rule 75 = .ok (.aload_n 0, 1) := by decide +kernel
theorem dX6_rule_76 : decode cX6_rule 76 = .ok (.getfield 7, 3) := by decide +kernel
theorem dX6_rule_79 : decode cX6_rule 79 = .ok (.bipush 36, 2) := by decide +kernel
theorem dX6_rule_81 : decode cX6_rule 81 = .ok (.iaload, 1) := by decide +kernel
theorem dX6_rule_82 : decode cX6_rule 82 = .ok (.ireturn, 1) := by decide +kernel
theorem dX6_rule_83 : decode cX6_rule 83 = .ok (.aload_n 0, 1) := by decide +kernel
theorem dX6_rule_84 : decode cX6_rule 84 = .ok (.getfield 7, 3) := by decide +kernel
theorem dX6_rule_87 : decode cX6_rule 87 = .ok (.bipush 37, 2) := by decide +kernel
theorem dX6_rule_89 : decode cX6_rule 89 = .ok (.iaload, 1) := by decide +kernel
theorem dX6_rule_90 : decode cX6_rule 90 = .ok (.ireturn, 1) := by decide +kernel
theorem dX6_rule_91 : decode cX6_rule 91 = .ok (.aload_n 0, 1) := by decide +kernel
theorem dX6_rule_92 : decode cX6_rule 92 = .ok (.getfield 7, 3) := by decide +kernel
theorem dX6_rule_95 : decode cX6_rule 95 = .ok (.bipush 38, 2) := by decide +kernel
theorem dX6_rule_97 : decode cX6_rule 97 = .ok (.iaload, 1) := by decide +kernel
theorem dX6_rule_98 : decode cX6_rule 98 = .ok (.ireturn, 1) := by decide +kernel
theorem dX6_rule_99 : decode cX6_rule 99 = .ok (.aload_n 0, 1) := by decide +kernel
theorem dX6_rule_100 : decode cX6_rule 100 = .ok (.getfield 7, 3) := by decide +kernel
theorem dX6_rule_103 : decode cX6_rule 103 = .ok (.bipush 39, 2) := by decide +kernel
theorem dX6_rule_105 : decode cX6_rule 105 = .ok (.iaload, 1) := by decide +kernel
theorem dX6_rule_106 : decode cX6_rule 106 = .ok (.ireturn, 1) := by decide +kernel
theorem dX6_rule_107 : decode cX6_rule 107 = .ok (.aload_n 0, 1) := by decide +kernel
theorem dX6_rule_108 : decode cX6_rule 108 = .ok (.getfield 7, 3) := by decide +kernel
theorem dX6_rule_111 : decode cX6_rule 111 = .ok (.bipush 40, 2) := by decide +kernel
theorem dX6_rule_113 : decode cX6_rule 113 = .ok (.iaload, 1) := by decide +kernel
theorem dX6_rule_114 : decode cX6_rule 114 = .ok (.ireturn, 1) := by decide +kernel
theorem dX6_rule_115 : decode cX6_rule 115 = .ok (.aload_n 0, 1) := by decide +kernel
theorem dX6_rule_116 : decode cX6_rule 116 = .ok (.iconst 1, 1) := by decide +kernel
theorem dX6_rule_117 : decode cX6_rule 117 = .ok (.invokevirtual 177, 3) := by decide +kernel
theorem dX6_rule_120 : decode cX6_rule 120 = .ok (.ireturn, 1) := by decide +kernel
theorem dX6_rule_121 : decode cX6_rule 121 = .ok (.aload_n 0, 1) := by decide +kernel
theorem dX6_rule_122 : decode cX6_rule 122 = .ok (.getfield 7, 3) := by decide +kernel
theorem dX6_rule_125 : decode cX6_rule 125 = .ok (.bipush 35, 2) := by decide +kernel
theorem dX6_rule_127 : decode cX6_rule 127 = .ok (.iaload, 1) := by decide +kernel
theorem dX6_rule_128 : decode cX6_rule 128 = .ok (.ifCond .ne 7, 3) := by decide +kernel
theorem dX6_rule_131 : decode cX6_rule 131 = .ok (.iconst 0, 1) := by decide +kernel
theorem dX6_rule_132 : decode cX6_rule 132 = .ok (.goto 14, 3) := by decide +kernel
theorem dX6_rule_135 : decode cX6_rule 135 = .ok (.aload_n 0, 1) := by decide +kernel
theorem dX6_rule_136 : decode cX6_rule 136 = .ok (.aload_n 0, 1) := by decide +kernel
theorem dX6_rule_137 : decode cX6_rule 137 = .ok (.getfield 7, 3) := by decide +kernel
theorem dX6_rule_140 : decode cX6_rule 140 = .ok (.bipush 36, 2) := by decide +kernel
theorem dX6_rule_142 : decode cX6_rule 142 = .ok (.iaload, 1) := by decide +kernel
theorem dX6_rule_143 : decode cX6_rule 143 = .ok (.invokevirtual 160, 3) := by decide +kernel
theorem dX6_rule_146 : decode cX6_rule 146 = .ok (.ireturn, 1) := by decide +kernel
theorem dX6_rule_147 : decode cX6_rule 147 = .ok (.iconst (-1), 1) := by decide +kernel
theorem dX6_rule_148 : decode cX6_rule 148 = .ok (.ireturn, 1) := by decide +kernel
theorem dX6_station_0 : decode cX6_station 0 = .ok (.aload_n 0, 1) := by decide +kernel
theorem dX6_station_1 : decode cX6_station 1 = .ok (.iload_n 1, 1) := by decide +kernel
theorem dX6_station_2 : decode cX6_station 2 = .ok (.invokevirtual 180, 3) := by decide +kernel
theorem dX6_station_5 : decode cX6_station 5 = .ok (.ifCond .eq 29, 3) := by decide +kernel
theorem dX6_station_8 : decode cX6_station 8 = .ok (.iload_n 2, 1) := by decide +kernel
theorem dX6_station_9 : decode cX6_station 9 = .ok (.i2l, 1) := by decide +kernel
theorem dX6_station_10 : decode cX6_station 10 = .ok (.lconst 0, 1) := by decide +kernel
theorem dX6_station_11 : decode cX6_station 11 = .ok (.ldc2_w 183, 3) := by decide +kernel
theorem dX6_station_14 : decode cX6_station 14 = .ok (.invokestatic 59, 3) := by decide +kernel
theorem dX6_station_17 : decode cX6_station 17 = .ok (.ifCond .eq 17, 3) := by decide +kernel
theorem dX6_station_20 : decode cX6_station 20 = .ok (.aload_n 0, 1) := by decide +kernel
theorem dX6_station_21 : decode cX6_station 21 = .ok (.getfield 7, 3) := by decide +kernel
theorem dX6_station_24 : decode cX6_station 24 = .ok (.bipush 7, 2) := by decide +kernel
theorem dX6_station_26 : decode cX6_station 26 = .ok (.iload_n 1, 1) := by decide +kernel
theorem dX6_station_27 : decode cX6_station 27 = .ok (.imul, 1) := by decide +kernel
theorem dX6_station_28 : decode cX6_station 28 = .ok (.iload_n 2, 1) := by decide +kernel
theorem dX6_station_29 : decode cX6_station 29 = .ok (.iadd, 1) := by decide +kernel
theorem dX6_station_30 : decode cX6_station 30 = .ok (.iaload, 1) := by decide +kernel
theorem dX6_station_31 : decode cX6_station 31 = .ok (.goto 4, 3) := by decide +kernel
theorem dX6_station_34 : decode cX6_station 34 = .ok (.iconst (-1), 1) := by decide +kernel
theorem dX6_station_35 : decode cX6_station 35 = .ok (.ireturn, 1) := by decide +kernel
theorem dX6_becomes_0 : decode cX6_becomes 0 = .ok (.aload_n 0, 1) := by decide +kernel
theorem dX6_becomes_1 : decode cX6_becomes 1 = .ok (.getfield 7, 3) := by decide +kernel
theorem dX6_becomes_4 : decode cX6_becomes 4 = .ok (.iload_n 1, 1) := by decide +kernel
theorem dX6_becomes_5 : decode cX6_becomes 5 = .ok (.iaload, 1) := by decide +kernel
theorem dX6_becomes_6 : decode cX6_becomes 6 = .ok (.istore_n 3, 1) := by decide +kernel
theorem dX6_becomes_7 : decode cX6_becomes 7 = .ok (.aload_n 0, 1) := by decide +kernel
theorem dX6_becomes_8 : decode cX6_becomes 8 = .ok (.getfield 7, 3) := by decide +kernel
theorem dX6_becomes_11 : decode cX6_becomes 11 = .ok (.iload_n 1, 1) := by decide +kernel
theorem dX6_becomes_12 : decode cX6_becomes 12 = .ok (.iload_n 2, 1) := by decide +kernel
theorem dX6_becomes_13 : decode cX6_becomes 13 = .ok (.iastore, 1) := by decide +kernel
theorem dX6_becomes_14 : decode cX6_becomes 14 = .ok (.iload_n 3, 1) := by decide +kernel
theorem dX6_becomes_15 : decode cX6_becomes 15 = .ok (.ireturn, 1) := by decide +kernel
theorem dX6_alter_0 : decode cX6_alter 0 = .ok (.aload_n 0, 1) := by decide +kernel
theorem dX6_alter_1 : decode cX6_alter 1 = .ok (.iload_n 1, 1) := by decide +kernel
theorem dX6_alter_2 : decode cX6_alter 2 = .ok (.invokevirtual 180, 3) := by decide +kernel
theorem dX6_alter_5 : decode cX6_alter 5 = .ok (.ifCond .eq 47, 3) := by decide +kernel
theorem dX6_alter_8 : decode cX6_alter 8 = .ok (.iload_n 2, 1) := by decide +kernel
theorem dX6_alter_9 : decode cX6_alter 9 = .ok (.i2l, 1) := by decide +kernel
theorem dX6_alter_10 : decode cX6_alter 10 = .ok (.lconst 0, 1) := by decide +kernel
theorem dX6_alter_11 : decode cX6_alter 11 = .ok (.ldc2_w 185, 3) := by decide +kernel
theorem dX6_alter_14 : decode cX6_alter 14 = .ok (.invokestatic 59, 3) := by decide +kernel
theorem dX6_alter_17 : decode cX6_alter 17 = .ok (.ifCond .eq 35, 3) := by decide +kernel
theorem dX6_alter_20 : decode cX6_alter 20 = .ok (.iload_n 3, 1) := by decide +kernel
theorem dX6_alter_21 : decode cX6_alter 21 = .ok (.i2l, 1) := by decide +kernel
theorem dX6_alter_22 : decode cX6_alter 22 = .ok (.iload_n 2, 1) := by decide +kernel
theorem dX6_alter_23 : decode cX6_alter 23 = .ok (.invokestatic 108, 3) := by decide +kernel
theorem dX6_alter_26 : decode cX6_alter 26 = .ok (.i2l, 1) := by decide +kernel
theorem dX6_alter_27 : decode cX6_alter 27 = .ok (.iload_n 2, 1) := by decide +kernel
theorem dX6_alter_28 : decode cX6_alter 28 = .ok (.invokestatic 111, 3) := by decide +kernel
theorem dX6_alter_31 : decode cX6_alter 31 = .ok (.i2l, 1) := by decide +kernel
theorem dX6_alter_32 : decode cX6_alter 32 = .ok (.invokestatic 59, 3) := by decide +kernel
theorem dX6_alter_35 : decode cX6_alter 35 = .ok (.ifCond .eq 17, 3) := by decide +kernel
theorem dX6_alter_38 : decode cX6_alter 38 = .ok (.aload_n 0, 1) := by decide +kernel
theorem dX6_alter_39 : decode cX6_alter 39 = .ok (.bipush 7, 2) := by decide +kernel
theorem dX6_alter_41 : decode cX6_alter 41 = .ok (.iload_n 1, 1) := by decide +kernel
theorem dX6_alter_42 : decode cX6_alter 42 = .ok (.imul, 1) := by decide +kernel
theorem dX6_alter_43 : decode cX6_alter 43 = .ok (.iload_n 2, 1) := by decide +kernel
theorem dX6_alter_44 : decode cX6_alter 44 = .ok (.iadd, 1) := by decide +kernel
theorem dX6_alter_45 : decode cX6_alter 45 = .ok (.iload_n 3, 1) := by decide +kernel
theorem dX6_alter_46 : decode cX6_alter 46 = .ok (.invokevirtual 187, 3) := by decide +kernel
theorem dX6_alter_49 : decode cX6_alter 49 = .ok (.goto 4, 3) := by decide +kernel
theorem dX6_alter_52 : decode cX6_alter 52 = .ok (.iconst (-1), 1) := by decide +kernel
theorem dX6_alter_53 : decode cX6_alter 53 = .ok (.ireturn, 1) := by decide +kernel
theorem dX6_give_0 : decode cX6_give 0 = .ok (.aload_n 0, 1) := by decide +kernel
theorem dX6_give_1 : decode cX6_give 1 = .ok (.iload_n 1, 1) := by decide +kernel
theorem dX6_give_2 : decode cX6_give 2 = .ok (.invokevirtual 180, 3) := by decide +kernel
theorem dX6_give_5 : decode cX6_give 5 = .ok (.ifCond .eq 13, 3) := by decide +kernel
theorem dX6_give_8 : decode cX6_give 8 = .ok (.aload_n 0, 1) := by decide +kernel
theorem dX6_give_9 : decode cX6_give 9 = .ok (.bipush 36, 2) := by decide +kernel
theorem dX6_give_11 : decode cX6_give 11 = .ok (.iload_n 1, 1) := by decide +kernel
theorem dX6_give_12 : decode cX6_give 12 = .ok (.invokevirtual 187, 3) := by decide +kernel
theorem dX6_give_15 : decode cX6_give 15 = .ok (.goto 4, 3) := by decide +kernel
theorem dX6_give_18 : decode cX6_give 18 = .ok (.iconst (-1), 1) := by decide +kernel
theorem dX6_give_19 : decode cX6_give 19 = .ok (.ireturn, 1) := by decide +kernel
theorem dX6_post_0 : decode cX6_post 0 = .ok (.aload_n 0, 1) := by decide +kernel
theorem dX6_post_1 : decode cX6_post 1 = .ok (.iload_n 1, 1) := by decide +kernel
theorem dX6_post_2 : decode cX6_post 2 = .ok (.invokevirtual 180, 3) := by decide +kernel
theorem dX6_post_5 : decode cX6_post 5 = .ok (.ifCond .eq 15, 3) := by decide +kernel
theorem dX6_post_8 : decode cX6_post 8 = .ok (.iload_n 2, 1) := by decide +kernel
theorem dX6_post_9 : decode cX6_post 9 = .ok (.i2l, 1) := by decide +kernel
theorem dX6_post_10 : decode cX6_post 10 = .ok (.lconst 0, 1) := by decide +kernel
theorem dX6_post_11 : decode cX6_post 11 = .ok (.ldc2_w 190, 3) := by decide +kernel
theorem dX6_post_14 : decode cX6_post 14 = .ok (.invokestatic 59, 3) := by decide +kernel
theorem dX6_post_17 : decode cX6_post 17 = .ok (.ifCond .ne 5, 3) := by decide +kernel
theorem dX6_post_20 : decode cX6_post 20 = .ok (.iconst (-1), 1) := by decide +kernel
theorem dX6_post_21 : decode cX6_post 21 = .ok (.ireturn, 1) := by decide +kernel
theorem dX6_post_22 : decode cX6_post 22 = .ok (.aload_n 0, 1) := by decide +kernel
theorem dX6_post_23 : decode cX6_post 23 = .ok (.invokevirtual 174, 3) := by decide +kernel
theorem dX6_post_26 : decode cX6_post 26 = .ok (.aload_n 0, 1) := by decide +kernel
theorem dX6_post_27 : decode cX6_post 27 = .ok (.iload_n 1, 1) := by decide +kernel
theorem dX6_post_28 : decode cX6_post 28 = .ok (.iload_n 2, 1) := by decide +kernel
theorem dX6_post_29 : decode cX6_post 29 = .ok (.invokevirtual 167, 3) := by decide +kernel
theorem dX6_post_32 : decode cX6_post 32 = .ok (.istore_n 3, 1) := by decide +kernel
theorem dX6_post_33 : decode cX6_post 33 = .ok (.aload_n 0, 1) := by decide +kernel
theorem dX6_post_34 : decode cX6_post 34 = .ok (.invokevirtual 192, 3) := by decide +kernel
theorem dX6_post_37 : decode cX6_post 37 = .ok (.iload_n 3, 1) := by decide +kernel
theorem dX6_post_38 : decode cX6_post 38 = .ok (.ireturn, 1) := by decide +kernel
theorem dX6_trades_0 : decode cX6_trades 0 = .ok (.iconst 0, 1) := by decide +kernel
theorem dX6_trades_1 : decode cX6_trades 1 = .ok (.istore_n 3, 1) := by decide +kernel
theorem dX6_trades_2 : decode cX6_trades 2 = .ok (.iload_n 3, 1) := by decide +kernel
theorem dX6_trades_3 : decode cX6_trades 3 = .ok (.bipush 7, 2) := by decide +kernel
theorem dX6_trades_5 : decode cX6_trades 5 = .ok (.if_icmp .ge 53, 3) := by decide +kernel
theorem dX6_trades_8 : decode cX6_trades 8 = .ok (.aload_n 0, 1) := by decide +kernel
theorem dX6_trades_9 : decode cX6_trades 9 = .ok (.getfield 13, 3) := by decide +kernel
theorem dX6_trades_12 : decode cX6_trades 12 = .ok (.bipush 7, 2) := by decide +kernel
theorem dX6_trades_14 : decode cX6_trades 14 = .ok (.iload_n 1, 1) := by decide +kernel
theorem dX6_trades_15 : decode cX6_trades 15 = .ok (.imul, 1) := by decide +kernel
theorem dX6_trades_16 : decode cX6_trades 16 = .ok (.iload_n 3, 1) := by decide +kernel
theorem dX6_trades_17 : decode cX6_trades 17 = .ok (.iadd, 1) := by decide +kernel
theorem dX6_trades_18 : decode cX6_trades 18 = .ok (.aload_n 0, 1) := by decide +kernel
theorem dX6_trades_19 : decode cX6_trades 19 = .ok (.getfield 7, 3) := by decide +kernel
theorem dX6_trades_22 : decode cX6_trades 22 = .ok (.bipush 7, 2) := by decide +kernel
theorem dX6_trades_24 : decode cX6_trades 24 = .ok (.iload_n 2, 1) := by decide +kernel
theorem dX6_trades_25 : decode cX6_trades 25 = .ok (.imul, 1) := by decide +kernel
theorem dX6_trades_26 : decode cX6_trades 26 = .ok (.iload_n 3, 1) := by decide +kernel
theorem dX6_trades_27 : decode cX6_trades 27 = .ok (.iadd, 1) := by decide +kernel
theorem dX6_trades_28 : decode cX6_trades 28 = .ok (.iaload, 1) := by decide +kernel
theorem dX6_trades_29 : decode cX6_trades 29 = .ok (.iastore, 1) := by decide +kernel
theorem dX6_trades_30 : decode cX6_trades 30 = .ok (.aload_n 0, 1) := by decide +kernel
theorem dX6_trades_31 : decode cX6_trades 31 = .ok (.getfield 13, 3) := by decide +kernel
theorem dX6_trades_34 : decode cX6_trades 34 = .ok (.bipush 7, 2) := by decide +kernel
theorem dX6_trades_36 : decode cX6_trades 36 = .ok (.iload_n 2, 1) := by decide +kernel
theorem dX6_trades_37 : decode cX6_trades 37 = .ok (.imul, 1) := by decide +kernel
theorem dX6_trades_38 : decode cX6_trades 38 = .ok (.iload_n 3, 1) := by decide +kernel
theorem dX6_trades_39 : decode cX6_trades 39 = .ok (.iadd, 1) := by decide +kernel
theorem dX6_trades_40 : decode cX6_trades 40 = .ok (.aload_n 0, 1) := by decide +kernel
theorem dX6_trades_41 : decode cX6_trades 41 = .ok (.getfield 7, 3) := by decide +kernel
theorem dX6_trades_44 : decode cX6_trades 44 = .ok (.bipush 7, 2) := by decide +kernel
theorem dX6_trades_46 : decode cX6_trades 46 = .ok (.iload_n 1, 1) := by decide +kernel
theorem dX6_trades_47 : decode cX6_trades 47 = .ok (.imul, 1) := by decide +kernel
theorem dX6_trades_48 : decode cX6_trades 48 = .ok (.iload_n 3, 1) := by decide +kernel
theorem dX6_trades_49 : decode cX6_trades 49 = .ok (.iadd, 1) := by decide +kernel
theorem dX6_trades_50 : decode cX6_trades 50 = .ok (.iaload, 1) := by decide +kernel
theorem dX6_trades_51 : decode cX6_trades 51 = .ok (.iastore, 1) := by decide +kernel
theorem dX6_trades_52 : decode cX6_trades 52 = .ok (.iinc 3 1, 3) := by decide +kernel
theorem dX6_trades_55 : decode cX6_trades 55 = .ok (.goto (-53), 3) := by decide +kernel
theorem dX6_trades_58 : decode cX6_trades 58 = .ok (.return_, 1) := by decide +kernel
theorem dX6_change_0 : decode cX6_change 0 = .ok (.aload_n 0, 1) := by decide +kernel
theorem dX6_change_1 : decode cX6_change 1 = .ok (.iload_n 1, 1) := by decide +kernel
theorem dX6_change_2 : decode cX6_change 2 = .ok (.invokevirtual 180, 3) := by decide +kernel
theorem dX6_change_5 : decode cX6_change 5 = .ok (.ifCond .eq 16, 3) := by decide +kernel
theorem dX6_change_8 : decode cX6_change 8 = .ok (.aload_n 0, 1) := by decide +kernel
theorem dX6_change_9 : decode cX6_change 9 = .ok (.iload_n 2, 1) := by decide +kernel
theorem dX6_change_10 : decode cX6_change 10 = .ok (.invokevirtual 180, 3) := by decide +kernel
theorem dX6_change_13 : decode cX6_change 13 = .ok (.ifCond .eq 8, 3) := by decide +kernel
theorem dX6_change_16 : decode cX6_change 16 = .ok (.iload_n 1, 1) := by decide +kernel
theorem dX6_change_17 : decode cX6_change 17 = .ok (.iload_n 2, 1) := by decide +kernel
theorem dX6_change_18 : decode cX6_change 18 = .ok (.if_icmp .ne 5, 3) := by decide +kernel
theorem dX6_change_21 : decode cX6_change 21 = .ok (.iconst (-1), 1) := by decide +kernel
theorem dX6_change_22 : decode cX6_change 22 = .ok (.ireturn, 1) := by decide +kernel
theorem dX6_change_23 : decode cX6_change 23 = .ok (.aload_n 0, 1) := by decide +kernel
theorem dX6_change_24 : decode cX6_change 24 = .ok (.invokevirtual 174, 3) := by decide +kernel
theorem dX6_change_27 : decode cX6_change 27 = .ok (.aload_n 0, 1) := by decide +kernel
theorem dX6_change_28 : decode cX6_change 28 = .ok (.iload_n 1, 1) := by decide +kernel
theorem dX6_change_29 : decode cX6_change 29 = .ok (.iload_n 2, 1) := by decide +kernel
theorem dX6_change_30 : decode cX6_change 30 = .ok (.invokevirtual 195, 3) := by decide +kernel
theorem dX6_change_33 : decode cX6_change 33 = .ok (.aload_n 0, 1) := by decide +kernel
theorem dX6_change_34 : decode cX6_change 34 = .ok (.invokevirtual 192, 3) := by decide +kernel
theorem dX6_change_37 : decode cX6_change 37 = .ok (.aload_n 0, 1) := by decide +kernel
theorem dX6_change_38 : decode cX6_change 38 = .ok (.getfield 7, 3) := by decide +kernel
theorem dX6_change_41 : decode cX6_change 41 = .ok (.bipush 35, 2) := by decide +kernel
theorem dX6_change_43 : decode cX6_change 43 = .ok (.iaload, 1) := by decide +kernel
theorem dX6_change_44 : decode cX6_change 44 = .ok (.ireturn, 1) := by decide +kernel
theorem dX6_visits_0 : decode cX6_visits 0 = .ok (.iload_n 1, 1) := by decide +kernel
theorem dX6_visits_1 : decode cX6_visits 1 = .ok (.i2l, 1) := by decide +kernel
theorem dX6_visits_2 : decode cX6_visits 2 = .ok (.lconst 0, 1) := by decide +kernel
theorem dX6_visits_3 : decode cX6_visits 3 = .ok (.ldc2_w 198, 3) := by decide +kernel
theorem dX6_visits_6 : decode cX6_visits 6 = .ok (.invokestatic 59, 3) := by decide +kernel
theorem dX6_visits_9 : decode cX6_visits 9 = .ok (.ifCond .ne 5, 3) := by decide +kernel
theorem dX6_visits_12 : decode cX6_visits 12 = .ok (.iconst (-1), 1) := by decide +kernel
theorem dX6_visits_13 : decode cX6_visits 13 = .ok (.ireturn, 1) := by decide +kernel
theorem dX6_visits_14 : decode cX6_visits 14 = .ok (.aload_n 0, 1) := by decide +kernel
theorem dX6_visits_15 : decode cX6_visits 15 = .ok (.getfield 7, 3) := by decide +kernel
theorem dX6_visits_18 : decode cX6_visits 18 = .ok (.bipush 38, 2) := by decide +kernel
theorem dX6_visits_20 : decode cX6_visits 20 = .ok (.iaload, 1) := by decide +kernel
theorem dX6_visits_21 : decode cX6_visits 21 = .ok (.iload_n 1, 1) := by decide +kernel
theorem dX6_visits_22 : decode cX6_visits 22 = .ok (.iadd, 1) := by decide +kernel
theorem dX6_visits_23 : decode cX6_visits 23 = .ok (.sipush 9999, 3) := by decide +kernel
theorem dX6_visits_26 : decode cX6_visits 26 = .ok (.if_icmp .le 6, 3) := by decide +kernel
theorem dX6_visits_29 : decode cX6_visits 29 = .ok (.bipush (-3), 2) := by decide +kernel
theorem dX6_visits_31 : decode cX6_visits 31 = .ok (.ireturn, 1) := by decide +kernel
theorem dX6_visits_32 : decode cX6_visits 32 = .ok (.aload_n 0, 1) := by decide +kernel
theorem dX6_visits_33 : decode cX6_visits 33 = .ok (.invokevirtual 174, 3) := by decide +kernel
theorem dX6_visits_36 : decode cX6_visits 36 = .ok (.aload_n 0, 1) := by decide +kernel
theorem dX6_visits_37 : decode cX6_visits 37 = .ok (.iload_n 1, 1) := by decide +kernel
theorem dX6_visits_38 : decode cX6_visits 38 = .ok (.invokevirtual 200, 3) := by decide +kernel
theorem dX6_visits_41 : decode cX6_visits 41 = .ok (.aload_n 0, 1) := by decide +kernel
theorem dX6_visits_42 : decode cX6_visits 42 = .ok (.invokevirtual 192, 3) := by decide +kernel
theorem dX6_visits_45 : decode cX6_visits 45 = .ok (.aload_n 0, 1) := by decide +kernel
theorem dX6_visits_46 : decode cX6_visits 46 = .ok (.getfield 132, 3) := by decide +kernel
theorem dX6_visits_49 : decode cX6_visits 49 = .ok (.ireturn, 1) := by decide +kernel
theorem dX6_isFar_0 : decode cX6_isFar 0 = .ok (.iload_n 0, 1) := by decide +kernel
theorem dX6_isFar_1 : decode cX6_isFar 1 = .ok (.i2l, 1) := by decide +kernel
theorem dX6_isFar_2 : decode cX6_isFar 2 = .ok (.lconst 0, 1) := by decide +kernel
theorem dX6_isFar_3 : decode cX6_isFar 3 = .ok (.ldc2_w 203, 3) := by decide +kernel
theorem dX6_isFar_6 : decode cX6_isFar 6 = .ok (.invokestatic 59, 3) := by decide +kernel
theorem dX6_isFar_9 : decode cX6_isFar 9 = .ok (.ireturn, 1) := by decide +kernel
theorem dX6_runs_0 : decode cX6_runs 0 = .ok (.iload_n 1, 1) := by decide +kernel
theorem dX6_runs_1 : decode cX6_runs 1 = .ok (.invokestatic 205, 3) := by decide +kernel
theorem dX6_runs_4 : decode cX6_runs 4 = .ok (.ifCond .eq 15, 3) := by decide +kernel
theorem dX6_runs_7 : decode cX6_runs 7 = .ok (.iload_n 2, 1) := by decide +kernel
theorem dX6_runs_8 : decode cX6_runs 8 = .ok (.i2l, 1) := by decide +kernel
theorem dX6_runs_9 : decode cX6_runs 9 = .ok (.lconst 0, 1) := by decide +kernel
theorem dX6_runs_10 : decode cX6_runs 10 = .ok (.ldc2_w 208, 3) := by decide +kernel
theorem dX6_runs_13 : decode cX6_runs 13 = .ok (.invokestatic 59, 3) := by decide +kernel
theorem dX6_runs_16 : decode cX6_runs 16 = .ok (.ifCond .ne 5, 3) := by decide +kernel
theorem dX6_runs_19 : decode cX6_runs 19 = .ok (.iconst (-1), 1) := by decide +kernel
theorem dX6_runs_20 : decode cX6_runs 20 = .ok (.ireturn, 1) := by decide +kernel
theorem dX6_runs_21 : decode cX6_runs 21 = .ok (.aload_n 0, 1) := by decide +kernel
theorem dX6_runs_22 : decode cX6_runs 22 = .ok (.invokevirtual 174, 3) := by decide +kernel
theorem dX6_runs_25 : decode cX6_runs 25 = .ok (.aload_n 0, 1) := by decide +kernel
theorem dX6_runs_26 : decode cX6_runs 26 = .ok (.iload_n 1, 1) := by decide +kernel
theorem dX6_runs_27 : decode cX6_runs 27 = .ok (.invokevirtual 200, 3) := by decide +kernel
theorem dX6_runs_30 : decode cX6_runs 30 = .ok (.iload_n 2, 1) := by decide +kernel
theorem dX6_runs_31 : decode cX6_runs 31 = .ok (.tableswitch 40 0 2 #[25, 30, 35], 25) := by decide +kernel
theorem dX6_runs_56 : decode cX6_runs 56 = .ok (.aload_n 0, 1) := by decide +kernel
theorem dX6_runs_57 : decode cX6_runs 57 = .ok (.getfield 132, 3) := by decide +kernel
theorem dX6_runs_60 : decode cX6_runs 60 = .ok (.ireturn, 1) := by decide +kernel
theorem dX6_runs_61 : decode cX6_runs 61 = .ok (.aload_n 0, 1) := by decide +kernel
theorem dX6_runs_62 : decode cX6_runs 62 = .ok (.getfield 135, 3) := by decide +kernel
theorem dX6_runs_65 : decode cX6_runs 65 = .ok (.ireturn, 1) := by decide +kernel
theorem dX6_runs_66 : decode cX6_runs 66 = .ok (.aload_n 0, 1) := by decide +kernel
theorem dX6_runs_67 : decode cX6_runs 67 = .ok (.getfield 138, 3) := by decide +kernel
theorem dX6_runs_70 : decode cX6_runs 70 = .ok (.ireturn, 1) := by decide +kernel
theorem dX6_runs_71 : decode cX6_runs 71 = .ok (.aload_n 0, 1) := by decide +kernel
theorem dX6_runs_72 : decode cX6_runs 72 = .ok (.iconst 1, 1) := by decide +kernel
theorem dX6_runs_73 : decode cX6_runs 73 = .ok (.invokevirtual 177, 3) := by decide +kernel
theorem dX6_runs_76 : decode cX6_runs 76 = .ok (.ireturn, 1) := by decide +kernel
end
section
theorem dX6_ahead_0 : decode cX6_ahead 0 = .ok (.aload_n 0, 1) := by decide +kernel
theorem dX6_ahead_1 : decode cX6_ahead 1 = .ok (.iload_n 1, 1) := by decide +kernel
theorem dX6_ahead_2 : decode cX6_ahead 2 = .ok (.invokevirtual 180, 3) := by decide +kernel
theorem dX6_ahead_5 : decode cX6_ahead 5 = .ok (.ifCond .eq 22, 3) := by decide +kernel
theorem dX6_ahead_8 : decode cX6_ahead 8 = .ok (.iload_n 2, 1) := by decide +kernel
theorem dX6_ahead_9 : decode cX6_ahead 9 = .ok (.invokestatic 205, 3) := by decide +kernel
theorem dX6_ahead_12 : decode cX6_ahead 12 = .ok (.ifCond .eq 15, 3) := by decide +kernel
theorem dX6_ahead_15 : decode cX6_ahead 15 = .ok (.iload_n 3, 1) := by decide +kernel
theorem dX6_ahead_16 : decode cX6_ahead 16 = .ok (.i2l, 1) := by decide +kernel
theorem dX6_ahead_17 : decode cX6_ahead 17 = .ok (.lconst 0, 1) := by decide +kernel
theorem dX6_ahead_18 : decode cX6_ahead 18 = .ok (.ldc2_w 210, 3) := by decide +kernel
theorem dX6_ahead_21 : decode cX6_ahead 21 = .ok (.invokestatic 59, 3) := by decide +kernel
theorem dX6_ahead_24 : decode cX6_ahead 24 = .ok (.ifCond .ne 5, 3) := by decide +kernel
theorem dX6_ahead_27 : decode cX6_ahead 27 = .ok (.iconst (-1), 1) := by decide +kernel
theorem dX6_ahead_28 : decode cX6_ahead 28 = .ok (.ireturn, 1) := by decide +kernel
theorem dX6_ahead_29 : decode cX6_ahead 29 = .ok (.aload_n 0, 1) := by decide +kernel
theorem dX6_ahead_30 : decode cX6_ahead 30 = .ok (.invokevirtual 174, 3) := by decide +kernel
theorem dX6_ahead_33 : decode cX6_ahead 33 = .ok (.aload_n 0, 1) := by decide +kernel
theorem dX6_ahead_34 : decode cX6_ahead 34 = .ok (.iload_n 1, 1) := by decide +kernel
theorem dX6_ahead_35 : decode cX6_ahead 35 = .ok (.iconst 1, 1) := by decide +kernel
theorem dX6_ahead_36 : decode cX6_ahead 36 = .ok (.invokevirtual 145, 3) := by decide +kernel
theorem dX6_ahead_39 : decode cX6_ahead 39 = .ok (.istore 4, 2) := by decide +kernel
theorem dX6_ahead_41 : decode cX6_ahead 41 = .ok (.iconst 0, 1) := by decide +kernel
theorem dX6_ahead_42 : decode cX6_ahead 42 = .ok (.istore 5, 2) := by decide +kernel
theorem dX6_ahead_44 : decode cX6_ahead 44 = .ok (.iload 5, 2) := by decide +kernel
theorem dX6_ahead_46 : decode cX6_ahead 46 = .ok (.iload_n 2, 1) := by decide +kernel
theorem dX6_ahead_47 : decode cX6_ahead 47 = .ok (.if_icmp .ge 38, 3) := by decide +kernel
theorem dX6_ahead_50 : decode cX6_ahead 50 = .ok (.aload_n 0, 1) := by decide +kernel
theorem dX6_ahead_51 : decode cX6_ahead 51 = .ok (.iconst 0, 1) := by decide +kernel
theorem dX6_ahead_52 : decode cX6_ahead 52 = .ok (.invokevirtual 170, 3) := by decide +kernel
theorem dX6_ahead_55 : decode cX6_ahead 55 = .ok (.aload_n 0, 1) := by decide +kernel
theorem dX6_ahead_56 : decode cX6_ahead 56 = .ok (.iload_n 1, 1) := by decide +kernel
theorem dX6_ahead_57 : decode cX6_ahead 57 = .ok (.iconst 1, 1) := by decide +kernel
theorem dX6_ahead_58 : decode cX6_ahead 58 = .ok (.invokevirtual 145, 3) := by decide +kernel
theorem dX6_ahead_61 : decode cX6_ahead 61 = .ok (.iload 4, 2) := by decide +kernel
theorem dX6_ahead_63 : decode cX6_ahead 63 = .ok (.if_icmp .le 12, 3) := by decide +kernel
theorem dX6_ahead_66 : decode cX6_ahead 66 = .ok (.aload_n 0, 1) := by decide +kernel
theorem dX6_ahead_67 : decode cX6_ahead 67 = .ok (.iload_n 1, 1) := by decide +kernel
theorem dX6_ahead_68 : decode cX6_ahead 68 = .ok (.iconst 1, 1) := by decide +kernel
theorem dX6_ahead_69 : decode cX6_ahead 69 = .ok (.invokevirtual 145, 3) := by decide +kernel
theorem dX6_ahead_72 : decode cX6_ahead 72 = .ok (.goto 5, 3) := by decide +kernel
theorem dX6_ahead_75 : decode cX6_ahead 75 = .ok (.iload 4, 2) := by decide +kernel
theorem dX6_ahead_77 : decode cX6_ahead 77 = .ok (.istore 4, 2) := by decide +kernel
theorem dX6_ahead_79 : decode cX6_ahead 79 = .ok (.iinc 5 1, 3) := by decide +kernel
theorem dX6_ahead_82 : decode cX6_ahead 82 = .ok (.goto (-38), 3) := by decide +kernel
theorem dX6_ahead_85 : decode cX6_ahead 85 = .ok (.iload_n 3, 1) := by decide +kernel
theorem dX6_ahead_86 : decode cX6_ahead 86 = .ok (.ifCond .ne 12, 3) := by decide +kernel
theorem dX6_ahead_89 : decode cX6_ahead 89 = .ok (.aload_n 0, 1) := by decide +kernel
theorem dX6_ahead_90 : decode cX6_ahead 90 = .ok (.iload_n 1, 1) := by decide +kernel
theorem dX6_ahead_91 : decode cX6_ahead 91 = .ok (.iconst 1, 1) := by decide +kernel
theorem dX6_ahead_92 : decode cX6_ahead 92 = .ok (.invokevirtual 145, 3) := by decide +kernel
theorem dX6_ahead_95 : decode cX6_ahead 95 = .ok (.goto 19, 3) := by decide +kernel
theorem dX6_ahead_98 : decode cX6_ahead 98 = .ok (.iload_n 3, 1) := by decide +kernel
theorem dX6_ahead_99 : decode cX6_ahead 99 = .ok (.iconst 1, 1) := by decide +kernel
theorem dX6_ahead_100 : decode cX6_ahead 100 = .ok (.if_icmp .ne 12, 3) := by decide +kernel
theorem dX6_ahead_103 : decode cX6_ahead 103 = .ok (.aload_n 0, 1) := by decide +kernel
theorem dX6_ahead_104 : decode cX6_ahead 104 = .ok (.getfield 26, 3) := by decide +kernel
theorem dX6_ahead_107 : decode cX6_ahead 107 = .ok (.iload_n 1, 1) := by decide +kernel
theorem dX6_ahead_108 : decode cX6_ahead 108 = .ok (.iaload, 1) := by decide +kernel
theorem dX6_ahead_109 : decode cX6_ahead 109 = .ok (.goto 5, 3) := by decide +kernel
theorem dX6_ahead_112 : decode cX6_ahead 112 = .ok (.iload 4, 2) := by decide +kernel
theorem dX6_ahead_114 : decode cX6_ahead 114 = .ok (.ireturn, 1) := by decide +kernel
theorem dX6_when_0 : decode cX6_when 0 = .ok (.aload_n 0, 1) := by decide +kernel
theorem dX6_when_1 : decode cX6_when 1 = .ok (.iload_n 1, 1) := by decide +kernel
theorem dX6_when_2 : decode cX6_when 2 = .ok (.invokevirtual 180, 3) := by decide +kernel
theorem dX6_when_5 : decode cX6_when 5 = .ok (.ifCond .ne 5, 3) := by decide +kernel
theorem dX6_when_8 : decode cX6_when 8 = .ok (.iconst (-1), 1) := by decide +kernel
theorem dX6_when_9 : decode cX6_when 9 = .ok (.ireturn, 1) := by decide +kernel
theorem dX6_when_10 : decode cX6_when 10 = .ok (.aload_n 0, 1) := by decide +kernel
theorem dX6_when_11 : decode cX6_when 11 = .ok (.invokevirtual 174, 3) := by decide +kernel
theorem dX6_when_14 : decode cX6_when 14 = .ok (.iconst 0, 1) := by decide +kernel
theorem dX6_when_15 : decode cX6_when 15 = .ok (.istore_n 2, 1) := by decide +kernel
theorem dX6_when_16 : decode cX6_when 16 = .ok (.iload_n 2, 1) := by decide +kernel
theorem dX6_when_17 : decode cX6_when 17 = .ok (.sipush 200, 3) := by decide +kernel
theorem dX6_when_20 : decode cX6_when 20 = .ok (.if_icmp .gt 25, 3) := by decide +kernel
theorem dX6_when_23 : decode cX6_when 23 = .ok (.aload_n 0, 1) := by decide +kernel
theorem dX6_when_24 : decode cX6_when 24 = .ok (.iload_n 1, 1) := by decide +kernel
theorem dX6_when_25 : decode cX6_when 25 = .ok (.iconst 1, 1) := by decide +kernel
theorem dX6_when_26 : decode cX6_when 26 = .ok (.invokevirtual 145, 3) := by decide +kernel
theorem dX6_when_29 : decode cX6_when 29 = .ok (.ifCond .ne 5, 3) := by decide +kernel
theorem dX6_when_32 : decode cX6_when 32 = .ok (.iload_n 2, 1) := by decide +kernel
theorem dX6_when_33 : decode cX6_when 33 = .ok (.ireturn, 1) := by decide +kernel
theorem dX6_when_34 : decode cX6_when 34 = .ok (.aload_n 0, 1) := by decide +kernel
theorem dX6_when_35 : decode cX6_when 35 = .ok (.iconst 0, 1) := by decide +kernel
theorem dX6_when_36 : decode cX6_when 36 = .ok (.invokevirtual 170, 3) := by decide +kernel
theorem dX6_when_39 : decode cX6_when 39 = .ok (.iinc 2 1, 3) := by decide +kernel
theorem dX6_when_42 : decode cX6_when 42 = .ok (.goto (-26), 3) := by decide +kernel
theorem dX6_when_45 : decode cX6_when 45 = .ok (.bipush (-4), 2) := by decide +kernel
theorem dX6_when_47 : decode cX6_when 47 = .ok (.ireturn, 1) := by decide +kernel
theorem dX6_startsJudging_0 : decode cX6_startsJudging 0 = .ok (.aload_n 0, 1) := by decide +kernel
theorem dX6_startsJudging_1 : decode cX6_startsJudging 1 = .ok (.bipush (-4), 2) := by decide +kernel
theorem dX6_startsJudging_3 : decode cX6_startsJudging 3 = .ok (.putfield 212, 3) := by decide +kernel
theorem dX6_startsJudging_6 : decode cX6_startsJudging 6 = .ok (.aload_n 0, 1) := by decide +kernel
theorem dX6_startsJudging_7 : decode cX6_startsJudging 7 = .ok (.iload_n 1, 1) := by decide +kernel
theorem dX6_startsJudging_8 : decode cX6_startsJudging 8 = .ok (.putfield 215, 3) := by decide +kernel
theorem dX6_startsJudging_11 : decode cX6_startsJudging 11 = .ok (.return_, 1) := by decide +kernel
theorem dX6_judges_0 : decode cX6_judges 0 = .ok (.iload_n 2, 1) := by decide +kernel
theorem dX6_judges_1 : decode cX6_judges 1 = .ok (.aload_n 0, 1) := by decide +kernel
theorem dX6_judges_2 : decode cX6_judges 2 = .ok (.getfield 215, 3) := by decide +kernel
theorem dX6_judges_5 : decode cX6_judges 5 = .ok (.if_icmp .ge 13, 3) := by decide +kernel
theorem dX6_judges_8 : decode cX6_judges 8 = .ok (.aload_n 0, 1) := by decide +kernel
theorem dX6_judges_9 : decode cX6_judges 9 = .ok (.iload_n 1, 1) := by decide +kernel
theorem dX6_judges_10 : decode cX6_judges 10 = .ok (.putfield 212, 3) := by decide +kernel
theorem dX6_judges_13 : decode cX6_judges 13 = .ok (.aload_n 0, 1) := by decide +kernel
theorem dX6_judges_14 : decode cX6_judges 14 = .ok (.iload_n 2, 1) := by decide +kernel
theorem dX6_judges_15 : decode cX6_judges 15 = .ok (.putfield 215, 3) := by decide +kernel
theorem dX6_judges_18 : decode cX6_judges 18 = .ok (.return_, 1) := by decide +kernel
theorem dX6_judged_0 : decode cX6_judged 0 = .ok (.aload_n 0, 1) := by decide +kernel
theorem dX6_judged_1 : decode cX6_judged 1 = .ok (.getfield 212, 3) := by decide +kernel
theorem dX6_judged_4 : decode cX6_judged 4 = .ok (.bipush (-4), 2) := by decide +kernel
theorem dX6_judged_6 : decode cX6_judged 6 = .ok (.if_icmp .ne 8, 3) := by decide +kernel
theorem dX6_judged_9 : decode cX6_judged 9 = .ok (.bipush (-4), 2) := by decide +kernel
theorem dX6_judged_11 : decode cX6_judged 11 = .ok (.goto 18, 3) := by decide +kernel
theorem dX6_judged_14 : decode cX6_judged 14 = .ok (.iload_n 1, 1) := by decide +kernel
theorem dX6_judged_15 : decode cX6_judged 15 = .ok (.ifCond .ne 10, 3) := by decide +kernel
theorem dX6_judged_18 : decode cX6_judged 18 = .ok (.aload_n 0, 1) := by decide +kernel
theorem dX6_judged_19 : decode cX6_judged 19 = .ok (.getfield 212, 3) := by decide +kernel
theorem dX6_judged_22 : decode cX6_judged 22 = .ok (.goto 7, 3) := by decide +kernel
theorem dX6_judged_25 : decode cX6_judged 25 = .ok (.aload_n 0, 1) := by decide +kernel
theorem dX6_judged_26 : decode cX6_judged 26 = .ok (.getfield 215, 3) := by decide +kernel
theorem dX6_judged_29 : decode cX6_judged 29 = .ok (.ireturn, 1) := by decide +kernel
theorem dX6_judgedMore_0 : decode cX6_judgedMore 0 = .ok (.aload_n 0, 1) := by decide +kernel
theorem dX6_judgedMore_1 : decode cX6_judgedMore 1 = .ok (.getfield 212, 3) := by decide +kernel
theorem dX6_judgedMore_4 : decode cX6_judgedMore 4 = .ok (.bipush (-4), 2) := by decide +kernel
theorem dX6_judgedMore_6 : decode cX6_judgedMore 6 = .ok (.if_icmp .ne 8, 3) := by decide +kernel
theorem dX6_judgedMore_9 : decode cX6_judgedMore 9 = .ok (.bipush (-4), 2) := by decide +kernel
theorem dX6_judgedMore_11 : decode cX6_judgedMore 11 = .ok (.goto 19, 3) := by decide +kernel
theorem dX6_judgedMore_14 : decode cX6_judgedMore 14 = .ok (.iload_n 1, 1) := by decide +kernel
theorem dX6_judgedMore_15 : decode cX6_judgedMore 15 = .ok (.ifCond .ne 10, 3) := by decide +kernel
theorem dX6_judgedMore_18 : decode cX6_judgedMore 18 = .ok (.aload_n 0, 1) := by decide +kernel
theorem dX6_judgedMore_19 : decode cX6_judgedMore 19 = .ok (.getfield 212, 3) := by decide +kernel
theorem dX6_judgedMore_22 : decode cX6_judgedMore 22 = .ok (.goto 8, 3) := by decide +kernel
theorem dX6_judgedMore_25 : decode cX6_judgedMore 25 = .ok (.aload_n 0, 1) := by decide +kernel
theorem dX6_judgedMore_26 : decode cX6_judgedMore 26 = .ok (.getfield 215, 3) := by decide +kernel
theorem dX6_judgedMore_29 : decode cX6_judgedMore 29 = .ok (.ineg, 1) := by decide +kernel
theorem dX6_judgedMore_30 : decode cX6_judgedMore 30 = .ok (.ireturn, 1) := by decide +kernel
theorem dX6_kind_0 : decode cX6_kind 0 = .ok (.aload_n 0, 1) := by decide +kernel
theorem dX6_kind_1 : decode cX6_kind 1 = .ok (.iload_n 1, 1) := by decide +kernel
theorem dX6_kind_2 : decode cX6_kind 2 = .ok (.invokevirtual 180, 3) := by decide +kernel
theorem dX6_kind_5 : decode cX6_kind 5 = .ok (.ifCond .eq 17, 3) := by decide +kernel
theorem dX6_kind_8 : decode cX6_kind 8 = .ok (.iload_n 2, 1) := by decide +kernel
theorem dX6_kind_9 : decode cX6_kind 9 = .ok (.invokestatic 205, 3) := by decide +kernel
theorem dX6_kind_12 : decode cX6_kind 12 = .ok (.ifCond .eq 10, 3) := by decide +kernel
theorem dX6_kind_15 : decode cX6_kind 15 = .ok (.iload_n 3, 1) := by decide +kernel
theorem dX6_kind_16 : decode cX6_kind 16 = .ok (.invokestatic 218, 3) := by decide +kernel
theorem dX6_kind_19 : decode cX6_kind 19 = .ok (.ifCond .ne 5, 3) := by decide +kernel
theorem dX6_kind_22 : decode cX6_kind 22 = .ok (.iconst (-1), 1) := by decide +kernel
theorem dX6_kind_23 : decode cX6_kind 23 = .ok (.ireturn, 1) := by decide +kernel
theorem dX6_kind_24 : decode cX6_kind 24 = .ok (.aload_n 0, 1) := by decide +kernel
theorem dX6_kind_25 : decode cX6_kind 25 = .ok (.iconst 1, 1) := by decide +kernel
theorem dX6_kind_26 : decode cX6_kind 26 = .ok (.invokevirtual 221, 3) := by decide +kernel
theorem dX6_kind_29 : decode cX6_kind 29 = .ok (.iconst 0, 1) := by decide +kernel
theorem dX6_kind_30 : decode cX6_kind 30 = .ok (.istore 4, 2) := by decide +kernel
theorem dX6_kind_32 : decode cX6_kind 32 = .ok (.iload 4, 2) := by decide +kernel
theorem dX6_kind_34 : decode cX6_kind 34 = .ok (.iconst 4, 1) := by decide +kernel
theorem dX6_kind_35 : decode cX6_kind 35 = .ok (.if_icmp .ge 37, 3) := by decide +kernel
theorem dX6_kind_38 : decode cX6_kind 38 = .ok (.aload_n 0, 1) := by decide +kernel
theorem dX6_kind_39 : decode cX6_kind 39 = .ok (.invokevirtual 174, 3) := by decide +kernel
theorem dX6_kind_42 : decode cX6_kind 42 = .ok (.aload_n 0, 1) := by decide +kernel
theorem dX6_kind_43 : decode cX6_kind 43 = .ok (.iload_n 1, 1) := by decide +kernel
theorem dX6_kind_44 : decode cX6_kind 44 = .ok (.iconst 0, 1) := by decide +kernel
theorem dX6_kind_45 : decode cX6_kind 45 = .ok (.iload 4, 2) := by decide +kernel
theorem dX6_kind_47 : decode cX6_kind 47 = .ok (.invokevirtual 152, 3) := by decide +kernel
theorem dX6_kind_50 : decode cX6_kind 50 = .ok (.aload_n 0, 1) := by decide +kernel
theorem dX6_kind_51 : decode cX6_kind 51 = .ok (.iload_n 2, 1) := by decide +kernel
theorem dX6_kind_52 : decode cX6_kind 52 = .ok (.invokevirtual 200, 3) := by decide +kernel
theorem dX6_kind_55 : decode cX6_kind 55 = .ok (.aload_n 0, 1) := by decide +kernel
theorem dX6_kind_56 : decode cX6_kind 56 = .ok (.iload 4, 2) := by decide +kernel
theorem dX6_kind_58 : decode cX6_kind 58 = .ok (.aload_n 0, 1) := by decide +kernel
theorem dX6_kind_59 : decode cX6_kind 59 = .ok (.getfield 132, 3) := by decide +kernel
theorem dX6_kind_62 : decode cX6_kind 62 = .ok (.ineg, 1) := by decide +kernel
theorem dX6_kind_63 : decode cX6_kind 63 = .ok (.invokevirtual 224, 3) := by decide +kernel
theorem dX6_kind_66 : decode cX6_kind 66 = .ok (.iinc 4 1, 3) := by decide +kernel
theorem dX6_kind_69 : decode cX6_kind 69 = .ok (.goto (-37), 3) := by decide +kernel
theorem dX6_kind_72 : decode cX6_kind 72 = .ok (.aload_n 0, 1) := by decide +kernel
theorem dX6_kind_73 : decode cX6_kind 73 = .ok (.iload_n 3, 1) := by decide +kernel
theorem dX6_kind_74 : decode cX6_kind 74 = .ok (.invokevirtual 227, 3) := by decide +kernel
theorem dX6_kind_77 : decode cX6_kind 77 = .ok (.ireturn, 1) := by decide +kernel
theorem dX6_hold_0 : decode cX6_hold 0 = .ok (.aload_n 0, 1) := by decide +kernel
theorem dX6_hold_1 : decode cX6_hold 1 = .ok (.iload_n 1, 1) := by decide +kernel
theorem dX6_hold_2 : decode cX6_hold 2 = .ok (.invokevirtual 180, 3) := by decide +kernel
theorem dX6_hold_5 : decode cX6_hold 5 = .ok (.ifCond .eq 17, 3) := by decide +kernel
theorem dX6_hold_8 : decode cX6_hold 8 = .ok (.iload_n 2, 1) := by decide +kernel
theorem dX6_hold_9 : decode cX6_hold 9 = .ok (.invokestatic 205, 3) := by decide +kernel
theorem dX6_hold_12 : decode cX6_hold 12 = .ok (.ifCond .eq 10, 3) := by decide +kernel
theorem dX6_hold_15 : decode cX6_hold 15 = .ok (.iload_n 3, 1) := by decide +kernel
theorem dX6_hold_16 : decode cX6_hold 16 = .ok (.invokestatic 218, 3) := by decide +kernel
theorem dX6_hold_19 : decode cX6_hold 19 = .ok (.ifCond .ne 5, 3) := by decide +kernel
theorem dX6_hold_22 : decode cX6_hold 22 = .ok (.iconst (-1), 1) := by decide +kernel
theorem dX6_hold_23 : decode cX6_hold 23 = .ok (.ireturn, 1) := by decide +kernel
theorem dX6_hold_24 : decode cX6_hold 24 = .ok (.aload_n 0, 1) := by decide +kernel
theorem dX6_hold_25 : decode cX6_hold 25 = .ok (.ldc 230, 2) := by decide +kernel
theorem dX6_hold_27 : decode cX6_hold 27 = .ok (.invokevirtual 221, 3) := by decide +kernel
theorem dX6_hold_30 : decode cX6_hold 30 = .ok (.iconst 1, 1) := by decide +kernel
theorem dX6_hold_31 : decode cX6_hold 31 = .ok (.istore 4, 2) := by decide +kernel
theorem dX6_hold_33 : decode cX6_hold 33 = .ok (.iload 4, 2) := by decide +kernel
theorem dX6_hold_35 : decode cX6_hold 35 = .ok (.bipush 9, 2) := by decide +kernel
theorem dX6_hold_37 : decode cX6_hold 37 = .ok (.if_icmp .gt 36, 3) := by decide +kernel
theorem dX6_hold_40 : decode cX6_hold 40 = .ok (.aload_n 0, 1) := by decide +kernel
theorem dX6_hold_41 : decode cX6_hold 41 = .ok (.invokevirtual 174, 3) := by decide +kernel
theorem dX6_hold_44 : decode cX6_hold 44 = .ok (.aload_n 0, 1) := by decide +kernel
theorem dX6_hold_45 : decode cX6_hold 45 = .ok (.iload_n 1, 1) := by decide +kernel
theorem dX6_hold_46 : decode cX6_hold 46 = .ok (.iconst 2, 1) := by decide +kernel
theorem dX6_hold_47 : decode cX6_hold 47 = .ok (.iload 4, 2) := by decide +kernel
theorem dX6_hold_49 : decode cX6_hold 49 = .ok (.invokevirtual 152, 3) := by decide +kernel
theorem dX6_hold_52 : decode cX6_hold 52 = .ok (.aload_n 0, 1) := by decide +kernel
theorem dX6_hold_53 : decode cX6_hold 53 = .ok (.iload_n 2, 1) := by decide +kernel
theorem dX6_hold_54 : decode cX6_hold 54 = .ok (.invokevirtual 200, 3) := by decide +kernel
theorem dX6_hold_57 : decode cX6_hold 57 = .ok (.aload_n 0, 1) := by decide +kernel
theorem dX6_hold_58 : decode cX6_hold 58 = .ok (.iload 4, 2) := by decide +kernel
theorem dX6_hold_60 : decode cX6_hold 60 = .ok (.aload_n 0, 1) := by decide +kernel
theorem dX6_hold_61 : decode cX6_hold 61 = .ok (.getfield 138, 3) := by decide +kernel
theorem dX6_hold_64 : decode cX6_hold 64 = .ok (.invokevirtual 224, 3) := by decide +kernel
theorem dX6_hold_67 : decode cX6_hold 67 = .ok (.iinc 4 1, 3) := by decide +kernel
theorem dX6_hold_70 : decode cX6_hold 70 = .ok (.goto (-37), 3) := by decide +kernel
theorem dX6_hold_73 : decode cX6_hold 73 = .ok (.aload_n 0, 1) := by decide +kernel
theorem dX6_hold_74 : decode cX6_hold 74 = .ok (.iload_n 3, 1) := by decide +kernel
theorem dX6_hold_75 : decode cX6_hold 75 = .ok (.invokevirtual 231, 3) := by decide +kernel
theorem dX6_hold_78 : decode cX6_hold 78 = .ok (.ireturn, 1) := by decide +kernel
theorem dX6_swap_0 : decode cX6_swap 0 = .ok (.iload_n 1, 1) := by decide +kernel
theorem dX6_swap_1 : decode cX6_swap 1 = .ok (.invokestatic 205, 3) := by decide +kernel
theorem dX6_swap_4 : decode cX6_swap 4 = .ok (.ifCond .eq 10, 3) := by decide +kernel
theorem dX6_swap_7 : decode cX6_swap 7 = .ok (.iload_n 2, 1) := by decide +kernel
theorem dX6_swap_8 : decode cX6_swap 8 = .ok (.invokestatic 218, 3) := by decide +kernel
theorem dX6_swap_11 : decode cX6_swap 11 = .ok (.ifCond .ne 5, 3) := by decide +kernel
theorem dX6_swap_14 : decode cX6_swap 14 = .ok (.iconst (-1), 1) := by decide +kernel
theorem dX6_swap_15 : decode cX6_swap 15 = .ok (.ireturn, 1) := by decide +kernel
theorem dX6_swap_16 : decode cX6_swap 16 = .ok (.aload_n 0, 1) := by decide +kernel
theorem dX6_swap_17 : decode cX6_swap 17 = .ok (.invokevirtual 174, 3) := by decide +kernel
theorem dX6_swap_20 : decode cX6_swap 20 = .ok (.aload_n 0, 1) := by decide +kernel
theorem dX6_swap_21 : decode cX6_swap 21 = .ok (.iload_n 1, 1) := by decide +kernel
theorem dX6_swap_22 : decode cX6_swap 22 = .ok (.invokevirtual 200, 3) := by decide +kernel
theorem dX6_swap_25 : decode cX6_swap 25 = .ok (.aload_n 0, 1) := by decide +kernel
theorem dX6_swap_26 : decode cX6_swap 26 = .ok (.aload_n 0, 1) := by decide +kernel
theorem dX6_swap_27 : decode cX6_swap 27 = .ok (.getfield 132, 3) := by decide +kernel
theorem dX6_swap_30 : decode cX6_swap 30 = .ok (.ineg, 1) := by decide +kernel
theorem dX6_swap_31 : decode cX6_swap 31 = .ok (.invokevirtual 221, 3) := by decide +kernel
theorem dX6_swap_34 : decode cX6_swap 34 = .ok (.iconst 0, 1) := by decide +kernel
theorem dX6_swap_35 : decode cX6_swap 35 = .ok (.istore_n 3, 1) := by decide +kernel
theorem dX6_swap_36 : decode cX6_swap 36 = .ok (.iload_n 3, 1) := by decide +kernel
theorem dX6_swap_37 : decode cX6_swap 37 = .ok (.aload_n 0, 1) := by decide +kernel
theorem dX6_swap_38 : decode cX6_swap 38 = .ok (.getfield 7, 3) := by decide +kernel
theorem dX6_swap_41 : decode cX6_swap 41 = .ok (.bipush 35, 2) := by decide +kernel
theorem dX6_swap_43 : decode cX6_swap 43 = .ok (.iaload, 1) := by decide +kernel
theorem dX6_swap_44 : decode cX6_swap 44 = .ok (.if_icmp .ge 64, 3) := by decide +kernel
theorem dX6_swap_47 : decode cX6_swap 47 = .ok (.iload_n 3, 1) := by decide +kernel
theorem dX6_swap_48 : decode cX6_swap 48 = .ok (.iconst 1, 1) := by decide +kernel
theorem dX6_swap_49 : decode cX6_swap 49 = .ok (.iadd, 1) := by decide +kernel
theorem dX6_swap_50 : decode cX6_swap 50 = .ok (.istore 4, 2) := by decide +kernel
theorem dX6_swap_52 : decode cX6_swap 52 = .ok (.iload 4, 2) := by decide +kernel
theorem dX6_swap_54 : decode cX6_swap 54 = .ok (.aload_n 0, 1) := by decide +kernel
theorem dX6_swap_55 : decode cX6_swap 55 = .ok (.getfield 7, 3) := by decide +kernel
theorem dX6_swap_58 : decode cX6_swap 58 = .ok (.bipush 35, 2) := by decide +kernel
theorem dX6_swap_60 : decode cX6_swap 60 = .ok (.iaload, 1) := by decide +kernel
theorem dX6_swap_61 : decode cX6_swap 61 = .ok (.if_icmp .ge 41, 3) := by decide +kernel
theorem dX6_swap_64 : decode cX6_swap 64 = .ok (.aload_n 0, 1) := by decide +kernel
theorem dX6_swap_65 : decode cX6_swap 65 = .ok (.invokevirtual 174, 3) := by decide +kernel
theorem dX6_swap_68 : decode cX6_swap 68 = .ok (.aload_n 0, 1) := by decide +kernel
theorem dX6_swap_69 : decode cX6_swap 69 = .ok (.iload_n 3, 1) := by decide +kernel
theorem dX6_swap_70 : decode cX6_swap 70 = .ok (.iload 4, 2) := by decide +kernel
theorem dX6_swap_72 : decode cX6_swap 72 = .ok (.invokevirtual 195, 3) := by decide +kernel
theorem dX6_swap_75 : decode cX6_swap 75 = .ok (.aload_n 0, 1) := by decide +kernel
theorem dX6_swap_76 : decode cX6_swap 76 = .ok (.iload_n 1, 1) := by decide +kernel
theorem dX6_swap_77 : decode cX6_swap 77 = .ok (.invokevirtual 200, 3) := by decide +kernel
theorem dX6_swap_80 : decode cX6_swap 80 = .ok (.aload_n 0, 1) := by decide +kernel
theorem dX6_swap_81 : decode cX6_swap 81 = .ok (.bipush 10, 2) := by decide +kernel
theorem dX6_swap_83 : decode cX6_swap 83 = .ok (.iload_n 3, 1) := by decide +kernel
theorem dX6_swap_84 : decode cX6_swap 84 = .ok (.imul, 1) := by decide +kernel
theorem dX6_swap_85 : decode cX6_swap 85 = .ok (.iload 4, 2) := by decide +kernel
theorem dX6_swap_87 : decode cX6_swap 87 = .ok (.iadd, 1) := by decide +kernel
theorem dX6_swap_88 : decode cX6_swap 88 = .ok (.aload_n 0, 1) := by decide +kernel
theorem dX6_swap_89 : decode cX6_swap 89 = .ok (.getfield 132, 3) := by decide +kernel
theorem dX6_swap_92 : decode cX6_swap 92 = .ok (.ineg, 1) := by decide +kernel
theorem dX6_swap_93 : decode cX6_swap 93 = .ok (.invokevirtual 224, 3) := by decide +kernel
theorem dX6_swap_96 : decode cX6_swap 96 = .ok (.iinc 4 1, 3) := by decide +kernel
theorem dX6_swap_99 : decode cX6_swap 99 = .ok (.goto (-47), 3) := by decide +kernel
theorem dX6_swap_102 : decode cX6_swap 102 = .ok (.iinc 3 1, 3) := by decide +kernel
theorem dX6_swap_105 : decode cX6_swap 105 = .ok (.goto (-69), 3) := by decide +kernel
theorem dX6_swap_108 : decode cX6_swap 108 = .ok (.aload_n 0, 1) := by decide +kernel
theorem dX6_swap_109 : decode cX6_swap 109 = .ok (.iload_n 2, 1) := by decide +kernel
theorem dX6_swap_110 : decode cX6_swap 110 = .ok (.invokevirtual 227, 3) := by decide +kernel
theorem dX6_swap_113 : decode cX6_swap 113 = .ok (.ireturn, 1) := by decide +kernel
theorem dX6_pass_0 : decode cX6_pass 0 = .ok (.iload_n 1, 1) := by decide +kernel
theorem dX6_pass_1 : decode cX6_pass 1 = .ok (.invokestatic 205, 3) := by decide +kernel
theorem dX6_pass_4 : decode cX6_pass 4 = .ok (.ifCond .eq 10, 3) := by decide +kernel
theorem dX6_pass_7 : decode cX6_pass 7 = .ok (.iload_n 2, 1) := by decide +kernel
theorem dX6_pass_8 : decode cX6_pass 8 = .ok (.invokestatic 218, 3) := by decide +kernel
theorem dX6_pass_11 : decode cX6_pass 11 = .ok (.ifCond .ne 5, 3) := by decide +kernel
theorem dX6_pass_14 : decode cX6_pass 14 = .ok (.iconst (-1), 1) := by decide +kernel
theorem dX6_pass_15 : decode cX6_pass 15 = .ok (.ireturn, 1) := by decide +kernel
theorem dX6_pass_16 : decode cX6_pass 16 = .ok (.aload_n 0, 1) := by decide +kernel
theorem dX6_pass_17 : decode cX6_pass 17 = .ok (.invokevirtual 174, 3) := by decide +kernel
theorem dX6_pass_20 : decode cX6_pass 20 = .ok (.aload_n 0, 1) := by decide +kernel
theorem dX6_pass_21 : decode cX6_pass 21 = .ok (.iload_n 1, 1) := by decide +kernel
theorem dX6_pass_22 : decode cX6_pass 22 = .ok (.invokevirtual 200, 3) := by decide +kernel
theorem dX6_pass_25 : decode cX6_pass 25 = .ok (.aload_n 0, 1) := by decide +kernel
theorem dX6_pass_26 : decode cX6_pass 26 = .ok (.aload_n 0, 1) := by decide +kernel
theorem dX6_pass_27 : decode cX6_pass 27 = .ok (.getfield 138, 3) := by decide +kernel
theorem dX6_pass_30 : decode cX6_pass 30 = .ok (.invokevirtual 221, 3) := by decide +kernel
theorem dX6_pass_33 : decode cX6_pass 33 = .ok (.iconst 0, 1) := by decide +kernel
theorem dX6_pass_34 : decode cX6_pass 34 = .ok (.istore_n 3, 1) := by decide +kernel
theorem dX6_pass_35 : decode cX6_pass 35 = .ok (.iload_n 3, 1) := by decide +kernel
theorem dX6_pass_36 : decode cX6_pass 36 = .ok (.aload_n 0, 1) := by decide +kernel
theorem dX6_pass_37 : decode cX6_pass 37 = .ok (.getfield 7, 3) := by decide +kernel
theorem dX6_pass_40 : decode cX6_pass 40 = .ok (.bipush 35, 2) := by decide +kernel
theorem dX6_pass_42 : decode cX6_pass 42 = .ok (.iaload, 1) := by decide +kernel
theorem dX6_pass_43 : decode cX6_pass 43 = .ok (.if_icmp .ge 32, 3) := by decide +kernel
theorem dX6_pass_46 : decode cX6_pass 46 = .ok (.aload_n 0, 1) := by decide +kernel
theorem dX6_pass_47 : decode cX6_pass 47 = .ok (.invokevirtual 174, 3) := by decide +kernel
theorem dX6_pass_50 : decode cX6_pass 50 = .ok (.aload_n 0, 1) := by decide +kernel
theorem dX6_pass_51 : decode cX6_pass 51 = .ok (.iload_n 3, 1) := by decide +kernel
theorem dX6_pass_52 : decode cX6_pass 52 = .ok (.putfield 129, 3) := by decide +kernel
theorem dX6_pass_55 : decode cX6_pass 55 = .ok (.aload_n 0, 1) := by decide +kernel
theorem dX6_pass_56 : decode cX6_pass 56 = .ok (.iload_n 1, 1) := by decide +kernel
theorem dX6_pass_57 : decode cX6_pass 57 = .ok (.invokevirtual 200, 3) := by decide +kernel
theorem dX6_pass_60 : decode cX6_pass 60 = .ok (.aload_n 0, 1) := by decide +kernel
theorem dX6_pass_61 : decode cX6_pass 61 = .ok (.iload_n 3, 1) := by decide +kernel
theorem dX6_pass_62 : decode cX6_pass 62 = .ok (.aload_n 0, 1) := by decide +kernel
theorem dX6_pass_63 : decode cX6_pass 63 = .ok (.getfield 138, 3) := by decide +kernel
theorem dX6_pass_66 : decode cX6_pass 66 = .ok (.invokevirtual 224, 3) := by decide +kernel
theorem dX6_pass_69 : decode cX6_pass 69 = .ok (.iinc 3 1, 3) := by decide +kernel
theorem dX6_pass_72 : decode cX6_pass 72 = .ok (.goto (-37), 3) := by decide +kernel
theorem dX6_pass_75 : decode cX6_pass 75 = .ok (.aload_n 0, 1) := by decide +kernel
theorem dX6_pass_76 : decode cX6_pass 76 = .ok (.iload_n 2, 1) := by decide +kernel
theorem dX6_pass_77 : decode cX6_pass 77 = .ok (.invokevirtual 231, 3) := by decide +kernel
theorem dX6_pass_80 : decode cX6_pass 80 = .ok (.ireturn, 1) := by decide +kernel
theorem dX6_begin_0 : decode cX6_begin 0 = .ok (.iload_n 1, 1) := by decide +kernel
theorem dX6_begin_1 : decode cX6_begin 1 = .ok (.invokestatic 205, 3) := by decide +kernel
theorem dX6_begin_4 : decode cX6_begin 4 = .ok (.ifCond .eq 10, 3) := by decide +kernel
theorem dX6_begin_7 : decode cX6_begin 7 = .ok (.iload_n 2, 1) := by decide +kernel
theorem dX6_begin_8 : decode cX6_begin 8 = .ok (.invokestatic 218, 3) := by decide +kernel
theorem dX6_begin_11 : decode cX6_begin 11 = .ok (.ifCond .ne 5, 3) := by decide +kernel
theorem dX6_begin_14 : decode cX6_begin 14 = .ok (.iconst (-1), 1) := by decide +kernel
theorem dX6_begin_15 : decode cX6_begin 15 = .ok (.ireturn, 1) := by decide +kernel
theorem dX6_begin_16 : decode cX6_begin 16 = .ok (.aload_n 0, 1) := by decide +kernel
theorem dX6_begin_17 : decode cX6_begin 17 = .ok (.ldc 230, 2) := by decide +kernel
theorem dX6_begin_19 : decode cX6_begin 19 = .ok (.invokevirtual 221, 3) := by decide +kernel
theorem dX6_begin_22 : decode cX6_begin 22 = .ok (.iconst 0, 1) := by decide +kernel
theorem dX6_begin_23 : decode cX6_begin 23 = .ok (.istore_n 3, 1) := by decide +kernel
theorem dX6_begin_24 : decode cX6_begin 24 = .ok (.iload_n 3, 1) := by decide +kernel
theorem dX6_begin_25 : decode cX6_begin 25 = .ok (.aload_n 0, 1) := by decide +kernel
theorem dX6_begin_26 : decode cX6_begin 26 = .ok (.getfield 7, 3) := by decide +kernel
theorem dX6_begin_29 : decode cX6_begin 29 = .ok (.bipush 35, 2) := by decide +kernel
theorem dX6_begin_31 : decode cX6_begin 31 = .ok (.iaload, 1) := by decide +kernel
theorem dX6_begin_32 : decode cX6_begin 32 = .ok (.if_icmp .ge 35, 3) := by decide +kernel
theorem dX6_begin_35 : decode cX6_begin 35 = .ok (.aload_n 0, 1) := by decide +kernel
theorem dX6_begin_36 : decode cX6_begin 36 = .ok (.invokevirtual 174, 3) := by decide +kernel
theorem dX6_begin_39 : decode cX6_begin 39 = .ok (.aload_n 0, 1) := by decide +kernel
theorem dX6_begin_40 : decode cX6_begin 40 = .ok (.getfield 13, 3) := by decide +kernel
theorem dX6_begin_43 : decode cX6_begin 43 = .ok (.bipush 36, 2) := by decide +kernel
theorem dX6_begin_45 : decode cX6_begin 45 = .ok (.iload_n 3, 1) := by decide +kernel
theorem dX6_begin_46 : decode cX6_begin 46 = .ok (.iastore, 1) := by decide +kernel
theorem dX6_begin_47 : decode cX6_begin 47 = .ok (.aload_n 0, 1) := by decide +kernel
theorem dX6_begin_48 : decode cX6_begin 48 = .ok (.iload_n 1, 1) := by decide +kernel
theorem dX6_begin_49 : decode cX6_begin 49 = .ok (.invokevirtual 200, 3) := by decide +kernel
theorem dX6_begin_52 : decode cX6_begin 52 = .ok (.aload_n 0, 1) := by decide +kernel
theorem dX6_begin_53 : decode cX6_begin 53 = .ok (.iload_n 3, 1) := by decide +kernel
theorem dX6_begin_54 : decode cX6_begin 54 = .ok (.aload_n 0, 1) := by decide +kernel
theorem dX6_begin_55 : decode cX6_begin 55 = .ok (.getfield 135, 3) := by decide +kernel
theorem dX6_begin_58 : decode cX6_begin 58 = .ok (.invokevirtual 224, 3) := by decide +kernel
theorem dX6_begin_61 : decode cX6_begin 61 = .ok (.iinc 3 1, 3) := by decide +kernel
theorem dX6_begin_64 : decode cX6_begin 64 = .ok (.goto (-40), 3) := by decide +kernel
theorem dX6_begin_67 : decode cX6_begin 67 = .ok (.aload_n 0, 1) := by decide +kernel
theorem dX6_begin_68 : decode cX6_begin 68 = .ok (.iload_n 2, 1) := by decide +kernel
theorem dX6_begin_69 : decode cX6_begin 69 = .ok (.invokevirtual 231, 3) := by decide +kernel
theorem dX6_begin_72 : decode cX6_begin 72 = .ok (.ireturn, 1) := by decide +kernel
theorem dX6_common_0 : decode cX6_common 0 = .ok (.lload_n 0, 1) := by decide +kernel
theorem dX6_common_1 : decode cX6_common 1 = .ok (.lstore 4, 2) := by decide +kernel
theorem dX6_common_3 : decode cX6_common 3 = .ok (.lload_n 2, 1) := by decide +kernel
theorem dX6_common_4 : decode cX6_common 4 = .ok (.lstore 6, 2) := by decide +kernel
theorem dX6_common_6 : decode cX6_common 6 = .ok (.lload 6, 2) := by decide +kernel
theorem dX6_common_8 : decode cX6_common 8 = .ok (.lconst 0, 1) := by decide +kernel
theorem dX6_common_9 : decode cX6_common 9 = .ok (.lcmp, 1) := by decide +kernel
theorem dX6_common_10 : decode cX6_common 10 = .ok (.ifCond .eq 21, 3) := by decide +kernel
theorem dX6_common_13 : decode cX6_common 13 = .ok (.lload 4, 2) := by decide +kernel
theorem dX6_common_15 : decode cX6_common 15 = .ok (.lload 6, 2) := by decide +kernel
theorem dX6_common_17 : decode cX6_common 17 = .ok (.lrem, 1) := by decide +kernel
theorem dX6_common_18 : decode cX6_common 18 = .ok (.lstore 8, 2) := by decide +kernel
theorem dX6_common_20 : decode cX6_common 20 = .ok (.lload 6, 2) := by decide +kernel
theorem dX6_common_22 : decode cX6_common 22 = .ok (.lstore 4, 2) := by decide +kernel
theorem dX6_common_24 : decode cX6_common 24 = .ok (.lload 8, 2) := by decide +kernel
theorem dX6_common_26 : decode cX6_common 26 = .ok (.lstore 6, 2) := by decide +kernel
theorem dX6_common_28 : decode cX6_common 28 = .ok (.goto (-22), 3) := by decide +kernel
theorem dX6_common_31 : decode cX6_common 31 = .ok (.lload 4, 2) := by decide +kernel
theorem dX6_common_33 : decode cX6_common 33 = .ok (.lreturn, 1) := by decide +kernel
theorem dX6_lowest_0 : decode cX6_lowest 0 = .ok (.lload_n 2, 1) := by decide +kernel
theorem dX6_lowest_1 : decode cX6_lowest 1 = .ok (.lload_n 0, 1) := by decide +kernel
theorem dX6_lowest_2 : decode cX6_lowest 2 = .ok (.invokestatic 234, 3) := by decide +kernel
theorem dX6_lowest_5 : decode cX6_lowest 5 = .ok (.lstore 5, 2) := by decide +kernel
theorem dX6_lowest_7 : decode cX6_lowest 7 = .ok (.iload 4, 2) := by decide +kernel
theorem dX6_lowest_9 : decode cX6_lowest 9 = .ok (.ifCond .ne 10, 3) := by decide +kernel
theorem dX6_lowest_12 : decode cX6_lowest 12 = .ok (.lload_n 0, 1) := by decide +kernel
theorem dX6_lowest_13 : decode cX6_lowest 13 = .ok (.lload 5, 2) := by decide +kernel
theorem dX6_lowest_15 : decode cX6_lowest 15 = .ok (.ldiv, 1) := by decide +kernel
theorem dX6_lowest_16 : decode cX6_lowest 16 = .ok (.goto 7, 3) := by decide +kernel
theorem dX6_lowest_19 : decode cX6_lowest 19 = .ok (.lload_n 2, 1) := by decide +kernel
theorem dX6_lowest_20 : decode cX6_lowest 20 = .ok (.lload 5, 2) := by decide +kernel
theorem dX6_lowest_22 : decode cX6_lowest 22 = .ok (.ldiv, 1) := by decide +kernel
theorem dX6_lowest_23 : decode cX6_lowest 23 = .ok (.lreturn, 1) := by decide +kernel
theorem dX6_findOdds_0 : decode cX6_findOdds 0 = .ok (.aload_n 0, 1) := by decide +kernel
theorem dX6_findOdds_1 : decode cX6_findOdds 1 = .ok (.lconst 0, 1) := by decide +kernel
theorem dX6_findOdds_2 : decode cX6_findOdds 2 = .ok (.putfield 238, 3) := by decide +kernel
theorem dX6_findOdds_5 : decode cX6_findOdds 5 = .ok (.aload_n 0, 1) := by decide +kernel
theorem dX6_findOdds_6 : decode cX6_findOdds 6 = .ok (.lconst 0, 1) := by decide +kernel
theorem dX6_findOdds_7 : decode cX6_findOdds 7 = .ok (.putfield 242, 3) := by decide +kernel
theorem dX6_findOdds_10 : decode cX6_findOdds 10 = .ok (.aload_n 0, 1) := by decide +kernel
theorem dX6_findOdds_11 : decode cX6_findOdds 11 = .ok (.lconst 1, 1) := by decide +kernel
theorem dX6_findOdds_12 : decode cX6_findOdds 12 = .ok (.putfield 245, 3) := by decide +kernel
theorem dX6_findOdds_15 : decode cX6_findOdds 15 = .ok (.iconst 0, 1) := by decide +kernel
theorem dX6_findOdds_16 : decode cX6_findOdds 16 = .ok (.istore 5, 2) := by decide +kernel
theorem dX6_findOdds_18 : decode cX6_findOdds 18 = .ok (.iload 5, 2) := by decide +kernel
theorem dX6_findOdds_20 : decode cX6_findOdds 20 = .ok (.iload_n 3, 1) := by decide +kernel
theorem dX6_findOdds_21 : decode cX6_findOdds 21 = .ok (.if_icmp .ge 21, 3) := by decide +kernel
theorem dX6_findOdds_24 : decode cX6_findOdds 24 = .ok (.aload_n 0, 1) := by decide +kernel
theorem dX6_findOdds_25 : decode cX6_findOdds 25 = .ok (.dup, 1) := by decide +kernel
theorem dX6_findOdds_26 : decode cX6_findOdds 26 = .ok (.getfield 245, 3) := by decide +kernel
theorem dX6_findOdds_29 : decode cX6_findOdds 29 = .ok (.ldc2_w 248, 3) := by decide +kernel
theorem dX6_findOdds_32 : decode cX6_findOdds 32 = .ok (.lmul, 1) := by decide +kernel
theorem dX6_findOdds_33 : decode cX6_findOdds 33 = .ok (.putfield 245, 3) := by decide +kernel
theorem dX6_findOdds_36 : decode cX6_findOdds 36 = .ok (.iinc 5 1, 3) := by decide +kernel
theorem dX6_findOdds_39 : decode cX6_findOdds 39 = .ok (.goto (-21), 3) := by decide +kernel
theorem dX6_findOdds_42 : decode cX6_findOdds 42 = .ok (.iconst 0, 1) := by decide +kernel
theorem dX6_findOdds_43 : decode cX6_findOdds 43 = .ok (.istore 5, 2) := by decide +kernel
theorem dX6_findOdds_45 : decode cX6_findOdds 45 = .ok (.iload 5, 2) := by decide +kernel
theorem dX6_findOdds_47 : decode cX6_findOdds 47 = .ok (.iconst 1, 1) := by decide +kernel
theorem dX6_findOdds_48 : decode cX6_findOdds 48 = .ok (.iload_n 3, 1) := by decide +kernel
theorem dX6_findOdds_49 : decode cX6_findOdds 49 = .ok (.ishl, 1) := by decide +kernel
theorem dX6_findOdds_50 : decode cX6_findOdds 50 = .ok (.if_icmp .ge 124, 3) := by decide +kernel
theorem dX6_findOdds_53 : decode cX6_findOdds 53 = .ok (.lconst 1, 1) := by decide +kernel
theorem dX6_findOdds_54 : decode cX6_findOdds 54 = .ok (.lstore 6, 2) := by decide +kernel
theorem dX6_findOdds_56 : decode cX6_findOdds 56 = .ok (.aload_n 0, 1) := by decide +kernel
theorem dX6_findOdds_57 : decode cX6_findOdds 57 = .ok (.invokevirtual 174, 3) := by decide +kernel
theorem dX6_findOdds_60 : decode cX6_findOdds 60 = .ok (.iconst 0, 1) := by decide +kernel
theorem dX6_findOdds_61 : decode cX6_findOdds 61 = .ok (.istore 8, 2) := by decide +kernel
theorem dX6_findOdds_63 : decode cX6_findOdds 63 = .ok (.iload 8, 2) := by decide +kernel
theorem dX6_findOdds_65 : decode cX6_findOdds 65 = .ok (.iload_n 3, 1) := by decide +kernel
theorem dX6_findOdds_66 : decode cX6_findOdds 66 = .ok (.if_icmp .ge 53, 3) := by decide +kernel
theorem dX6_findOdds_69 : decode cX6_findOdds 69 = .ok (.iload 5, 2) := by decide +kernel
theorem dX6_findOdds_71 : decode cX6_findOdds 71 = .ok (.iload 8, 2) := by decide +kernel
theorem dX6_findOdds_73 : decode cX6_findOdds 73 = .ok (.ishr, 1) := by decide +kernel
theorem dX6_findOdds_74 : decode cX6_findOdds 74 = .ok (.iconst 1, 1) := by decide +kernel
theorem dX6_findOdds_75 : decode cX6_findOdds 75 = .ok (.iand, 1) := by decide +kernel
theorem dX6_findOdds_76 : decode cX6_findOdds 76 = .ok (.iconst 1, 1) := by decide +kernel
theorem dX6_findOdds_77 : decode cX6_findOdds 77 = .ok (.if_icmp .ne 7, 3) := by decide +kernel
theorem dX6_findOdds_80 : decode cX6_findOdds 80 = .ok (.iconst 1, 1) := by decide +kernel
theorem dX6_findOdds_81 : decode cX6_findOdds 81 = .ok (.goto 4, 3) := by decide +kernel
theorem dX6_findOdds_84 : decode cX6_findOdds 84 = .ok (.iconst 0, 1) := by decide +kernel
theorem dX6_findOdds_85 : decode cX6_findOdds 85 = .ok (.istore 9, 2) := by decide +kernel
theorem dX6_findOdds_87 : decode cX6_findOdds 87 = .ok (.lload 6, 2) := by decide +kernel
theorem dX6_findOdds_89 : decode cX6_findOdds 89 = .ok (.iload 9, 2) := by decide +kernel
theorem dX6_findOdds_91 : decode cX6_findOdds 91 = .ok (.ifCond .eq 8, 3) := by decide +kernel
theorem dX6_findOdds_94 : decode cX6_findOdds 94 = .ok (.iload_n 1, 1) := by decide +kernel
theorem dX6_findOdds_95 : decode cX6_findOdds 95 = .ok (.i2l, 1) := by decide +kernel
theorem dX6_findOdds_96 : decode cX6_findOdds 96 = .ok (.goto 8, 3) := by decide +kernel
theorem dX6_findOdds_99 : decode cX6_findOdds 99 = .ok (.bipush 10, 2) := by decide +kernel
theorem dX6_findOdds_101 : decode cX6_findOdds 101 = .ok (.iload_n 1, 1) := by decide +kernel
theorem dX6_findOdds_102 : decode cX6_findOdds 102 = .ok (.isub, 1) := by decide +kernel
theorem dX6_findOdds_103 : decode cX6_findOdds 103 = .ok (.i2l, 1) := by decide +kernel
theorem dX6_findOdds_104 : decode cX6_findOdds 104 = .ok (.lmul, 1) := by decide +kernel
theorem dX6_findOdds_105 : decode cX6_findOdds 105 = .ok (.lstore 6, 2) := by decide +kernel
theorem dX6_findOdds_107 : decode cX6_findOdds 107 = .ok (.aload_n 0, 1) := by decide +kernel
theorem dX6_findOdds_108 : decode cX6_findOdds 108 = .ok (.iload 9, 2) := by decide +kernel
theorem dX6_findOdds_110 : decode cX6_findOdds 110 = .ok (.invokevirtual 170, 3) := by decide +kernel
theorem dX6_findOdds_113 : decode cX6_findOdds 113 = .ok (.iinc 8 1, 3) := by decide +kernel
theorem dX6_findOdds_116 : decode cX6_findOdds 116 = .ok (.goto (-53), 3) := by decide +kernel
theorem dX6_findOdds_119 : decode cX6_findOdds 119 = .ok (.aload_n 0, 1) := by decide +kernel
theorem dX6_findOdds_120 : decode cX6_findOdds 120 = .ok (.dup, 1) := by decide +kernel
theorem dX6_findOdds_121 : decode cX6_findOdds 121 = .ok (.getfield 238, 3) := by decide +kernel
theorem dX6_findOdds_124 : decode cX6_findOdds 124 = .ok (.iload_n 2, 1) := by decide +kernel
theorem dX6_findOdds_125 : decode cX6_findOdds 125 = .ok (.bipush (-4), 2) := by decide +kernel
theorem dX6_findOdds_127 : decode cX6_findOdds 127 = .ok (.if_icmp .eq 19, 3) := by decide +kernel
theorem dX6_findOdds_130 : decode cX6_findOdds 130 = .ok (.aload_n 0, 1) := by decide +kernel
theorem dX6_findOdds_131 : decode cX6_findOdds 131 = .ok (.iload_n 2, 1) := by decide +kernel
theorem dX6_findOdds_132 : decode cX6_findOdds 132 = .ok (.iconst 1, 1) := by decide +kernel
theorem dX6_findOdds_133 : decode cX6_findOdds 133 = .ok (.invokevirtual 145, 3) := by decide +kernel
theorem dX6_findOdds_136 : decode cX6_findOdds 136 = .ok (.iload 4, 2) := by decide +kernel
theorem dX6_findOdds_138 : decode cX6_findOdds 138 = .ok (.if_icmp .gt 8, 3) := by decide +kernel
theorem dX6_findOdds_141 : decode cX6_findOdds 141 = .ok (.lload 6, 2) := by decide +kernel
theorem dX6_findOdds_143 : decode cX6_findOdds 143 = .ok (.goto 4, 3) := by decide +kernel
theorem dX6_findOdds_146 : decode cX6_findOdds 146 = .ok (.lconst 0, 1) := by decide +kernel
theorem dX6_findOdds_147 : decode cX6_findOdds 147 = .ok (.ladd, 1) := by decide +kernel
theorem dX6_findOdds_148 : decode cX6_findOdds 148 = .ok (.putfield 238, 3) := by decide +kernel
theorem dX6_findOdds_151 : decode cX6_findOdds 151 = .ok (.aload_n 0, 1) := by decide +kernel
theorem dX6_findOdds_152 : decode cX6_findOdds 152 = .ok (.dup, 1) := by decide +kernel
theorem dX6_findOdds_153 : decode cX6_findOdds 153 = .ok (.getfield 242, 3) := by decide +kernel
theorem dX6_findOdds_156 : decode cX6_findOdds 156 = .ok (.lload 6, 2) := by decide +kernel
theorem dX6_findOdds_158 : decode cX6_findOdds 158 = .ok (.aload_n 0, 1) := by decide +kernel
theorem dX6_findOdds_159 : decode cX6_findOdds 159 = .ok (.getfield 132, 3) := by decide +kernel
theorem dX6_findOdds_162 : decode cX6_findOdds 162 = .ok (.i2l, 1) := by decide +kernel
theorem dX6_findOdds_163 : decode cX6_findOdds 163 = .ok (.lmul, 1) := by decide +kernel
theorem dX6_findOdds_164 : decode cX6_findOdds 164 = .ok (.ladd, 1) := by decide +kernel
theorem dX6_findOdds_165 : decode cX6_findOdds 165 = .ok (.putfield 242, 3) := by decide +kernel
theorem dX6_findOdds_168 : decode cX6_findOdds 168 = .ok (.iinc 5 1, 3) := by decide +kernel
theorem dX6_findOdds_171 : decode cX6_findOdds 171 = .ok (.goto (-126), 3) := by decide +kernel
theorem dX6_findOdds_174 : decode cX6_findOdds 174 = .ok (.return_, 1) := by decide +kernel
theorem dX6_luck_0 : decode cX6_luck 0 = .ok (.iload_n 1, 1) := by decide +kernel
theorem dX6_luck_1 : decode cX6_luck 1 = .ok (.i2l, 1) := by decide +kernel
theorem dX6_luck_2 : decode cX6_luck 2 = .ok (.lconst 0, 1) := by decide +kernel
theorem dX6_luck_3 : decode cX6_luck 3 = .ok (.ldc2_w 248, 3) := by decide +kernel
theorem dX6_luck_6 : decode cX6_luck 6 = .ok (.invokestatic 59, 3) := by decide +kernel
theorem dX6_luck_9 : decode cX6_luck 9 = .ok (.ifCond .eq 44, 3) := by decide +kernel
theorem dX6_luck_12 : decode cX6_luck 12 = .ok (.aload_n 0, 1) := by decide +kernel
theorem dX6_luck_13 : decode cX6_luck 13 = .ok (.iload_n 2, 1) := by decide +kernel
theorem dX6_luck_14 : decode cX6_luck 14 = .ok (.invokevirtual 180, 3) := by decide +kernel
theorem dX6_luck_17 : decode cX6_luck 17 = .ok (.ifCond .eq 36, 3) := by decide +kernel
theorem dX6_luck_20 : decode cX6_luck 20 = .ok (.iload_n 3, 1) := by decide +kernel
theorem dX6_luck_21 : decode cX6_luck 21 = .ok (.i2l, 1) := by decide +kernel
theorem dX6_luck_22 : decode cX6_luck 22 = .ok (.lconst 0, 1) := by decide +kernel
theorem dX6_luck_23 : decode cX6_luck 23 = .ok (.ldc2_w 250, 3) := by decide +kernel
theorem dX6_luck_26 : decode cX6_luck 26 = .ok (.invokestatic 59, 3) := by decide +kernel
theorem dX6_luck_29 : decode cX6_luck 29 = .ok (.ifCond .eq 24, 3) := by decide +kernel
theorem dX6_luck_32 : decode cX6_luck 32 = .ok (.iload 4, 2) := by decide +kernel
theorem dX6_luck_34 : decode cX6_luck 34 = .ok (.i2l, 1) := by decide +kernel
theorem dX6_luck_35 : decode cX6_luck 35 = .ok (.lconst 0, 1) := by decide +kernel
theorem dX6_luck_36 : decode cX6_luck 36 = .ok (.ldc2_w 190, 3) := by decide +kernel
theorem dX6_luck_39 : decode cX6_luck 39 = .ok (.invokestatic 59, 3) := by decide +kernel
theorem dX6_luck_42 : decode cX6_luck 42 = .ok (.ifCond .eq 11, 3) := by decide +kernel
theorem dX6_luck_45 : decode cX6_luck 45 = .ok (.iload 5, 2) := by decide +kernel
theorem dX6_luck_47 : decode cX6_luck 47 = .ok (.invokestatic 218, 3) := by decide +kernel
theorem dX6_luck_50 : decode cX6_luck 50 = .ok (.ifCond .ne 7, 3) := by decide +kernel
theorem dX6_luck_53 : decode cX6_luck 53 = .ok (.ldc2_w 252, 3) := by decide +kernel
theorem dX6_luck_56 : decode cX6_luck 56 = .ok (.lreturn, 1) := by decide +kernel
theorem dX6_luck_57 : decode cX6_luck 57 = .ok (.aload_n 0, 1) := by decide +kernel
theorem dX6_luck_58 : decode cX6_luck 58 = .ok (.iload_n 1, 1) := by decide +kernel
theorem dX6_luck_59 : decode cX6_luck 59 = .ok (.iload_n 2, 1) := by decide +kernel
theorem dX6_luck_60 : decode cX6_luck 60 = .ok (.iload_n 3, 1) := by decide +kernel
theorem dX6_luck_61 : decode cX6_luck 61 = .ok (.iload 4, 2) := by decide +kernel
theorem dX6_luck_63 : decode cX6_luck 63 = .ok (.invokevirtual 254, 3) := by decide +kernel
theorem dX6_luck_66 : decode cX6_luck 66 = .ok (.aload_n 0, 1) := by decide +kernel
theorem dX6_luck_67 : decode cX6_luck 67 = .ok (.getfield 238, 3) := by decide +kernel
theorem dX6_luck_70 : decode cX6_luck 70 = .ok (.aload_n 0, 1) := by decide +kernel
theorem dX6_luck_71 : decode cX6_luck 71 = .ok (.getfield 245, 3) := by decide +kernel
theorem dX6_luck_74 : decode cX6_luck 74 = .ok (.iload 5, 2) := by decide +kernel
theorem dX6_luck_76 : decode cX6_luck 76 = .ok (.invokestatic 258, 3) := by decide +kernel
theorem dX6_luck_79 : decode cX6_luck 79 = .ok (.lreturn, 1) := by decide +kernel
theorem dX6_mean_0 : decode cX6_mean 0 = .ok (.iload_n 1, 1) := by decide +kernel
theorem dX6_mean_1 : decode cX6_mean 1 = .ok (.i2l, 1) := by decide +kernel
theorem dX6_mean_2 : decode cX6_mean 2 = .ok (.lconst 0, 1) := by decide +kernel
theorem dX6_mean_3 : decode cX6_mean 3 = .ok (.ldc2_w 248, 3) := by decide +kernel
theorem dX6_mean_6 : decode cX6_mean 6 = .ok (.invokestatic 59, 3) := by decide +kernel
theorem dX6_mean_9 : decode cX6_mean 9 = .ok (.ifCond .eq 22, 3) := by decide +kernel
theorem dX6_mean_12 : decode cX6_mean 12 = .ok (.iload_n 2, 1) := by decide +kernel
theorem dX6_mean_13 : decode cX6_mean 13 = .ok (.i2l, 1) := by decide +kernel
theorem dX6_mean_14 : decode cX6_mean 14 = .ok (.lconst 0, 1) := by decide +kernel
theorem dX6_mean_15 : decode cX6_mean 15 = .ok (.ldc2_w 250, 3) := by decide +kernel
theorem dX6_mean_18 : decode cX6_mean 18 = .ok (.invokestatic 59, 3) := by decide +kernel
theorem dX6_mean_21 : decode cX6_mean 21 = .ok (.ifCond .eq 10, 3) := by decide +kernel
theorem dX6_mean_24 : decode cX6_mean 24 = .ok (.iload_n 3, 1) := by decide +kernel
theorem dX6_mean_25 : decode cX6_mean 25 = .ok (.invokestatic 218, 3) := by decide +kernel
theorem dX6_mean_28 : decode cX6_mean 28 = .ok (.ifCond .ne 7, 3) := by decide +kernel
theorem dX6_mean_31 : decode cX6_mean 31 = .ok (.ldc2_w 252, 3) := by decide +kernel
theorem dX6_mean_34 : decode cX6_mean 34 = .ok (.lreturn, 1) := by decide +kernel
theorem dX6_mean_35 : decode cX6_mean 35 = .ok (.aload_n 0, 1) := by decide +kernel
theorem dX6_mean_36 : decode cX6_mean 36 = .ok (.iload_n 1, 1) := by decide +kernel
theorem dX6_mean_37 : decode cX6_mean 37 = .ok (.bipush (-4), 2) := by decide +kernel
theorem dX6_mean_39 : decode cX6_mean 39 = .ok (.iload_n 2, 1) := by decide +kernel
theorem dX6_mean_40 : decode cX6_mean 40 = .ok (.iconst 0, 1) := by decide +kernel
theorem dX6_mean_41 : decode cX6_mean 41 = .ok (.invokevirtual 254, 3) := by decide +kernel
theorem dX6_mean_44 : decode cX6_mean 44 = .ok (.aload_n 0, 1) := by decide +kernel
theorem dX6_mean_45 : decode cX6_mean 45 = .ok (.getfield 242, 3) := by decide +kernel
theorem dX6_mean_48 : decode cX6_mean 48 = .ok (.aload_n 0, 1) := by decide +kernel
theorem dX6_mean_49 : decode cX6_mean 49 = .ok (.getfield 245, 3) := by decide +kernel
theorem dX6_mean_52 : decode cX6_mean 52 = .ok (.iload_n 3, 1) := by decide +kernel
theorem dX6_mean_53 : decode cX6_mean 53 = .ok (.invokestatic 258, 3) := by decide +kernel
theorem dX6_mean_56 : decode cX6_mean 56 = .ok (.lreturn, 1) := by decide +kernel
theorem dX6_see_0 : decode cX6_see 0 = .ok (.iload_n 1, 1) := by decide +kernel
theorem dX6_see_1 : decode cX6_see 1 = .ok (.i2l, 1) := by decide +kernel
theorem dX6_see_2 : decode cX6_see 2 = .ok (.lconst 0, 1) := by decide +kernel
theorem dX6_see_3 : decode cX6_see 3 = .ok (.ldc2_w 262, 3) := by decide +kernel
theorem dX6_see_6 : decode cX6_see 6 = .ok (.invokestatic 59, 3) := by decide +kernel
theorem dX6_see_9 : decode cX6_see 9 = .ok (.ifCond .eq 23, 3) := by decide +kernel
theorem dX6_see_12 : decode cX6_see 12 = .ok (.aload_n 0, 1) := by decide +kernel
theorem dX6_see_13 : decode cX6_see 13 = .ok (.iload_n 2, 1) := by decide +kernel
theorem dX6_see_14 : decode cX6_see 14 = .ok (.invokevirtual 180, 3) := by decide +kernel
theorem dX6_see_17 : decode cX6_see 17 = .ok (.ifCond .eq 15, 3) := by decide +kernel
theorem dX6_see_20 : decode cX6_see 20 = .ok (.iload_n 3, 1) := by decide +kernel
theorem dX6_see_21 : decode cX6_see 21 = .ok (.i2l, 1) := by decide +kernel
theorem dX6_see_22 : decode cX6_see 22 = .ok (.lconst 0, 1) := by decide +kernel
theorem dX6_see_23 : decode cX6_see 23 = .ok (.ldc2_w 190, 3) := by decide +kernel
theorem dX6_see_26 : decode cX6_see 26 = .ok (.invokestatic 59, 3) := by decide +kernel
theorem dX6_see_29 : decode cX6_see 29 = .ok (.ifCond .ne 5, 3) := by decide +kernel
theorem dX6_see_32 : decode cX6_see 32 = .ok (.iconst (-1), 1) := by decide +kernel
theorem dX6_see_33 : decode cX6_see 33 = .ok (.ireturn, 1) := by decide +kernel
theorem dX6_see_34 : decode cX6_see 34 = .ok (.aload_n 0, 1) := by decide +kernel
theorem dX6_see_35 : decode cX6_see 35 = .ok (.getfield 7, 3) := by decide +kernel
theorem dX6_see_38 : decode cX6_see 38 = .ok (.bipush 41, 2) := by decide +kernel
theorem dX6_see_40 : decode cX6_see 40 = .ok (.iaload, 1) := by decide +kernel
theorem dX6_see_41 : decode cX6_see 41 = .ok (.bipush 6, 2) := by decide +kernel
theorem dX6_see_43 : decode cX6_see 43 = .ok (.if_icmp .ne 6, 3) := by decide +kernel
theorem dX6_see_46 : decode cX6_see 46 = .ok (.bipush (-3), 2) := by decide +kernel
theorem dX6_see_48 : decode cX6_see 48 = .ok (.ireturn, 1) := by decide +kernel
theorem dX6_see_49 : decode cX6_see 49 = .ok (.bipush 42, 2) := by decide +kernel
theorem dX6_see_51 : decode cX6_see 51 = .ok (.iconst 3, 1) := by decide +kernel
theorem dX6_see_52 : decode cX6_see 52 = .ok (.aload_n 0, 1) := by decide +kernel
theorem dX6_see_53 : decode cX6_see 53 = .ok (.getfield 7, 3) := by decide +kernel
theorem dX6_see_56 : decode cX6_see 56 = .ok (.bipush 41, 2) := by decide +kernel
theorem dX6_see_58 : decode cX6_see 58 = .ok (.iaload, 1) := by decide +kernel
theorem dX6_see_59 : decode cX6_see 59 = .ok (.imul, 1) := by decide +kernel
theorem dX6_see_60 : decode cX6_see 60 = .ok (.iadd, 1) := by decide +kernel
theorem dX6_see_61 : decode cX6_see 61 = .ok (.istore 4, 2) := by decide +kernel
theorem dX6_see_63 : decode cX6_see 63 = .ok (.aload_n 0, 1) := by decide +kernel
theorem dX6_see_64 : decode cX6_see 64 = .ok (.getfield 7, 3) := by decide +kernel
theorem dX6_see_67 : decode cX6_see 67 = .ok (.iload 4, 2) := by decide +kernel
theorem dX6_see_69 : decode cX6_see 69 = .ok (.iload_n 1, 1) := by decide +kernel
theorem dX6_see_70 : decode cX6_see 70 = .ok (.iastore, 1) := by decide +kernel
theorem dX6_see_71 : decode cX6_see 71 = .ok (.aload_n 0, 1) := by decide +kernel
theorem dX6_see_72 : decode cX6_see 72 = .ok (.getfield 7, 3) := by decide +kernel
theorem dX6_see_75 : decode cX6_see 75 = .ok (.iload 4, 2) := by decide +kernel
theorem dX6_see_77 : decode cX6_see 77 = .ok (.iconst 1, 1) := by decide +kernel
theorem dX6_see_78 : decode cX6_see 78 = .ok (.iadd, 1) := by decide +kernel
theorem dX6_see_79 : decode cX6_see 79 = .ok (.iload_n 2, 1) := by decide +kernel
theorem dX6_see_80 : decode cX6_see 80 = .ok (.iastore, 1) := by decide +kernel
theorem dX6_see_81 : decode cX6_see 81 = .ok (.aload_n 0, 1) := by decide +kernel
theorem dX6_see_82 : decode cX6_see 82 = .ok (.getfield 7, 3) := by decide +kernel
theorem dX6_see_85 : decode cX6_see 85 = .ok (.iload 4, 2) := by decide +kernel
theorem dX6_see_87 : decode cX6_see 87 = .ok (.iconst 2, 1) := by decide +kernel
theorem dX6_see_88 : decode cX6_see 88 = .ok (.iadd, 1) := by decide +kernel
theorem dX6_see_89 : decode cX6_see 89 = .ok (.iload_n 3, 1) := by decide +kernel
theorem dX6_see_90 : decode cX6_see 90 = .ok (.iastore, 1) := by decide +kernel
theorem dX6_see_91 : decode cX6_see 91 = .ok (.aload_n 0, 1) := by decide +kernel
theorem dX6_see_92 : decode cX6_see 92 = .ok (.getfield 7, 3) := by decide +kernel
theorem dX6_see_95 : decode cX6_see 95 = .ok (.bipush 41, 2) := by decide +kernel
theorem dX6_see_97 : decode cX6_see 97 = .ok (.dup2, 1) := by decide +kernel
theorem dX6_see_98 : decode cX6_see 98 = .ok (.iaload, 1) := by decide +kernel
theorem dX6_see_99 : decode cX6_see 99 = .ok (.iconst 1, 1) := by decide +kernel
theorem dX6_see_100 : decode cX6_see 100 = .ok (.iadd, 1) := by decide +kernel
theorem dX6_see_101 : decode cX6_see 101 = .ok (.iastore, 1) := by decide +kernel
theorem dX6_see_102 : decode cX6_see 102 = .ok (.aload_n 0, 1) := by decide +kernel
theorem dX6_see_103 : decode cX6_see 103 = .ok (.getfield 7, 3) := by decide +kernel
theorem dX6_see_106 : decode cX6_see 106 = .ok (.bipush 41, 2) := by decide +kernel
theorem dX6_see_108 : decode cX6_see 108 = .ok (.iaload, 1) := by decide +kernel
theorem dX6_see_109 : decode cX6_see 109 = .ok (.ireturn, 1) := by decide +kernel
theorem dX6_forget_0 : decode cX6_forget 0 = .ok (.iload_n 1, 1) := by decide +kernel
theorem dX6_forget_1 : decode cX6_forget 1 = .ok (.i2l, 1) := by decide +kernel
theorem dX6_forget_2 : decode cX6_forget 2 = .ok (.lconst 0, 1) := by decide +kernel
theorem dX6_forget_3 : decode cX6_forget 3 = .ok (.aload_n 0, 1) := by decide +kernel
theorem dX6_forget_4 : decode cX6_forget 4 = .ok (.getfield 7, 3) := by decide +kernel
theorem dX6_forget_7 : decode cX6_forget 7 = .ok (.bipush 41, 2) := by decide +kernel
theorem dX6_forget_9 : decode cX6_forget 9 = .ok (.iaload, 1) := by decide +kernel
theorem dX6_forget_10 : decode cX6_forget 10 = .ok (.i2l, 1) := by decide +kernel
theorem dX6_forget_11 : decode cX6_forget 11 = .ok (.invokestatic 59, 3) := by decide +kernel
theorem dX6_forget_14 : decode cX6_forget 14 = .ok (.ifCond .eq 13, 3) := by decide +kernel
theorem dX6_forget_17 : decode cX6_forget 17 = .ok (.aload_n 0, 1) := by decide +kernel
theorem dX6_forget_18 : decode cX6_forget 18 = .ok (.bipush 41, 2) := by decide +kernel
theorem dX6_forget_20 : decode cX6_forget 20 = .ok (.iload_n 1, 1) := by decide +kernel
theorem dX6_forget_21 : decode cX6_forget 21 = .ok (.invokevirtual 187, 3) := by decide +kernel
theorem dX6_forget_24 : decode cX6_forget 24 = .ok (.goto 4, 3) := by decide +kernel
theorem dX6_forget_27 : decode cX6_forget 27 = .ok (.iconst (-1), 1) := by decide +kernel
theorem dX6_forget_28 : decode cX6_forget 28 = .ok (.ireturn, 1) := by decide +kernel
theorem dX6_isSoWith_0 : decode cX6_isSoWith 0 = .ok (.aload_n 0, 1) := by decide +kernel
theorem dX6_isSoWith_1 : decode cX6_isSoWith 1 = .ok (.invokevirtual 174, 3) := by decide +kernel
theorem dX6_isSoWith_4 : decode cX6_isSoWith 4 = .ok (.aload_n 0, 1) := by decide +kernel
theorem dX6_isSoWith_5 : decode cX6_isSoWith 5 = .ok (.getfield 13, 3) := by decide +kernel
theorem dX6_isSoWith_8 : decode cX6_isSoWith 8 = .ok (.iload_n 1, 1) := by decide +kernel
theorem dX6_isSoWith_9 : decode cX6_isSoWith 9 = .ok (.iload_n 2, 1) := by decide +kernel
theorem dX6_isSoWith_10 : decode cX6_isSoWith 10 = .ok (.iastore, 1) := by decide +kernel
theorem dX6_isSoWith_11 : decode cX6_isSoWith 11 = .ok (.iconst 0, 1) := by decide +kernel
theorem dX6_isSoWith_12 : decode cX6_isSoWith 12 = .ok (.istore_n 3, 1) := by decide +kernel
theorem dX6_isSoWith_13 : decode cX6_isSoWith 13 = .ok (.iload_n 3, 1) := by decide +kernel
theorem dX6_isSoWith_14 : decode cX6_isSoWith 14 = .ok (.bipush 40, 2) := by decide +kernel
theorem dX6_isSoWith_16 : decode cX6_isSoWith 16 = .ok (.if_icmp .gt 53, 3) := by decide +kernel
theorem dX6_isSoWith_19 : decode cX6_isSoWith 19 = .ok (.iconst 0, 1) := by decide +kernel
theorem dX6_isSoWith_20 : decode cX6_isSoWith 20 = .ok (.istore 4, 2) := by decide +kernel
theorem dX6_isSoWith_22 : decode cX6_isSoWith 22 = .ok (.iload 4, 2) := by decide +kernel
theorem dX6_isSoWith_24 : decode cX6_isSoWith 24 = .ok (.aload_n 0, 1) := by decide +kernel
theorem dX6_isSoWith_25 : decode cX6_isSoWith 25 = .ok (.getfield 13, 3) := by decide +kernel
theorem dX6_isSoWith_28 : decode cX6_isSoWith 28 = .ok (.bipush 35, 2) := by decide +kernel
theorem dX6_isSoWith_30 : decode cX6_isSoWith 30 = .ok (.iaload, 1) := by decide +kernel
theorem dX6_isSoWith_31 : decode cX6_isSoWith 31 = .ok (.if_icmp .ge 27, 3) := by decide +kernel
theorem dX6_isSoWith_34 : decode cX6_isSoWith 34 = .ok (.aload_n 0, 1) := by decide +kernel
theorem dX6_isSoWith_35 : decode cX6_isSoWith 35 = .ok (.getfield 29, 3) := by decide +kernel
theorem dX6_isSoWith_38 : decode cX6_isSoWith 38 = .ok (.iconst 5, 1) := by decide +kernel
theorem dX6_isSoWith_39 : decode cX6_isSoWith 39 = .ok (.iload_n 3, 1) := by decide +kernel
theorem dX6_isSoWith_40 : decode cX6_isSoWith 40 = .ok (.imul, 1) := by decide +kernel
theorem dX6_isSoWith_41 : decode cX6_isSoWith 41 = .ok (.iload 4, 2) := by decide +kernel
theorem dX6_isSoWith_43 : decode cX6_isSoWith 43 = .ok (.iadd, 1) := by decide +kernel
theorem dX6_isSoWith_44 : decode cX6_isSoWith 44 = .ok (.aload_n 0, 1) := by decide +kernel
theorem dX6_isSoWith_45 : decode cX6_isSoWith 45 = .ok (.iload 4, 2) := by decide +kernel
theorem dX6_isSoWith_47 : decode cX6_isSoWith 47 = .ok (.iconst 1, 1) := by decide +kernel
theorem dX6_isSoWith_48 : decode cX6_isSoWith 48 = .ok (.invokevirtual 145, 3) := by decide +kernel
theorem dX6_isSoWith_51 : decode cX6_isSoWith 51 = .ok (.iastore, 1) := by decide +kernel
theorem dX6_isSoWith_52 : decode cX6_isSoWith 52 = .ok (.iinc 4 1, 3) := by decide +kernel
theorem dX6_isSoWith_55 : decode cX6_isSoWith 55 = .ok (.goto (-33), 3) := by decide +kernel
theorem dX6_isSoWith_58 : decode cX6_isSoWith 58 = .ok (.aload_n 0, 1) := by decide +kernel
theorem dX6_isSoWith_59 : decode cX6_isSoWith 59 = .ok (.iconst 0, 1) := by decide +kernel
theorem dX6_isSoWith_60 : decode cX6_isSoWith 60 = .ok (.invokevirtual 170, 3) := by decide +kernel
theorem dX6_isSoWith_63 : decode cX6_isSoWith 63 = .ok (.iinc 3 1, 3) := by decide +kernel
theorem dX6_isSoWith_66 : decode cX6_isSoWith 66 = .ok (.goto (-53), 3) := by decide +kernel
theorem dX6_isSoWith_69 : decode cX6_isSoWith 69 = .ok (.iconst 1, 1) := by decide +kernel
theorem dX6_isSoWith_70 : decode cX6_isSoWith 70 = .ok (.istore_n 3, 1) := by decide +kernel
theorem dX6_isSoWith_71 : decode cX6_isSoWith 71 = .ok (.iconst 0, 1) := by decide +kernel
theorem dX6_isSoWith_72 : decode cX6_isSoWith 72 = .ok (.istore 4, 2) := by decide +kernel
theorem dX6_isSoWith_74 : decode cX6_isSoWith 74 = .ok (.iload 4, 2) := by decide +kernel
theorem dX6_isSoWith_76 : decode cX6_isSoWith 76 = .ok (.aload_n 0, 1) := by decide +kernel
theorem dX6_isSoWith_77 : decode cX6_isSoWith 77 = .ok (.getfield 7, 3) := by decide +kernel
theorem dX6_isSoWith_80 : decode cX6_isSoWith 80 = .ok (.bipush 41, 2) := by decide +kernel
theorem dX6_isSoWith_82 : decode cX6_isSoWith 82 = .ok (.iaload, 1) := by decide +kernel
theorem dX6_isSoWith_83 : decode cX6_isSoWith 83 = .ok (.if_icmp .ge 64, 3) := by decide +kernel
theorem dX6_isSoWith_86 : decode cX6_isSoWith 86 = .ok (.bipush 42, 2) := by decide +kernel
theorem dX6_isSoWith_88 : decode cX6_isSoWith 88 = .ok (.iconst 3, 1) := by decide +kernel
theorem dX6_isSoWith_89 : decode cX6_isSoWith 89 = .ok (.iload 4, 2) := by decide +kernel
theorem dX6_isSoWith_91 : decode cX6_isSoWith 91 = .ok (.imul, 1) := by decide +kernel
theorem dX6_isSoWith_92 : decode cX6_isSoWith 92 = .ok (.iadd, 1) := by decide +kernel
theorem dX6_isSoWith_93 : decode cX6_isSoWith 93 = .ok (.istore 5, 2) := by decide +kernel
theorem dX6_isSoWith_95 : decode cX6_isSoWith 95 = .ok (.iload_n 3, 1) := by decide +kernel
theorem dX6_isSoWith_96 : decode cX6_isSoWith 96 = .ok (.ifCond .eq 43, 3) := by decide +kernel
theorem dX6_isSoWith_99 : decode cX6_isSoWith 99 = .ok (.aload_n 0, 1) := by decide +kernel
theorem dX6_isSoWith_100 : decode cX6_isSoWith 100 = .ok (.getfield 29, 3) := by decide +kernel
theorem dX6_isSoWith_103 : decode cX6_isSoWith 103 = .ok (.iconst 5, 1) := by decide +kernel
theorem dX6_isSoWith_104 : decode cX6_isSoWith 104 = .ok (.aload_n 0, 1) := by decide +kernel
theorem dX6_isSoWith_105 : decode cX6_isSoWith 105 = .ok (.getfield 7, 3) := by decide +kernel
theorem dX6_isSoWith_108 : decode cX6_isSoWith 108 = .ok (.iload 5, 2) := by decide +kernel
theorem dX6_isSoWith_110 : decode cX6_isSoWith 110 = .ok (.iaload, 1) := by decide +kernel
theorem dX6_isSoWith_111 : decode cX6_isSoWith 111 = .ok (.imul, 1) := by decide +kernel
theorem dX6_isSoWith_112 : decode cX6_isSoWith 112 = .ok (.aload_n 0, 1) := by decide +kernel
theorem dX6_isSoWith_113 : decode cX6_isSoWith 113 = .ok (.getfield 7, 3) := by decide +kernel
theorem dX6_isSoWith_116 : decode cX6_isSoWith 116 = .ok (.iload 5, 2) := by decide +kernel
theorem dX6_isSoWith_118 : decode cX6_isSoWith 118 = .ok (.iconst 1, 1) := by decide +kernel
theorem dX6_isSoWith_119 : decode cX6_isSoWith 119 = .ok (.iadd, 1) := by decide +kernel
theorem dX6_isSoWith_120 : decode cX6_isSoWith 120 = .ok (.iaload, 1) := by decide +kernel
theorem dX6_isSoWith_121 : decode cX6_isSoWith 121 = .ok (.iadd, 1) := by decide +kernel
theorem dX6_isSoWith_122 : decode cX6_isSoWith 122 = .ok (.iaload, 1) := by decide +kernel
theorem dX6_isSoWith_123 : decode cX6_isSoWith 123 = .ok (.aload_n 0, 1) := by decide +kernel
theorem dX6_isSoWith_124 : decode cX6_isSoWith 124 = .ok (.getfield 7, 3) := by decide +kernel
theorem dX6_isSoWith_127 : decode cX6_isSoWith 127 = .ok (.iload 5, 2) := by decide +kernel
theorem dX6_isSoWith_129 : decode cX6_isSoWith 129 = .ok (.iconst 2, 1) := by decide +kernel
theorem dX6_isSoWith_130 : decode cX6_isSoWith 130 = .ok (.iadd, 1) := by decide +kernel
theorem dX6_isSoWith_131 : decode cX6_isSoWith 131 = .ok (.iaload, 1) := by decide +kernel
theorem dX6_isSoWith_132 : decode cX6_isSoWith 132 = .ok (.if_icmp .ne 7, 3) := by decide +kernel
theorem dX6_isSoWith_135 : decode cX6_isSoWith 135 = .ok (.iconst 1, 1) := by decide +kernel
theorem dX6_isSoWith_136 : decode cX6_isSoWith 136 = .ok (.goto 4, 3) := by decide +kernel
theorem dX6_isSoWith_139 : decode cX6_isSoWith 139 = .ok (.iconst 0, 1) := by decide +kernel
theorem dX6_isSoWith_140 : decode cX6_isSoWith 140 = .ok (.istore_n 3, 1) := by decide +kernel
theorem dX6_isSoWith_141 : decode cX6_isSoWith 141 = .ok (.iinc 4 1, 3) := by decide +kernel
theorem dX6_isSoWith_144 : decode cX6_isSoWith 144 = .ok (.goto (-70), 3) := by decide +kernel
theorem dX6_isSoWith_147 : decode cX6_isSoWith 147 = .ok (.iload_n 3, 1) := by decide +kernel
theorem dX6_isSoWith_148 : decode cX6_isSoWith 148 = .ok (.ireturn, 1) := by decide +kernel
end
section
theorem dX6_which_0 : decode cX6_which 0 = .ok (.aload_n 0, 1) := by decide +kernel
theorem dX6_which_1 : decode cX6_which 1 = .ok (.iload_n 1, 1) := by decide +kernel
theorem dX6_which_2 : decode cX6_which 2 = .ok (.invokevirtual 180, 3) := by decide +kernel
theorem dX6_which_5 : decode cX6_which 5 = .ok (.ifCond .ne 5, 3) := by decide +kernel
theorem dX6_which_8 : decode cX6_which 8 = .ok (.iconst (-1), 1) := by decide +kernel
theorem dX6_which_9 : decode cX6_which 9 = .ok (.ireturn, 1) := by decide +kernel
theorem dX6_which_10 : decode cX6_which 10 = .ok (.iconst 0, 1) := by decide +kernel
theorem dX6_which_11 : decode cX6_which 11 = .ok (.istore_n 3, 1) := by decide +kernel
theorem dX6_which_12 : decode cX6_which 12 = .ok (.iconst 0, 1) := by decide +kernel
theorem dX6_which_13 : decode cX6_which 13 = .ok (.istore 4, 2) := by decide +kernel
theorem dX6_which_15 : decode cX6_which 15 = .ok (.iload 4, 2) := by decide +kernel
theorem dX6_which_17 : decode cX6_which 17 = .ok (.iload_n 2, 1) := by decide +kernel
theorem dX6_which_18 : decode cX6_which 18 = .ok (.invokestatic 111, 3) := by decide +kernel
theorem dX6_which_21 : decode cX6_which 21 = .ok (.if_icmp .gt 30, 3) := by decide +kernel
theorem dX6_which_24 : decode cX6_which 24 = .ok (.iload_n 3, 1) := by decide +kernel
theorem dX6_which_25 : decode cX6_which 25 = .ok (.aload_n 0, 1) := by decide +kernel
theorem dX6_which_26 : decode cX6_which 26 = .ok (.bipush 7, 2) := by decide +kernel
theorem dX6_which_28 : decode cX6_which 28 = .ok (.iload_n 1, 1) := by decide +kernel
theorem dX6_which_29 : decode cX6_which 29 = .ok (.imul, 1) := by decide +kernel
theorem dX6_which_30 : decode cX6_which 30 = .ok (.iload_n 2, 1) := by decide +kernel
theorem dX6_which_31 : decode cX6_which 31 = .ok (.iadd, 1) := by decide +kernel
theorem dX6_which_32 : decode cX6_which 32 = .ok (.iload 4, 2) := by decide +kernel
theorem dX6_which_34 : decode cX6_which 34 = .ok (.invokevirtual 264, 3) := by decide +kernel
theorem dX6_which_37 : decode cX6_which 37 = .ok (.invokestatic 163, 3) := by decide +kernel
theorem dX6_which_40 : decode cX6_which 40 = .ok (.iload 4, 2) := by decide +kernel
theorem dX6_which_42 : decode cX6_which 42 = .ok (.ishl, 1) := by decide +kernel
theorem dX6_which_43 : decode cX6_which 43 = .ok (.ior, 1) := by decide +kernel
theorem dX6_which_44 : decode cX6_which 44 = .ok (.istore_n 3, 1) := by decide +kernel
theorem dX6_which_45 : decode cX6_which 45 = .ok (.iinc 4 1, 3) := by decide +kernel
theorem dX6_which_48 : decode cX6_which 48 = .ok (.goto (-33), 3) := by decide +kernel
theorem dX6_which_51 : decode cX6_which 51 = .ok (.iload_n 3, 1) := by decide +kernel
theorem dX6_which_52 : decode cX6_which 52 = .ok (.ireturn, 1) := by decide +kernel
theorem dX6_kinds_0 : decode cX6_kinds 0 = .ok (.aload_n 0, 1) := by decide +kernel
theorem dX6_kinds_1 : decode cX6_kinds 1 = .ok (.iload_n 1, 1) := by decide +kernel
theorem dX6_kinds_2 : decode cX6_kinds 2 = .ok (.iconst 0, 1) := by decide +kernel
theorem dX6_kinds_3 : decode cX6_kinds 3 = .ok (.invokevirtual 268, 3) := by decide +kernel
theorem dX6_kinds_6 : decode cX6_kinds 6 = .ok (.ireturn, 1) := by decide +kernel
theorem dX6_gains_0 : decode cX6_gains 0 = .ok (.aload_n 0, 1) := by decide +kernel
theorem dX6_gains_1 : decode cX6_gains 1 = .ok (.iload_n 1, 1) := by decide +kernel
theorem dX6_gains_2 : decode cX6_gains 2 = .ok (.iconst 3, 1) := by decide +kernel
theorem dX6_gains_3 : decode cX6_gains 3 = .ok (.invokevirtual 268, 3) := by decide +kernel
theorem dX6_gains_6 : decode cX6_gains 6 = .ok (.ireturn, 1) := by decide +kernel
theorem dX6_ask_0 : decode cX6_ask 0 = .ok (.aload_n 0, 1) := by decide +kernel
theorem dX6_ask_1 : decode cX6_ask 1 = .ok (.iload_n 1, 1) := by decide +kernel
theorem dX6_ask_2 : decode cX6_ask 2 = .ok (.invokevirtual 180, 3) := by decide +kernel
theorem dX6_ask_5 : decode cX6_ask 5 = .ok (.ifCond .eq 10, 3) := by decide +kernel
theorem dX6_ask_8 : decode cX6_ask 8 = .ok (.iload_n 2, 1) := by decide +kernel
theorem dX6_ask_9 : decode cX6_ask 9 = .ok (.invokestatic 218, 3) := by decide +kernel
theorem dX6_ask_12 : decode cX6_ask 12 = .ok (.ifCond .ne 5, 3) := by decide +kernel
theorem dX6_ask_15 : decode cX6_ask 15 = .ok (.iconst (-1), 1) := by decide +kernel
theorem dX6_ask_16 : decode cX6_ask 16 = .ok (.ireturn, 1) := by decide +kernel
theorem dX6_ask_17 : decode cX6_ask 17 = .ok (.iconst 0, 1) := by decide +kernel
theorem dX6_ask_18 : decode cX6_ask 18 = .ok (.istore_n 3, 1) := by decide +kernel
theorem dX6_ask_19 : decode cX6_ask 19 = .ok (.iconst 0, 1) := by decide +kernel
theorem dX6_ask_20 : decode cX6_ask 20 = .ok (.istore 4, 2) := by decide +kernel
theorem dX6_ask_22 : decode cX6_ask 22 = .ok (.iload 4, 2) := by decide +kernel
theorem dX6_ask_24 : decode cX6_ask 24 = .ok (.bipush 9, 2) := by decide +kernel
theorem dX6_ask_26 : decode cX6_ask 26 = .ok (.if_icmp .gt 66, 3) := by decide +kernel
theorem dX6_ask_29 : decode cX6_ask 29 = .ok (.aload_n 0, 1) := by decide +kernel
theorem dX6_ask_30 : decode cX6_ask 30 = .ok (.bipush 7, 2) := by decide +kernel
theorem dX6_ask_32 : decode cX6_ask 32 = .ok (.iload_n 1, 1) := by decide +kernel
theorem dX6_ask_33 : decode cX6_ask 33 = .ok (.imul, 1) := by decide +kernel
theorem dX6_ask_34 : decode cX6_ask 34 = .ok (.iconst 3, 1) := by decide +kernel
theorem dX6_ask_35 : decode cX6_ask 35 = .ok (.iadd, 1) := by decide +kernel
theorem dX6_ask_36 : decode cX6_ask 36 = .ok (.iload 4, 2) := by decide +kernel
theorem dX6_ask_38 : decode cX6_ask 38 = .ok (.invokevirtual 264, 3) := by decide +kernel
theorem dX6_ask_41 : decode cX6_ask 41 = .ok (.ifCond .eq 45, 3) := by decide +kernel
theorem dX6_ask_44 : decode cX6_ask 44 = .ok (.iconst 0, 1) := by decide +kernel
theorem dX6_ask_45 : decode cX6_ask 45 = .ok (.istore 5, 2) := by decide +kernel
theorem dX6_ask_47 : decode cX6_ask 47 = .ok (.iload 5, 2) := by decide +kernel
theorem dX6_ask_49 : decode cX6_ask 49 = .ok (.bipush 40, 2) := by decide +kernel
theorem dX6_ask_51 : decode cX6_ask 51 = .ok (.if_icmp .gt 32, 3) := by decide +kernel
theorem dX6_ask_54 : decode cX6_ask 54 = .ok (.aload_n 0, 1) := by decide +kernel
theorem dX6_ask_55 : decode cX6_ask 55 = .ok (.getfield 32, 3) := by decide +kernel
theorem dX6_ask_58 : decode cX6_ask 58 = .ok (.bipush 41, 2) := by decide +kernel
theorem dX6_ask_60 : decode cX6_ask 60 = .ok (.iload_n 3, 1) := by decide +kernel
theorem dX6_ask_61 : decode cX6_ask 61 = .ok (.imul, 1) := by decide +kernel
theorem dX6_ask_62 : decode cX6_ask 62 = .ok (.iload 5, 2) := by decide +kernel
theorem dX6_ask_64 : decode cX6_ask 64 = .ok (.iadd, 1) := by decide +kernel
theorem dX6_ask_65 : decode cX6_ask 65 = .ok (.aload_n 0, 1) := by decide +kernel
theorem dX6_ask_66 : decode cX6_ask 66 = .ok (.getfield 29, 3) := by decide +kernel
theorem dX6_ask_69 : decode cX6_ask 69 = .ok (.iconst 5, 1) := by decide +kernel
theorem dX6_ask_70 : decode cX6_ask 70 = .ok (.iload 5, 2) := by decide +kernel
theorem dX6_ask_72 : decode cX6_ask 72 = .ok (.imul, 1) := by decide +kernel
theorem dX6_ask_73 : decode cX6_ask 73 = .ok (.iload_n 1, 1) := by decide +kernel
theorem dX6_ask_74 : decode cX6_ask 74 = .ok (.iadd, 1) := by decide +kernel
theorem dX6_ask_75 : decode cX6_ask 75 = .ok (.iaload, 1) := by decide +kernel
theorem dX6_ask_76 : decode cX6_ask 76 = .ok (.iastore, 1) := by decide +kernel
theorem dX6_ask_77 : decode cX6_ask 77 = .ok (.iinc 5 1, 3) := by decide +kernel
theorem dX6_ask_80 : decode cX6_ask 80 = .ok (.goto (-33), 3) := by decide +kernel
theorem dX6_ask_83 : decode cX6_ask 83 = .ok (.iinc 3 1, 3) := by decide +kernel
theorem dX6_ask_86 : decode cX6_ask 86 = .ok (.iinc 4 1, 3) := by decide +kernel
theorem dX6_ask_89 : decode cX6_ask 89 = .ok (.goto (-67), 3) := by decide +kernel
theorem dX6_ask_92 : decode cX6_ask 92 = .ok (.aload_n 0, 1) := by decide +kernel
theorem dX6_ask_93 : decode cX6_ask 93 = .ok (.iload_n 3, 1) := by decide +kernel
theorem dX6_ask_94 : decode cX6_ask 94 = .ok (.invokevirtual 221, 3) := by decide +kernel
theorem dX6_ask_97 : decode cX6_ask 97 = .ok (.iconst 0, 1) := by decide +kernel
theorem dX6_ask_98 : decode cX6_ask 98 = .ok (.istore 4, 2) := by decide +kernel
theorem dX6_ask_100 : decode cX6_ask 100 = .ok (.iload 4, 2) := by decide +kernel
theorem dX6_ask_102 : decode cX6_ask 102 = .ok (.bipush 40, 2) := by decide +kernel
theorem dX6_ask_104 : decode cX6_ask 104 = .ok (.if_icmp .gt 111, 3) := by decide +kernel
theorem dX6_ask_107 : decode cX6_ask 107 = .ok (.iconst 0, 1) := by decide +kernel
theorem dX6_ask_108 : decode cX6_ask 108 = .ok (.istore 5, 2) := by decide +kernel
theorem dX6_ask_110 : decode cX6_ask 110 = .ok (.iconst 0, 1) := by decide +kernel
theorem dX6_ask_111 : decode cX6_ask 111 = .ok (.istore 6, 2) := by decide +kernel
theorem dX6_ask_113 : decode cX6_ask 113 = .ok (.iload 6, 2) := by decide +kernel
theorem dX6_ask_115 : decode cX6_ask 115 = .ok (.iload_n 3, 1) := by decide +kernel
theorem dX6_ask_116 : decode cX6_ask 116 = .ok (.if_icmp .ge 85, 3) := by decide +kernel
theorem dX6_ask_119 : decode cX6_ask 119 = .ok (.iconst 0, 1) := by decide +kernel
theorem dX6_ask_120 : decode cX6_ask 120 = .ok (.istore 7, 2) := by decide +kernel
theorem dX6_ask_122 : decode cX6_ask 122 = .ok (.iconst 0, 1) := by decide +kernel
theorem dX6_ask_123 : decode cX6_ask 123 = .ok (.istore 8, 2) := by decide +kernel
theorem dX6_ask_125 : decode cX6_ask 125 = .ok (.iload 8, 2) := by decide +kernel
theorem dX6_ask_127 : decode cX6_ask 127 = .ok (.iload_n 3, 1) := by decide +kernel
theorem dX6_ask_128 : decode cX6_ask 128 = .ok (.if_icmp .ge 51, 3) := by decide +kernel
theorem dX6_ask_131 : decode cX6_ask 131 = .ok (.iload 7, 2) := by decide +kernel
theorem dX6_ask_133 : decode cX6_ask 133 = .ok (.aload_n 0, 1) := by decide +kernel
theorem dX6_ask_134 : decode cX6_ask 134 = .ok (.getfield 32, 3) := by decide +kernel
theorem dX6_ask_137 : decode cX6_ask 137 = .ok (.bipush 41, 2) := by decide +kernel
theorem dX6_ask_139 : decode cX6_ask 139 = .ok (.iload 6, 2) := by decide +kernel
theorem dX6_ask_141 : decode cX6_ask 141 = .ok (.imul, 1) := by decide +kernel
theorem dX6_ask_142 : decode cX6_ask 142 = .ok (.iload 4, 2) := by decide +kernel
theorem dX6_ask_144 : decode cX6_ask 144 = .ok (.iadd, 1) := by decide +kernel
theorem dX6_ask_145 : decode cX6_ask 145 = .ok (.iaload, 1) := by decide +kernel
theorem dX6_ask_146 : decode cX6_ask 146 = .ok (.aload_n 0, 1) := by decide +kernel
theorem dX6_ask_147 : decode cX6_ask 147 = .ok (.getfield 32, 3) := by decide +kernel
theorem dX6_ask_150 : decode cX6_ask 150 = .ok (.bipush 41, 2) := by decide +kernel
theorem dX6_ask_152 : decode cX6_ask 152 = .ok (.iload 8, 2) := by decide +kernel
theorem dX6_ask_154 : decode cX6_ask 154 = .ok (.imul, 1) := by decide +kernel
theorem dX6_ask_155 : decode cX6_ask 155 = .ok (.iload 4, 2) := by decide +kernel
theorem dX6_ask_157 : decode cX6_ask 157 = .ok (.iadd, 1) := by decide +kernel
theorem dX6_ask_158 : decode cX6_ask 158 = .ok (.iaload, 1) := by decide +kernel
theorem dX6_ask_159 : decode cX6_ask 159 = .ok (.if_icmp .ne 7, 3) := by decide +kernel
theorem dX6_ask_162 : decode cX6_ask 162 = .ok (.iconst 1, 1) := by decide +kernel
theorem dX6_ask_163 : decode cX6_ask 163 = .ok (.goto 4, 3) := by decide +kernel
theorem dX6_ask_166 : decode cX6_ask 166 = .ok (.iconst 0, 1) := by decide +kernel
theorem dX6_ask_167 : decode cX6_ask 167 = .ok (.invokestatic 163, 3) := by decide +kernel
theorem dX6_ask_170 : decode cX6_ask 170 = .ok (.iadd, 1) := by decide +kernel
theorem dX6_ask_171 : decode cX6_ask 171 = .ok (.istore 7, 2) := by decide +kernel
theorem dX6_ask_173 : decode cX6_ask 173 = .ok (.iinc 8 1, 3) := by decide +kernel
theorem dX6_ask_176 : decode cX6_ask 176 = .ok (.goto (-51), 3) := by decide +kernel
theorem dX6_ask_179 : decode cX6_ask 179 = .ok (.iload 7, 2) := by decide +kernel
theorem dX6_ask_181 : decode cX6_ask 181 = .ok (.iload 5, 2) := by decide +kernel
theorem dX6_ask_183 : decode cX6_ask 183 = .ok (.if_icmp .le 8, 3) := by decide +kernel
theorem dX6_ask_186 : decode cX6_ask 186 = .ok (.iload 7, 2) := by decide +kernel
theorem dX6_ask_188 : decode cX6_ask 188 = .ok (.goto 5, 3) := by decide +kernel
theorem dX6_ask_191 : decode cX6_ask 191 = .ok (.iload 5, 2) := by decide +kernel
theorem dX6_ask_193 : decode cX6_ask 193 = .ok (.istore 5, 2) := by decide +kernel
theorem dX6_ask_195 : decode cX6_ask 195 = .ok (.iinc 6 1, 3) := by decide +kernel
theorem dX6_ask_198 : decode cX6_ask 198 = .ok (.goto (-85), 3) := by decide +kernel
theorem dX6_ask_201 : decode cX6_ask 201 = .ok (.aload_n 0, 1) := by decide +kernel
theorem dX6_ask_202 : decode cX6_ask 202 = .ok (.iload 4, 2) := by decide +kernel
theorem dX6_ask_204 : decode cX6_ask 204 = .ok (.iload 5, 2) := by decide +kernel
theorem dX6_ask_206 : decode cX6_ask 206 = .ok (.invokevirtual 224, 3) := by decide +kernel
theorem dX6_ask_209 : decode cX6_ask 209 = .ok (.iinc 4 1, 3) := by decide +kernel
theorem dX6_ask_212 : decode cX6_ask 212 = .ok (.goto (-112), 3) := by decide +kernel
theorem dX6_ask_215 : decode cX6_ask 215 = .ok (.aload_n 0, 1) := by decide +kernel
theorem dX6_ask_216 : decode cX6_ask 216 = .ok (.iload_n 2, 1) := by decide +kernel
theorem dX6_ask_217 : decode cX6_ask 217 = .ok (.invokevirtual 231, 3) := by decide +kernel
theorem dX6_ask_220 : decode cX6_ask 220 = .ok (.ireturn, 1) := by decide +kernel
theorem dX6_drift_0 : decode cX6_drift 0 = .ok (.iload_n 2, 1) := by decide +kernel
theorem dX6_drift_1 : decode cX6_drift 1 = .ok (.i2l, 1) := by decide +kernel
theorem dX6_drift_2 : decode cX6_drift 2 = .ok (.lconst 1, 1) := by decide +kernel
theorem dX6_drift_3 : decode cX6_drift 3 = .ok (.ldc2_w 203, 3) := by decide +kernel
theorem dX6_drift_6 : decode cX6_drift 6 = .ok (.invokestatic 59, 3) := by decide +kernel
theorem dX6_drift_9 : decode cX6_drift 9 = .ok (.ifCond .eq 10, 3) := by decide +kernel
theorem dX6_drift_12 : decode cX6_drift 12 = .ok (.iload_n 3, 1) := by decide +kernel
theorem dX6_drift_13 : decode cX6_drift 13 = .ok (.invokestatic 218, 3) := by decide +kernel
theorem dX6_drift_16 : decode cX6_drift 16 = .ok (.ifCond .ne 5, 3) := by decide +kernel
theorem dX6_drift_19 : decode cX6_drift 19 = .ok (.iconst (-1), 1) := by decide +kernel
theorem dX6_drift_20 : decode cX6_drift 20 = .ok (.ireturn, 1) := by decide +kernel
theorem dX6_drift_21 : decode cX6_drift 21 = .ok (.aload_n 0, 1) := by decide +kernel
theorem dX6_drift_22 : decode cX6_drift 22 = .ok (.getfield 7, 3) := by decide +kernel
theorem dX6_drift_25 : decode cX6_drift 25 = .ok (.bipush 35, 2) := by decide +kernel
theorem dX6_drift_27 : decode cX6_drift 27 = .ok (.iaload, 1) := by decide +kernel
theorem dX6_drift_28 : decode cX6_drift 28 = .ok (.ifCond .ne 6, 3) := by decide +kernel
theorem dX6_drift_31 : decode cX6_drift 31 = .ok (.bipush (-2), 2) := by decide +kernel
theorem dX6_drift_33 : decode cX6_drift 33 = .ok (.ireturn, 1) := by decide +kernel
theorem dX6_drift_34 : decode cX6_drift 34 = .ok (.iload_n 1, 1) := by decide +kernel
theorem dX6_drift_35 : decode cX6_drift 35 = .ok (.istore 4, 2) := by decide +kernel
theorem dX6_drift_37 : decode cX6_drift 37 = .ok (.aload_n 0, 1) := by decide +kernel
theorem dX6_drift_38 : decode cX6_drift 38 = .ok (.invokevirtual 174, 3) := by decide +kernel
theorem dX6_drift_41 : decode cX6_drift 41 = .ok (.iconst 0, 1) := by decide +kernel
theorem dX6_drift_42 : decode cX6_drift 42 = .ok (.istore 5, 2) := by decide +kernel
theorem dX6_drift_44 : decode cX6_drift 44 = .ok (.iload 5, 2) := by decide +kernel
theorem dX6_drift_46 : decode cX6_drift 46 = .ok (.iload_n 2, 1) := by decide +kernel
theorem dX6_drift_47 : decode cX6_drift 47 = .ok (.if_icmp .ge 60, 3) := by decide +kernel
theorem dX6_drift_50 : decode cX6_drift 50 = .ok (.iload 4, 2) := by decide +kernel
theorem dX6_drift_52 : decode cX6_drift 52 = .ok (.ldc_w 271, 3) := by decide +kernel
theorem dX6_drift_55 : decode cX6_drift 55 = .ok (.imul, 1) := by decide +kernel
theorem dX6_drift_56 : decode cX6_drift 56 = .ok (.sipush 12345, 3) := by decide +kernel
theorem dX6_drift_59 : decode cX6_drift 59 = .ok (.iadd, 1) := by decide +kernel
theorem dX6_drift_60 : decode cX6_drift 60 = .ok (.istore 4, 2) := by decide +kernel
theorem dX6_drift_62 : decode cX6_drift 62 = .ok (.iload 4, 2) := by decide +kernel
theorem dX6_drift_64 : decode cX6_drift 64 = .ok (.bipush 16, 2) := by decide +kernel
theorem dX6_drift_66 : decode cX6_drift 66 = .ok (.ishr, 1) := by decide +kernel
theorem dX6_drift_67 : decode cX6_drift 67 = .ok (.sipush 32767, 3) := by decide +kernel
theorem dX6_drift_70 : decode cX6_drift 70 = .ok (.iand, 1) := by decide +kernel
theorem dX6_drift_71 : decode cX6_drift 71 = .ok (.istore 6, 2) := by decide +kernel
theorem dX6_drift_73 : decode cX6_drift 73 = .ok (.aload_n 0, 1) := by decide +kernel
theorem dX6_drift_74 : decode cX6_drift 74 = .ok (.iload 6, 2) := by decide +kernel
theorem dX6_drift_76 : decode cX6_drift 76 = .ok (.aload_n 0, 1) := by decide +kernel
theorem dX6_drift_77 : decode cX6_drift 77 = .ok (.getfield 7, 3) := by decide +kernel
theorem dX6_drift_80 : decode cX6_drift 80 = .ok (.bipush 35, 2) := by decide +kernel
theorem dX6_drift_82 : decode cX6_drift 82 = .ok (.iaload, 1) := by decide +kernel
theorem dX6_drift_83 : decode cX6_drift 83 = .ok (.irem, 1) := by decide +kernel
theorem dX6_drift_84 : decode cX6_drift 84 = .ok (.iload 6, 2) := by decide +kernel
theorem dX6_drift_86 : decode cX6_drift 86 = .ok (.bipush 8, 2) := by decide +kernel
theorem dX6_drift_88 : decode cX6_drift 88 = .ok (.idiv, 1) := by decide +kernel
theorem dX6_drift_89 : decode cX6_drift 89 = .ok (.bipush 10, 2) := by decide +kernel
theorem dX6_drift_91 : decode cX6_drift 91 = .ok (.irem, 1) := by decide +kernel
theorem dX6_drift_92 : decode cX6_drift 92 = .ok (.invokevirtual 167, 3) := by decide +kernel
theorem dX6_drift_95 : decode cX6_drift 95 = .ok (.pop, 1) := by decide +kernel
theorem dX6_drift_96 : decode cX6_drift 96 = .ok (.aload_n 0, 1) := by decide +kernel
theorem dX6_drift_97 : decode cX6_drift 97 = .ok (.iconst 0, 1) := by decide +kernel
theorem dX6_drift_98 : decode cX6_drift 98 = .ok (.invokevirtual 170, 3) := by decide +kernel
theorem dX6_drift_101 : decode cX6_drift 101 = .ok (.iinc 5 1, 3) := by decide +kernel
theorem dX6_drift_104 : decode cX6_drift 104 = .ok (.goto (-60), 3) := by decide +kernel
theorem dX6_drift_107 : decode cX6_drift 107 = .ok (.iload_n 3, 1) := by decide +kernel
theorem dX6_drift_108 : decode cX6_drift 108 = .ok (.ifCond .ne 10, 3) := by decide +kernel
theorem dX6_drift_111 : decode cX6_drift 111 = .ok (.aload_n 0, 1) := by decide +kernel
theorem dX6_drift_112 : decode cX6_drift 112 = .ok (.getfield 132, 3) := by decide +kernel
theorem dX6_drift_115 : decode cX6_drift 115 = .ok (.goto 8, 3) := by decide +kernel
theorem dX6_drift_118 : decode cX6_drift 118 = .ok (.aload_n 0, 1) := by decide +kernel
theorem dX6_drift_119 : decode cX6_drift 119 = .ok (.iconst 1, 1) := by decide +kernel
theorem dX6_drift_120 : decode cX6_drift 120 = .ok (.invokevirtual 177, 3) := by decide +kernel
theorem dX6_drift_123 : decode cX6_drift 123 = .ok (.ireturn, 1) := by decide +kernel
theorem dX6_copies_0 : decode cX6_copies 0 = .ok (.iconst 0, 1) := by decide +kernel
theorem dX6_copies_1 : decode cX6_copies 1 = .ok (.istore_n 3, 1) := by decide +kernel
theorem dX6_copies_2 : decode cX6_copies 2 = .ok (.iload_n 3, 1) := by decide +kernel
theorem dX6_copies_3 : decode cX6_copies 3 = .ok (.bipush 60, 2) := by decide +kernel
theorem dX6_copies_5 : decode cX6_copies 5 = .ok (.if_icmp .ge 25, 3) := by decide +kernel
theorem dX6_copies_8 : decode cX6_copies 8 = .ok (.aload_n 0, 1) := by decide +kernel
theorem dX6_copies_9 : decode cX6_copies 9 = .ok (.getfield 7, 3) := by decide +kernel
theorem dX6_copies_12 : decode cX6_copies 12 = .ok (.iload_n 1, 1) := by decide +kernel
theorem dX6_copies_13 : decode cX6_copies 13 = .ok (.iload_n 3, 1) := by decide +kernel
theorem dX6_copies_14 : decode cX6_copies 14 = .ok (.iadd, 1) := by decide +kernel
theorem dX6_copies_15 : decode cX6_copies 15 = .ok (.aload_n 0, 1) := by decide +kernel
theorem dX6_copies_16 : decode cX6_copies 16 = .ok (.getfield 7, 3) := by decide +kernel
theorem dX6_copies_19 : decode cX6_copies 19 = .ok (.iload_n 2, 1) := by decide +kernel
theorem dX6_copies_20 : decode cX6_copies 20 = .ok (.iload_n 3, 1) := by decide +kernel
theorem dX6_copies_21 : decode cX6_copies 21 = .ok (.iadd, 1) := by decide +kernel
theorem dX6_copies_22 : decode cX6_copies 22 = .ok (.iaload, 1) := by decide +kernel
theorem dX6_copies_23 : decode cX6_copies 23 = .ok (.iastore, 1) := by decide +kernel
theorem dX6_copies_24 : decode cX6_copies 24 = .ok (.iinc 3 1, 3) := by decide +kernel
theorem dX6_copies_27 : decode cX6_copies 27 = .ok (.goto (-25), 3) := by decide +kernel
theorem dX6_copies_30 : decode cX6_copies 30 = .ok (.return_, 1) := by decide +kernel
theorem dX6_keep_0 : decode cX6_keep 0 = .ok (.iload_n 1, 1) := by decide +kernel
theorem dX6_keep_1 : decode cX6_keep 1 = .ok (.i2l, 1) := by decide +kernel
theorem dX6_keep_2 : decode cX6_keep 2 = .ok (.lconst 0, 1) := by decide +kernel
theorem dX6_keep_3 : decode cX6_keep 3 = .ok (.lconst 1, 1) := by decide +kernel
theorem dX6_keep_4 : decode cX6_keep 4 = .ok (.invokestatic 59, 3) := by decide +kernel
theorem dX6_keep_7 : decode cX6_keep 7 = .ok (.ifCond .ne 5, 3) := by decide +kernel
theorem dX6_keep_10 : decode cX6_keep 10 = .ok (.iconst (-1), 1) := by decide +kernel
theorem dX6_keep_11 : decode cX6_keep 11 = .ok (.ireturn, 1) := by decide +kernel
theorem dX6_keep_12 : decode cX6_keep 12 = .ok (.aload_n 0, 1) := by decide +kernel
theorem dX6_keep_13 : decode cX6_keep 13 = .ok (.getfield 16, 3) := by decide +kernel
theorem dX6_keep_16 : decode cX6_keep 16 = .ok (.iload_n 1, 1) := by decide +kernel
theorem dX6_keep_17 : decode cX6_keep 17 = .ok (.baload, 1) := by decide +kernel
theorem dX6_keep_18 : decode cX6_keep 18 = .ok (.invokestatic 163, 3) := by decide +kernel
theorem dX6_keep_21 : decode cX6_keep 21 = .ok (.istore_n 2, 1) := by decide +kernel
theorem dX6_keep_22 : decode cX6_keep 22 = .ok (.aload_n 0, 1) := by decide +kernel
theorem dX6_keep_23 : decode cX6_keep 23 = .ok (.getfield 16, 3) := by decide +kernel
theorem dX6_keep_26 : decode cX6_keep 26 = .ok (.iload_n 1, 1) := by decide +kernel
theorem dX6_keep_27 : decode cX6_keep 27 = .ok (.iconst 1, 1) := by decide +kernel
theorem dX6_keep_28 : decode cX6_keep 28 = .ok (.bastore, 1) := by decide +kernel
theorem dX6_keep_29 : decode cX6_keep 29 = .ok (.aload_n 0, 1) := by decide +kernel
theorem dX6_keep_30 : decode cX6_keep 30 = .ok (.bipush 60, 2) := by decide +kernel
theorem dX6_keep_32 : decode cX6_keep 32 = .ok (.iload_n 1, 1) := by decide +kernel
theorem dX6_keep_33 : decode cX6_keep 33 = .ok (.iconst 1, 1) := by decide +kernel
theorem dX6_keep_34 : decode cX6_keep 34 = .ok (.iadd, 1) := by decide +kernel
theorem dX6_keep_35 : decode cX6_keep 35 = .ok (.imul, 1) := by decide +kernel
theorem dX6_keep_36 : decode cX6_keep 36 = .ok (.iconst 0, 1) := by decide +kernel
theorem dX6_keep_37 : decode cX6_keep 37 = .ok (.invokevirtual 272, 3) := by decide +kernel
theorem dX6_keep_40 : decode cX6_keep 40 = .ok (.iload_n 2, 1) := by decide +kernel
theorem dX6_keep_41 : decode cX6_keep 41 = .ok (.ireturn, 1) := by decide +kernel
theorem dX6_back_0 : decode cX6_back 0 = .ok (.iload_n 1, 1) := by decide +kernel
theorem dX6_back_1 : decode cX6_back 1 = .ok (.i2l, 1) := by decide +kernel
theorem dX6_back_2 : decode cX6_back 2 = .ok (.lconst 0, 1) := by decide +kernel
theorem dX6_back_3 : decode cX6_back 3 = .ok (.lconst 1, 1) := by decide +kernel
theorem dX6_back_4 : decode cX6_back 4 = .ok (.invokestatic 59, 3) := by decide +kernel
theorem dX6_back_7 : decode cX6_back 7 = .ok (.ifCond .ne 5, 3) := by decide +kernel
theorem dX6_back_10 : decode cX6_back 10 = .ok (.iconst (-1), 1) := by decide +kernel
theorem dX6_back_11 : decode cX6_back 11 = .ok (.ireturn, 1) := by decide +kernel
theorem dX6_back_12 : decode cX6_back 12 = .ok (.aload_n 0, 1) := by decide +kernel
theorem dX6_back_13 : decode cX6_back 13 = .ok (.getfield 16, 3) := by decide +kernel
theorem dX6_back_16 : decode cX6_back 16 = .ok (.iload_n 1, 1) := by decide +kernel
theorem dX6_back_17 : decode cX6_back 17 = .ok (.baload, 1) := by decide +kernel
theorem dX6_back_18 : decode cX6_back 18 = .ok (.ifCond .ne 6, 3) := by decide +kernel
theorem dX6_back_21 : decode cX6_back 21 = .ok (.bipush (-2), 2) := by decide +kernel
theorem dX6_back_23 : decode cX6_back 23 = .ok (.ireturn, 1) := by decide +kernel
theorem dX6_back_24 : decode cX6_back 24 = .ok (.aload_n 0, 1) := by decide +kernel
theorem dX6_back_25 : decode cX6_back 25 = .ok (.iconst 0, 1) := by decide +kernel
theorem dX6_back_26 : decode cX6_back 26 = .ok (.bipush 60, 2) := by decide +kernel
theorem dX6_back_28 : decode cX6_back 28 = .ok (.iload_n 1, 1) := by decide +kernel
theorem dX6_back_29 : decode cX6_back 29 = .ok (.iconst 1, 1) := by decide +kernel
theorem dX6_back_30 : decode cX6_back 30 = .ok (.iadd, 1) := by decide +kernel
theorem dX6_back_31 : decode cX6_back 31 = .ok (.imul, 1) := by decide +kernel
theorem dX6_back_32 : decode cX6_back 32 = .ok (.invokevirtual 272, 3) := by decide +kernel
theorem dX6_back_35 : decode cX6_back 35 = .ok (.aload_n 0, 1) := by decide +kernel
theorem dX6_back_36 : decode cX6_back 36 = .ok (.getfield 7, 3) := by decide +kernel
theorem dX6_back_39 : decode cX6_back 39 = .ok (.bipush 38, 2) := by decide +kernel
theorem dX6_back_41 : decode cX6_back 41 = .ok (.iaload, 1) := by decide +kernel
theorem dX6_back_42 : decode cX6_back 42 = .ok (.ireturn, 1) := by decide +kernel
theorem dX6_isSheet_0 : decode cX6_isSheet 0 = .ok (.iload_n 0, 1) := by decide +kernel
theorem dX6_isSheet_1 : decode cX6_isSheet 1 = .ok (.i2l, 1) := by decide +kernel
theorem dX6_isSheet_2 : decode cX6_isSheet 2 = .ok (.lconst 0, 1) := by decide +kernel
theorem dX6_isSheet_3 : decode cX6_isSheet 3 = .ok (.ldc2_w 208, 3) := by decide +kernel
theorem dX6_isSheet_6 : decode cX6_isSheet 6 = .ok (.invokestatic 59, 3) := by decide +kernel
theorem dX6_isSheet_9 : decode cX6_isSheet 9 = .ok (.ifCond .eq 19, 3) := by decide +kernel
theorem dX6_isSheet_12 : decode cX6_isSheet 12 = .ok (.iload_n 1, 1) := by decide +kernel
theorem dX6_isSheet_13 : decode cX6_isSheet 13 = .ok (.i2l, 1) := by decide +kernel
theorem dX6_isSheet_14 : decode cX6_isSheet 14 = .ok (.lconst 0, 1) := by decide +kernel
theorem dX6_isSheet_15 : decode cX6_isSheet 15 = .ok (.ldc2_w 210, 3) := by decide +kernel
theorem dX6_isSheet_18 : decode cX6_isSheet 18 = .ok (.invokestatic 59, 3) := by decide +kernel
theorem dX6_isSheet_21 : decode cX6_isSheet 21 = .ok (.ifCond .eq 7, 3) := by decide +kernel
theorem dX6_isSheet_24 : decode cX6_isSheet 24 = .ok (.iconst 1, 1) := by decide +kernel
theorem dX6_isSheet_25 : decode cX6_isSheet 25 = .ok (.goto 4, 3) := by decide +kernel
theorem dX6_isSheet_28 : decode cX6_isSheet 28 = .ok (.iconst 0, 1) := by decide +kernel
theorem dX6_isSheet_29 : decode cX6_isSheet 29 = .ok (.ireturn, 1) := by decide +kernel
theorem dX6_sheet_0 : decode cX6_sheet 0 = .ok (.iload_n 1, 1) := by decide +kernel
theorem dX6_sheet_1 : decode cX6_sheet 1 = .ok (.iload_n 2, 1) := by decide +kernel
theorem dX6_sheet_2 : decode cX6_sheet 2 = .ok (.invokestatic 275, 3) := by decide +kernel
theorem dX6_sheet_5 : decode cX6_sheet 5 = .ok (.ifCond .eq 9, 3) := by decide +kernel
theorem dX6_sheet_8 : decode cX6_sheet 8 = .ok (.iload_n 3, 1) := by decide +kernel
theorem dX6_sheet_9 : decode cX6_sheet 9 = .ok (.bipush 40, 2) := by decide +kernel
theorem dX6_sheet_11 : decode cX6_sheet 11 = .ok (.if_icmp .le 5, 3) := by decide +kernel
theorem dX6_sheet_14 : decode cX6_sheet 14 = .ok (.iconst (-1), 1) := by decide +kernel
theorem dX6_sheet_15 : decode cX6_sheet 15 = .ok (.ireturn, 1) := by decide +kernel
theorem dX6_sheet_16 : decode cX6_sheet 16 = .ok (.iload_n 3, 1) := by decide +kernel
theorem dX6_sheet_17 : decode cX6_sheet 17 = .ok (.ifCond .ge 6, 3) := by decide +kernel
theorem dX6_sheet_20 : decode cX6_sheet 20 = .ok (.bipush (-14), 2) := by decide +kernel
theorem dX6_sheet_22 : decode cX6_sheet 22 = .ok (.ireturn, 1) := by decide +kernel
theorem dX6_sheet_23 : decode cX6_sheet 23 = .ok (.aload_n 0, 1) := by decide +kernel
theorem dX6_sheet_24 : decode cX6_sheet 24 = .ok (.getfield 35, 3) := by decide +kernel
theorem dX6_sheet_27 : decode cX6_sheet 27 = .ok (.iload_n 1, 1) := by decide +kernel
theorem dX6_sheet_28 : decode cX6_sheet 28 = .ok (.iload_n 2, 1) := by decide +kernel
theorem dX6_sheet_29 : decode cX6_sheet 29 = .ok (.iastore, 1) := by decide +kernel
theorem dX6_sheet_30 : decode cX6_sheet 30 = .ok (.aload_n 0, 1) := by decide +kernel
theorem dX6_sheet_31 : decode cX6_sheet 31 = .ok (.getfield 38, 3) := by decide +kernel
theorem dX6_sheet_34 : decode cX6_sheet 34 = .ok (.iload_n 1, 1) := by decide +kernel
theorem dX6_sheet_35 : decode cX6_sheet 35 = .ok (.iload_n 3, 1) := by decide +kernel
theorem dX6_sheet_36 : decode cX6_sheet 36 = .ok (.iastore, 1) := by decide +kernel
theorem dX6_sheet_37 : decode cX6_sheet 37 = .ok (.iconst 0, 1) := by decide +kernel
theorem dX6_sheet_38 : decode cX6_sheet 38 = .ok (.istore 4, 2) := by decide +kernel
theorem dX6_sheet_40 : decode cX6_sheet 40 = .ok (.iload 4, 2) := by decide +kernel
theorem dX6_sheet_42 : decode cX6_sheet 42 = .ok (.bipush 40, 2) := by decide +kernel
theorem dX6_sheet_44 : decode cX6_sheet 44 = .ok (.if_icmp .ge 22, 3) := by decide +kernel
theorem dX6_sheet_47 : decode cX6_sheet 47 = .ok (.aload_n 0, 1) := by decide +kernel
theorem dX6_sheet_48 : decode cX6_sheet 48 = .ok (.getfield 41, 3) := by decide +kernel
theorem dX6_sheet_51 : decode cX6_sheet 51 = .ok (.bipush 40, 2) := by decide +kernel
theorem dX6_sheet_53 : decode cX6_sheet 53 = .ok (.iload_n 1, 1) := by decide +kernel
theorem dX6_sheet_54 : decode cX6_sheet 54 = .ok (.imul, 1) := by decide +kernel
theorem dX6_sheet_55 : decode cX6_sheet 55 = .ok (.iload 4, 2) := by decide +kernel
theorem dX6_sheet_57 : decode cX6_sheet 57 = .ok (.iadd, 1) := by decide +kernel
theorem dX6_sheet_58 : decode cX6_sheet 58 = .ok (.iconst 0, 1) := by decide +kernel
theorem dX6_sheet_59 : decode cX6_sheet 59 = .ok (.iastore, 1) := by decide +kernel
theorem dX6_sheet_60 : decode cX6_sheet 60 = .ok (.iinc 4 1, 3) := by decide +kernel
theorem dX6_sheet_63 : decode cX6_sheet 63 = .ok (.goto (-23), 3) := by decide +kernel
theorem dX6_sheet_66 : decode cX6_sheet 66 = .ok (.iconst 1, 1) := by decide +kernel
theorem dX6_sheet_67 : decode cX6_sheet 67 = .ok (.ireturn, 1) := by decide +kernel
theorem dX6_lay_0 : decode cX6_lay 0 = .ok (.iload_n 1, 1) := by decide +kernel
theorem dX6_lay_1 : decode cX6_lay 1 = .ok (.iconst 0, 1) := by decide +kernel
theorem dX6_lay_2 : decode cX6_lay 2 = .ok (.invokestatic 275, 3) := by decide +kernel
theorem dX6_lay_5 : decode cX6_lay 5 = .ok (.ifCond .ne 5, 3) := by decide +kernel
theorem dX6_lay_8 : decode cX6_lay 8 = .ok (.iconst (-1), 1) := by decide +kernel
theorem dX6_lay_9 : decode cX6_lay 9 = .ok (.ireturn, 1) := by decide +kernel
theorem dX6_lay_10 : decode cX6_lay 10 = .ok (.aload_n 0, 1) := by decide +kernel
theorem dX6_lay_11 : decode cX6_lay 11 = .ok (.getfield 35, 3) := by decide +kernel
theorem dX6_lay_14 : decode cX6_lay 14 = .ok (.iload_n 1, 1) := by decide +kernel
theorem dX6_lay_15 : decode cX6_lay 15 = .ok (.iaload, 1) := by decide +kernel
theorem dX6_lay_16 : decode cX6_lay 16 = .ok (.bipush (-4), 2) := by decide +kernel
theorem dX6_lay_18 : decode cX6_lay 18 = .ok (.if_icmp .ne 6, 3) := by decide +kernel
theorem dX6_lay_21 : decode cX6_lay 21 = .ok (.bipush (-11), 2) := by decide +kernel
theorem dX6_lay_23 : decode cX6_lay 23 = .ok (.ireturn, 1) := by decide +kernel
theorem dX6_lay_24 : decode cX6_lay 24 = .ok (.iload_n 2, 1) := by decide +kernel
theorem dX6_lay_25 : decode cX6_lay 25 = .ok (.i2l, 1) := by decide +kernel
theorem dX6_lay_26 : decode cX6_lay 26 = .ok (.lconst 0, 1) := by decide +kernel
theorem dX6_lay_27 : decode cX6_lay 27 = .ok (.aload_n 0, 1) := by decide +kernel
theorem dX6_lay_28 : decode cX6_lay 28 = .ok (.getfield 38, 3) := by decide +kernel
theorem dX6_lay_31 : decode cX6_lay 31 = .ok (.iload_n 1, 1) := by decide +kernel
theorem dX6_lay_32 : decode cX6_lay 32 = .ok (.iaload, 1) := by decide +kernel
theorem dX6_lay_33 : decode cX6_lay 33 = .ok (.iconst 1, 1) := by decide +kernel
theorem dX6_lay_34 : decode cX6_lay 34 = .ok (.isub, 1) := by decide +kernel
theorem dX6_lay_35 : decode cX6_lay 35 = .ok (.i2l, 1) := by decide +kernel
theorem dX6_lay_36 : decode cX6_lay 36 = .ok (.invokestatic 59, 3) := by decide +kernel
theorem dX6_lay_39 : decode cX6_lay 39 = .ok (.ifCond .ne 6, 3) := by decide +kernel
theorem dX6_lay_42 : decode cX6_lay 42 = .ok (.bipush (-12), 2) := by decide +kernel
theorem dX6_lay_44 : decode cX6_lay 44 = .ok (.ireturn, 1) := by decide +kernel
theorem dX6_lay_45 : decode cX6_lay 45 = .ok (.aload_n 0, 1) := by decide +kernel
theorem dX6_lay_46 : decode cX6_lay 46 = .ok (.getfield 41, 3) := by decide +kernel
theorem dX6_lay_49 : decode cX6_lay 49 = .ok (.bipush 40, 2) := by decide +kernel
theorem dX6_lay_51 : decode cX6_lay 51 = .ok (.iload_n 1, 1) := by decide +kernel
theorem dX6_lay_52 : decode cX6_lay 52 = .ok (.imul, 1) := by decide +kernel
theorem dX6_lay_53 : decode cX6_lay 53 = .ok (.iload_n 2, 1) := by decide +kernel
theorem dX6_lay_54 : decode cX6_lay 54 = .ok (.iadd, 1) := by decide +kernel
theorem dX6_lay_55 : decode cX6_lay 55 = .ok (.aload_n 0, 1) := by decide +kernel
theorem dX6_lay_56 : decode cX6_lay 56 = .ok (.getfield 35, 3) := by decide +kernel
theorem dX6_lay_59 : decode cX6_lay 59 = .ok (.iload_n 1, 1) := by decide +kernel
theorem dX6_lay_60 : decode cX6_lay 60 = .ok (.iaload, 1) := by decide +kernel
theorem dX6_lay_61 : decode cX6_lay 61 = .ok (.ifCond .ne 8, 3) := by decide +kernel
theorem dX6_lay_64 : decode cX6_lay 64 = .ok (.iload_n 3, 1) := by decide +kernel
theorem dX6_lay_65 : decode cX6_lay 65 = .ok (.i2b, 1) := by decide +kernel
theorem dX6_lay_66 : decode cX6_lay 66 = .ok (.goto 19, 3) := by decide +kernel
theorem dX6_lay_69 : decode cX6_lay 69 = .ok (.aload_n 0, 1) := by decide +kernel
theorem dX6_lay_70 : decode cX6_lay 70 = .ok (.getfield 35, 3) := by decide +kernel
theorem dX6_lay_73 : decode cX6_lay 73 = .ok (.iload_n 1, 1) := by decide +kernel
theorem dX6_lay_74 : decode cX6_lay 74 = .ok (.iaload, 1) := by decide +kernel
theorem dX6_lay_75 : decode cX6_lay 75 = .ok (.iconst 1, 1) := by decide +kernel
theorem dX6_lay_76 : decode cX6_lay 76 = .ok (.if_icmp .ne 8, 3) := by decide +kernel
theorem dX6_lay_79 : decode cX6_lay 79 = .ok (.iload_n 3, 1) := by decide +kernel
theorem dX6_lay_80 : decode cX6_lay 80 = .ok (.i2s, 1) := by decide +kernel
theorem dX6_lay_81 : decode cX6_lay 81 = .ok (.goto 4, 3) := by decide +kernel
theorem dX6_lay_84 : decode cX6_lay 84 = .ok (.iload_n 3, 1) := by decide +kernel
theorem dX6_lay_85 : decode cX6_lay 85 = .ok (.iastore, 1) := by decide +kernel
theorem dX6_lay_86 : decode cX6_lay 86 = .ok (.iconst 1, 1) := by decide +kernel
theorem dX6_lay_87 : decode cX6_lay 87 = .ok (.ireturn, 1) := by decide +kernel
theorem dX6_read_0 : decode cX6_read 0 = .ok (.iload_n 1, 1) := by decide +kernel
theorem dX6_read_1 : decode cX6_read 1 = .ok (.iload_n 2, 1) := by decide +kernel
theorem dX6_read_2 : decode cX6_read 2 = .ok (.invokestatic 275, 3) := by decide +kernel
theorem dX6_read_5 : decode cX6_read 5 = .ok (.ifCond .eq 16, 3) := by decide +kernel
theorem dX6_read_8 : decode cX6_read 8 = .ok (.iload 4, 2) := by decide +kernel
theorem dX6_read_10 : decode cX6_read 10 = .ok (.i2l, 1) := by decide +kernel
theorem dX6_read_11 : decode cX6_read 11 = .ok (.lconst 0, 1) := by decide +kernel
theorem dX6_read_12 : decode cX6_read 12 = .ok (.ldc2_w 278, 3) := by decide +kernel
theorem dX6_read_15 : decode cX6_read 15 = .ok (.invokestatic 59, 3) := by decide +kernel
theorem dX6_read_18 : decode cX6_read 18 = .ok (.ifCond .ne 5, 3) := by decide +kernel
theorem dX6_read_21 : decode cX6_read 21 = .ok (.iconst (-1), 1) := by decide +kernel
theorem dX6_read_22 : decode cX6_read 22 = .ok (.ireturn, 1) := by decide +kernel
theorem dX6_read_23 : decode cX6_read 23 = .ok (.iconst 0, 1) := by decide +kernel
theorem dX6_read_24 : decode cX6_read 24 = .ok (.istore 5, 2) := by decide +kernel
theorem dX6_read_26 : decode cX6_read 26 = .ok (.iload 5, 2) := by decide +kernel
theorem dX6_read_28 : decode cX6_read 28 = .ok (.bipush 60, 2) := by decide +kernel
theorem dX6_read_30 : decode cX6_read 30 = .ok (.if_icmp .ge 23, 3) := by decide +kernel
theorem dX6_read_33 : decode cX6_read 33 = .ok (.aload_n 0, 1) := by decide +kernel
theorem dX6_read_34 : decode cX6_read 34 = .ok (.getfield 44, 3) := by decide +kernel
theorem dX6_read_37 : decode cX6_read 37 = .ok (.iload 5, 2) := by decide +kernel
theorem dX6_read_39 : decode cX6_read 39 = .ok (.aload_n 0, 1) := by decide +kernel
theorem dX6_read_40 : decode cX6_read 40 = .ok (.getfield 7, 3) := by decide +kernel
theorem dX6_read_43 : decode cX6_read 43 = .ok (.iload 5, 2) := by decide +kernel
theorem dX6_read_45 : decode cX6_read 45 = .ok (.iaload, 1) := by decide +kernel
theorem dX6_read_46 : decode cX6_read 46 = .ok (.iastore, 1) := by decide +kernel
theorem dX6_read_47 : decode cX6_read 47 = .ok (.iinc 5 1, 3) := by decide +kernel
theorem dX6_read_50 : decode cX6_read 50 = .ok (.goto (-24), 3) := by decide +kernel
theorem dX6_read_53 : decode cX6_read 53 = .ok (.iconst 0, 1) := by decide +kernel
theorem dX6_read_54 : decode cX6_read 54 = .ok (.istore 5, 2) := by decide +kernel
theorem dX6_read_56 : decode cX6_read 56 = .ok (.iconst 0, 1) := by decide +kernel
theorem dX6_read_57 : decode cX6_read 57 = .ok (.istore 6, 2) := by decide +kernel
theorem dX6_read_59 : decode cX6_read 59 = .ok (.iconst 0, 1) := by decide +kernel
theorem dX6_read_60 : decode cX6_read 60 = .ok (.istore 7, 2) := by decide +kernel
theorem dX6_read_62 : decode cX6_read 62 = .ok (.iload 7, 2) := by decide +kernel
theorem dX6_read_64 : decode cX6_read 64 = .ok (.iload 4, 2) := by decide +kernel
theorem dX6_read_66 : decode cX6_read 66 = .ok (.if_icmp .ge 184, 3) := by decide +kernel
theorem dX6_read_69 : decode cX6_read 69 = .ok (.iload 5, 2) := by decide +kernel
theorem dX6_read_71 : decode cX6_read 71 = .ok (.ifCond .ne 179, 3) := by decide +kernel
theorem dX6_read_74 : decode cX6_read 74 = .ok (.iconst 0, 1) := by decide +kernel
theorem dX6_read_75 : decode cX6_read 75 = .ok (.istore 8, 2) := by decide +kernel
theorem dX6_read_77 : decode cX6_read 77 = .ok (.iload 8, 2) := by decide +kernel
theorem dX6_read_79 : decode cX6_read 79 = .ok (.iconst 2, 1) := by decide +kernel
theorem dX6_read_80 : decode cX6_read 80 = .ok (.if_icmp .ge 84, 3) := by decide +kernel
theorem dX6_read_83 : decode cX6_read 83 = .ok (.iload 5, 2) := by decide +kernel
theorem dX6_read_85 : decode cX6_read 85 = .ok (.ifCond .ne 79, 3) := by decide +kernel
theorem dX6_read_88 : decode cX6_read 88 = .ok (.iload_n 3, 1) := by decide +kernel
theorem dX6_read_89 : decode cX6_read 89 = .ok (.i2l, 1) := by decide +kernel
theorem dX6_read_90 : decode cX6_read 90 = .ok (.iconst 2, 1) := by decide +kernel
theorem dX6_read_91 : decode cX6_read 91 = .ok (.iload 7, 2) := by decide +kernel
theorem dX6_read_93 : decode cX6_read 93 = .ok (.imul, 1) := by decide +kernel
theorem dX6_read_94 : decode cX6_read 94 = .ok (.i2l, 1) := by decide +kernel
theorem dX6_read_95 : decode cX6_read 95 = .ok (.ladd, 1) := by decide +kernel
theorem dX6_read_96 : decode cX6_read 96 = .ok (.iload 8, 2) := by decide +kernel
theorem dX6_read_98 : decode cX6_read 98 = .ok (.i2l, 1) := by decide +kernel
theorem dX6_read_99 : decode cX6_read 99 = .ok (.ladd, 1) := by decide +kernel
theorem dX6_read_100 : decode cX6_read 100 = .ok (.lstore 9, 2) := by decide +kernel
theorem dX6_read_102 : decode cX6_read 102 = .ok (.aload_n 0, 1) := by decide +kernel
theorem dX6_read_103 : decode cX6_read 103 = .ok (.getfield 35, 3) := by decide +kernel
theorem dX6_read_106 : decode cX6_read 106 = .ok (.iload_n 1, 1) := by decide +kernel
theorem dX6_read_107 : decode cX6_read 107 = .ok (.iaload, 1) := by decide +kernel
theorem dX6_read_108 : decode cX6_read 108 = .ok (.bipush (-4), 2) := by decide +kernel
theorem dX6_read_110 : decode cX6_read 110 = .ok (.if_icmp .ne 7, 3) := by decide +kernel
theorem dX6_read_113 : decode cX6_read 113 = .ok (.iconst 1, 1) := by decide +kernel
theorem dX6_read_114 : decode cX6_read 114 = .ok (.goto 42, 3) := by decide +kernel
theorem dX6_read_117 : decode cX6_read 117 = .ok (.aload_n 0, 1) := by decide +kernel
theorem dX6_read_118 : decode cX6_read 118 = .ok (.getfield 35, 3) := by decide +kernel
theorem dX6_read_121 : decode cX6_read 121 = .ok (.iload_n 1, 1) := by decide +kernel
theorem dX6_read_122 : decode cX6_read 122 = .ok (.iaload, 1) := by decide +kernel
theorem dX6_read_123 : decode cX6_read 123 = .ok (.iload_n 2, 1) := by decide +kernel
theorem dX6_read_124 : decode cX6_read 124 = .ok (.if_icmp .eq 7, 3) := by decide +kernel
theorem dX6_read_127 : decode cX6_read 127 = .ok (.iconst 3, 1) := by decide +kernel
theorem dX6_read_128 : decode cX6_read 128 = .ok (.goto 28, 3) := by decide +kernel
theorem dX6_read_131 : decode cX6_read 131 = .ok (.lload 9, 2) := by decide +kernel
theorem dX6_read_133 : decode cX6_read 133 = .ok (.lconst 0, 1) := by decide +kernel
theorem dX6_read_134 : decode cX6_read 134 = .ok (.lcmp, 1) := by decide +kernel
theorem dX6_read_135 : decode cX6_read 135 = .ok (.ifCond .lt 16, 3) := by decide +kernel
theorem dX6_read_138 : decode cX6_read 138 = .ok (.lload 9, 2) := by decide +kernel
theorem dX6_read_140 : decode cX6_read 140 = .ok (.aload_n 0, 1) := by decide +kernel
theorem dX6_read_141 : decode cX6_read 141 = .ok (.getfield 38, 3) := by decide +kernel
theorem dX6_read_144 : decode cX6_read 144 = .ok (.iload_n 1, 1) := by decide +kernel
theorem dX6_read_145 : decode cX6_read 145 = .ok (.iaload, 1) := by decide +kernel
theorem dX6_read_146 : decode cX6_read 146 = .ok (.i2l, 1) := by decide +kernel
theorem dX6_read_147 : decode cX6_read 147 = .ok (.lcmp, 1) := by decide +kernel
theorem dX6_read_148 : decode cX6_read 148 = .ok (.ifCond .lt 7, 3) := by decide +kernel
theorem dX6_read_151 : decode cX6_read 151 = .ok (.iconst 2, 1) := by decide +kernel
theorem dX6_read_152 : decode cX6_read 152 = .ok (.goto 4, 3) := by decide +kernel
theorem dX6_read_155 : decode cX6_read 155 = .ok (.iconst 0, 1) := by decide +kernel
theorem dX6_read_156 : decode cX6_read 156 = .ok (.istore 5, 2) := by decide +kernel
theorem dX6_read_158 : decode cX6_read 158 = .ok (.iinc 8 1, 3) := by decide +kernel
theorem dX6_read_161 : decode cX6_read 161 = .ok (.goto (-84), 3) := by decide +kernel
theorem dX6_read_164 : decode cX6_read 164 = .ok (.iload 5, 2) := by decide +kernel
theorem dX6_read_166 : decode cX6_read 166 = .ok (.ifCond .ne 78, 3) := by decide +kernel
theorem dX6_read_169 : decode cX6_read 169 = .ok (.bipush 40, 2) := by decide +kernel
theorem dX6_read_171 : decode cX6_read 171 = .ok (.iload_n 1, 1) := by decide +kernel
theorem dX6_read_172 : decode cX6_read 172 = .ok (.imul, 1) := by decide +kernel
theorem dX6_read_173 : decode cX6_read 173 = .ok (.iload_n 3, 1) := by decide +kernel
theorem dX6_read_174 : decode cX6_read 174 = .ok (.iadd, 1) := by decide +kernel
theorem dX6_read_175 : decode cX6_read 175 = .ok (.iconst 2, 1) := by decide +kernel
theorem dX6_read_176 : decode cX6_read 176 = .ok (.iload 7, 2) := by decide +kernel
theorem dX6_read_178 : decode cX6_read 178 = .ok (.imul, 1) := by decide +kernel
theorem dX6_read_179 : decode cX6_read 179 = .ok (.iadd, 1) := by decide +kernel
theorem dX6_read_180 : decode cX6_read 180 = .ok (.istore 8, 2) := by decide +kernel
theorem dX6_read_182 : decode cX6_read 182 = .ok (.aload_n 0, 1) := by decide +kernel
theorem dX6_read_183 : decode cX6_read 183 = .ok (.aload_n 0, 1) := by decide +kernel
theorem dX6_read_184 : decode cX6_read 184 = .ok (.getfield 41, 3) := by decide +kernel
theorem dX6_read_187 : decode cX6_read 187 = .ok (.iload 8, 2) := by decide +kernel
theorem dX6_read_189 : decode cX6_read 189 = .ok (.iaload, 1) := by decide +kernel
theorem dX6_read_190 : decode cX6_read 190 = .ok (.aload_n 0, 1) := by decide +kernel
theorem dX6_read_191 : decode cX6_read 191 = .ok (.getfield 41, 3) := by decide +kernel
theorem dX6_read_194 : decode cX6_read 194 = .ok (.iload 8, 2) := by decide +kernel
theorem dX6_read_196 : decode cX6_read 196 = .ok (.iconst 1, 1) := by decide +kernel
theorem dX6_read_197 : decode cX6_read 197 = .ok (.iadd, 1) := by decide +kernel
theorem dX6_read_198 : decode cX6_read 198 = .ok (.iaload, 1) := by decide +kernel
theorem dX6_read_199 : decode cX6_read 199 = .ok (.invokevirtual 280, 3) := by decide +kernel
theorem dX6_read_202 : decode cX6_read 202 = .ok (.ifCond .ge 39, 3) := by decide +kernel
theorem dX6_read_205 : decode cX6_read 205 = .ok (.iconst 0, 1) := by decide +kernel
theorem dX6_read_206 : decode cX6_read 206 = .ok (.istore 9, 2) := by decide +kernel
theorem dX6_read_208 : decode cX6_read 208 = .ok (.iload 9, 2) := by decide +kernel
theorem dX6_read_210 : decode cX6_read 210 = .ok (.bipush 60, 2) := by decide +kernel
theorem dX6_read_212 : decode cX6_read 212 = .ok (.if_icmp .ge 23, 3) := by decide +kernel
theorem dX6_read_215 : decode cX6_read 215 = .ok (.aload_n 0, 1) := by decide +kernel
theorem dX6_read_216 : decode cX6_read 216 = .ok (.getfield 7, 3) := by decide +kernel
theorem dX6_read_219 : decode cX6_read 219 = .ok (.iload 9, 2) := by decide +kernel
theorem dX6_read_221 : decode cX6_read 221 = .ok (.aload_n 0, 1) := by decide +kernel
theorem dX6_read_222 : decode cX6_read 222 = .ok (.getfield 44, 3) := by decide +kernel
theorem dX6_read_225 : decode cX6_read 225 = .ok (.iload 9, 2) := by decide +kernel
theorem dX6_read_227 : decode cX6_read 227 = .ok (.iaload, 1) := by decide +kernel
theorem dX6_read_228 : decode cX6_read 228 = .ok (.iastore, 1) := by decide +kernel
theorem dX6_read_229 : decode cX6_read 229 = .ok (.iinc 9 1, 3) := by decide +kernel
theorem dX6_read_232 : decode cX6_read 232 = .ok (.goto (-24), 3) := by decide +kernel
theorem dX6_read_235 : decode cX6_read 235 = .ok (.bipush (-20), 2) := by decide +kernel
theorem dX6_read_237 : decode cX6_read 237 = .ok (.iload 7, 2) := by decide +kernel
theorem dX6_read_239 : decode cX6_read 239 = .ok (.isub, 1) := by decide +kernel
theorem dX6_read_240 : decode cX6_read 240 = .ok (.ireturn, 1) := by decide +kernel
theorem dX6_read_241 : decode cX6_read 241 = .ok (.iinc 6 1, 3) := by decide +kernel
theorem dX6_read_244 : decode cX6_read 244 = .ok (.iinc 7 1, 3) := by decide +kernel
theorem dX6_read_247 : decode cX6_read 247 = .ok (.goto (-185), 3) := by decide +kernel
theorem dX6_read_250 : decode cX6_read 250 = .ok (.aload_n 0, 1) := by decide +kernel
theorem dX6_read_251 : decode cX6_read 251 = .ok (.iload 5, 2) := by decide +kernel
theorem dX6_read_253 : decode cX6_read 253 = .ok (.putfield 283, 3) := by decide +kernel
theorem dX6_read_256 : decode cX6_read 256 = .ok (.iload 6, 2) := by decide +kernel
theorem dX6_read_258 : decode cX6_read 258 = .ok (.ireturn, 1) := by decide +kernel
theorem dX6_torn_0 : decode cX6_torn 0 = .ok (.aload_n 0, 1) := by decide +kernel
theorem dX6_torn_1 : decode cX6_torn 1 = .ok (.getfield 283, 3) := by decide +kernel
theorem dX6_torn_4 : decode cX6_torn 4 = .ok (.ireturn, 1) := by decide +kernel
theorem dX6_count_0 : decode cX6_count 0 = .ok (.aload_n 0, 1) := by decide +kernel
theorem dX6_count_1 : decode cX6_count 1 = .ok (.invokevirtual 174, 3) := by decide +kernel
theorem dX6_count_4 : decode cX6_count 4 = .ok (.iload_n 1, 1) := by decide +kernel
theorem dX6_count_5 : decode cX6_count 5 = .ok (.tableswitch 107 0 5 #[39, 47, 67, 72, 95, 101], 39) := by decide +kernel
theorem dX6_count_44 : decode cX6_count 44 = .ok (.aload_n 0, 1) := by decide +kernel
theorem dX6_count_45 : decode cX6_count 45 = .ok (.getfield 7, 3) := by decide +kernel
theorem dX6_count_48 : decode cX6_count 48 = .ok (.bipush 41, 2) := by decide +kernel
theorem dX6_count_50 : decode cX6_count 50 = .ok (.iaload, 1) := by decide +kernel
theorem dX6_count_51 : decode cX6_count 51 = .ok (.ireturn, 1) := by decide +kernel
theorem dX6_count_52 : decode cX6_count 52 = .ok (.aload_n 0, 1) := by decide +kernel
theorem dX6_count_53 : decode cX6_count 53 = .ok (.getfield 16, 3) := by decide +kernel
theorem dX6_count_56 : decode cX6_count 56 = .ok (.iconst 0, 1) := by decide +kernel
theorem dX6_count_57 : decode cX6_count 57 = .ok (.baload, 1) := by decide +kernel
theorem dX6_count_58 : decode cX6_count 58 = .ok (.invokestatic 163, 3) := by decide +kernel
theorem dX6_count_61 : decode cX6_count 61 = .ok (.aload_n 0, 1) := by decide +kernel
theorem dX6_count_62 : decode cX6_count 62 = .ok (.getfield 16, 3) := by decide +kernel
theorem dX6_count_65 : decode cX6_count 65 = .ok (.iconst 1, 1) := by decide +kernel
theorem dX6_count_66 : decode cX6_count 66 = .ok (.baload, 1) := by decide +kernel
theorem dX6_count_67 : decode cX6_count 67 = .ok (.invokestatic 163, 3) := by decide +kernel
theorem dX6_count_70 : decode cX6_count 70 = .ok (.iadd, 1) := by decide +kernel
theorem dX6_count_71 : decode cX6_count 71 = .ok (.ireturn, 1) := by decide +kernel
theorem dX6_count_72 : decode cX6_count 72 = .ok (.aload_n 0, 1) := by decide +kernel
theorem dX6_count_73 : decode cX6_count 73 = .ok (.getfield 63, 3) := by decide +kernel
theorem dX6_count_76 : decode cX6_count 76 = .ok (.ireturn, 1) := by decide +kernel
theorem dX6_count_77 : decode cX6_count 77 = .ok (.aload_n 0, 1) := by decide +kernel
theorem dX6_count_78 : decode cX6_count 78 = .ok (.getfield 35, 3) := by decide +kernel
theorem dX6_count_81 : decode cX6_count 81 = .ok (.iconst 0, 1) := by decide +kernel
theorem dX6_count_82 : decode cX6_count 82 = .ok (.iaload, 1) := by decide +kernel
theorem dX6_count_83 : decode cX6_count 83 = .ok (.bipush (-4), 2) := by decide +kernel
theorem dX6_count_85 : decode cX6_count 85 = .ok (.if_icmp .ne 8, 3) := by decide +kernel
theorem dX6_count_88 : decode cX6_count 88 = .ok (.bipush (-4), 2) := by decide +kernel
theorem dX6_count_90 : decode cX6_count 90 = .ok (.goto 9, 3) := by decide +kernel
theorem dX6_count_93 : decode cX6_count 93 = .ok (.aload_n 0, 1) := by decide +kernel
theorem dX6_count_94 : decode cX6_count 94 = .ok (.getfield 38, 3) := by decide +kernel
theorem dX6_count_97 : decode cX6_count 97 = .ok (.iconst 0, 1) := by decide +kernel
theorem dX6_count_98 : decode cX6_count 98 = .ok (.iaload, 1) := by decide +kernel
theorem dX6_count_99 : decode cX6_count 99 = .ok (.ireturn, 1) := by decide +kernel
theorem dX6_count_100 : decode cX6_count 100 = .ok (.aload_n 0, 1) := by decide +kernel
theorem dX6_count_101 : decode cX6_count 101 = .ok (.iconst 4, 1) := by decide +kernel
theorem dX6_count_102 : decode cX6_count 102 = .ok (.invokevirtual 177, 3) := by decide +kernel
theorem dX6_count_105 : decode cX6_count 105 = .ok (.ireturn, 1) := by decide +kernel
theorem dX6_count_106 : decode cX6_count 106 = .ok (.aload_n 0, 1) := by decide +kernel
theorem dX6_count_107 : decode cX6_count 107 = .ok (.iconst 3, 1) := by decide +kernel
theorem dX6_count_108 : decode cX6_count 108 = .ok (.invokevirtual 177, 3) := by decide +kernel
theorem dX6_count_111 : decode cX6_count 111 = .ok (.ireturn, 1) := by decide +kernel
theorem dX6_count_112 : decode cX6_count 112 = .ok (.iconst (-1), 1) := by decide +kernel
theorem dX6_count_113 : decode cX6_count 113 = .ok (.ireturn, 1) := by decide +kernel
end
section
theorem dX5_init_0 : decode cX5_init 0 = .ok (.aload_n 0, 1) := by decide +kernel
theorem dX5_init_1 : decode cX5_init 1 = .ok (.invokespecial 1, 3) := by decide +kernel
theorem dX5_init_4 : decode cX5_init 4 = .ok (.aload_n 0, 1) := by decide +kernel
theorem dX5_init_5 : decode cX5_init 5 = .ok (.new 7, 3) := by decide +kernel
theorem dX5_init_8 : decode cX5_init 8 = .ok (.dup, 1) := by decide +kernel
theorem dX5_init_9 : decode cX5_init 9 = .ok (.invokespecial 9, 3) := by decide +kernel
theorem dX5_init_12 : decode cX5_init 12 = .ok (.putfield 10, 3) := by decide +kernel
theorem dX5_init_15 : decode cX5_init 15 = .ok (.aload_n 0, 1) := by decide +kernel
theorem dX5_init_16 : decode cX5_init 16 = .ok (.new 7, 3) := by decide +kernel
theorem dX5_init_19 : decode cX5_init 19 = .ok (.dup, 1) := by decide +kernel
theorem dX5_init_20 : decode cX5_init 20 = .ok (.invokespecial 9, 3) := by decide +kernel
theorem dX5_init_23 : decode cX5_init 23 = .ok (.putfield 16, 3) := by decide +kernel
theorem dX5_init_26 : decode cX5_init 26 = .ok (.aload_n 0, 1) := by decide +kernel
theorem dX5_init_27 : decode cX5_init 27 = .ok (.new 19, 3) := by decide +kernel
theorem dX5_init_30 : decode cX5_init 30 = .ok (.dup, 1) := by decide +kernel
theorem dX5_init_31 : decode cX5_init 31 = .ok (.invokespecial 21, 3) := by decide +kernel
theorem dX5_init_34 : decode cX5_init 34 = .ok (.putfield 22, 3) := by decide +kernel
theorem dX5_init_37 : decode cX5_init 37 = .ok (.aload_n 0, 1) := by decide +kernel
theorem dX5_init_38 : decode cX5_init 38 = .ok (.new 26, 3) := by decide +kernel
theorem dX5_init_41 : decode cX5_init 41 = .ok (.dup, 1) := by decide +kernel
theorem dX5_init_42 : decode cX5_init 42 = .ok (.invokespecial 28, 3) := by decide +kernel
theorem dX5_init_45 : decode cX5_init 45 = .ok (.putfield 29, 3) := by decide +kernel
theorem dX5_init_48 : decode cX5_init 48 = .ok (.aload_n 0, 1) := by decide +kernel
theorem dX5_init_49 : decode cX5_init 49 = .ok (.iconst 2, 1) := by decide +kernel
theorem dX5_init_50 : decode cX5_init 50 = .ok (.anewarray 33, 3) := by decide +kernel
theorem dX5_init_53 : decode cX5_init 53 = .ok (.putfield 35, 3) := by decide +kernel
theorem dX5_init_56 : decode cX5_init 56 = .ok (.aload_n 0, 1) := by decide +kernel
theorem dX5_init_57 : decode cX5_init 57 = .ok (.iconst 4, 1) := by decide +kernel
theorem dX5_init_58 : decode cX5_init 58 = .ok (.anewarray 39, 3) := by decide +kernel
theorem dX5_init_61 : decode cX5_init 61 = .ok (.putfield 41, 3) := by decide +kernel
theorem dX5_init_64 : decode cX5_init 64 = .ok (.aload_n 0, 1) := by decide +kernel
theorem dX5_init_65 : decode cX5_init 65 = .ok (.bipush 10, 2) := by decide +kernel
theorem dX5_init_67 : decode cX5_init 67 = .ok (.bipush 41, 2) := by decide +kernel
theorem dX5_init_69 : decode cX5_init 69 = .ok (.multianewarray 45 2, 4) := by decide +kernel
theorem dX5_init_73 : decode cX5_init 73 = .ok (.putfield 47, 3) := by decide +kernel
theorem dX5_init_76 : decode cX5_init 76 = .ok (.iconst 0, 1) := by decide +kernel
theorem dX5_init_77 : decode cX5_init 77 = .ok (.istore_n 1, 1) := by decide +kernel
theorem dX5_init_78 : decode cX5_init 78 = .ok (.iload_n 1, 1) := by decide +kernel
theorem dX5_init_79 : decode cX5_init 79 = .ok (.iconst 2, 1) := by decide +kernel
theorem dX5_init_80 : decode cX5_init 80 = .ok (.if_icmp .ge 22, 3) := by decide +kernel
theorem dX5_init_83 : decode cX5_init 83 = .ok (.aload_n 0, 1) := by decide +kernel
theorem dX5_init_84 : decode cX5_init 84 = .ok (.getfield 35, 3) := by decide +kernel
theorem dX5_init_87 : decode cX5_init 87 = .ok (.iload_n 1, 1) := by decide +kernel
theorem dX5_init_88 : decode cX5_init 88 = .ok (.new 33, 3) := by decide +kernel
theorem dX5_init_91 : decode cX5_init 91 = .ok (.dup, 1) := by decide +kernel
theorem dX5_init_92 : decode cX5_init 92 = .ok (.invokespecial 50, 3) := by decide +kernel
theorem dX5_init_95 : decode cX5_init 95 = .ok (.aastore, 1) := by decide +kernel
theorem dX5_init_96 : decode cX5_init 96 = .ok (.iinc 1 1, 3) := by decide +kernel
theorem dX5_init_99 : decode cX5_init 99 = .ok (.goto (-21), 3) := by decide +kernel
theorem dX5_init_102 : decode cX5_init 102 = .ok (.iconst 0, 1) := by decide +kernel
theorem dX5_init_103 : decode cX5_init 103 = .ok (.istore_n 1, 1) := by decide +kernel
theorem dX5_init_104 : decode cX5_init 104 = .ok (.iload_n 1, 1) := by decide +kernel
theorem dX5_init_105 : decode cX5_init 105 = .ok (.iconst 4, 1) := by decide +kernel
theorem dX5_init_106 : decode cX5_init 106 = .ok (.if_icmp .ge 22, 3) := by decide +kernel
theorem dX5_init_109 : decode cX5_init 109 = .ok (.aload_n 0, 1) := by decide +kernel
theorem dX5_init_110 : decode cX5_init 110 = .ok (.getfield 41, 3) := by decide +kernel
theorem dX5_init_113 : decode cX5_init 113 = .ok (.iload_n 1, 1) := by decide +kernel
theorem dX5_init_114 : decode cX5_init 114 = .ok (.new 39, 3) := by decide +kernel
theorem dX5_init_117 : decode cX5_init 117 = .ok (.dup, 1) := by decide +kernel
theorem dX5_init_118 : decode cX5_init 118 = .ok (.invokespecial 51, 3) := by decide +kernel
theorem dX5_init_121 : decode cX5_init 121 = .ok (.aastore, 1) := by decide +kernel
theorem dX5_init_122 : decode cX5_init 122 = .ok (.iinc 1 1, 3) := by decide +kernel
theorem dX5_init_125 : decode cX5_init 125 = .ok (.goto (-21), 3) := by decide +kernel
theorem dX5_init_128 : decode cX5_init 128 = .ok (.return_, 1) := by decide +kernel
theorem dX5_feed_0 : decode cX5_feed 0 = .ok (.iload_n 1, 1) := by decide +kernel
theorem dX5_feed_1 : decode cX5_feed 1 = .ok (.iconst 0, 1) := by decide +kernel
theorem dX5_feed_2 : decode cX5_feed 2 = .ok (.bipush 127, 2) := by decide +kernel
theorem dX5_feed_4 : decode cX5_feed 4 = .ok (.invokestatic 52, 3) := by decide +kernel
theorem dX5_feed_7 : decode cX5_feed 7 = .ok (.ifCond .eq 5, 3) := by decide +kernel
theorem dX5_feed_10 : decode cX5_feed 10 = .ok (.iconst (-1), 1) := by decide +kernel
theorem dX5_feed_11 : decode cX5_feed 11 = .ok (.ireturn, 1) := by decide +kernel
theorem dX5_feed_12 : decode cX5_feed 12 = .ok (.aload_n 0, 1) := by decide +kernel
theorem dX5_feed_13 : decode cX5_feed 13 = .ok (.getfield 29, 3) := by decide +kernel
theorem dX5_feed_16 : decode cX5_feed 16 = .ok (.getfield 56, 3) := by decide +kernel
theorem dX5_feed_19 : decode cX5_feed 19 = .ok (.sipush 160, 3) := by decide +kernel
theorem dX5_feed_22 : decode cX5_feed 22 = .ok (.if_icmp .lt 6, 3) := by decide +kernel
theorem dX5_feed_25 : decode cX5_feed 25 = .ok (.bipush (-3), 2) := by decide +kernel
theorem dX5_feed_27 : decode cX5_feed 27 = .ok (.ireturn, 1) := by decide +kernel
theorem dX5_feed_28 : decode cX5_feed 28 = .ok (.aload_n 0, 1) := by decide +kernel
theorem dX5_feed_29 : decode cX5_feed 29 = .ok (.getfield 29, 3) := by decide +kernel
theorem dX5_feed_32 : decode cX5_feed 32 = .ok (.getfield 60, 3) := by decide +kernel
theorem dX5_feed_35 : decode cX5_feed 35 = .ok (.aload_n 0, 1) := by decide +kernel
theorem dX5_feed_36 : decode cX5_feed 36 = .ok (.getfield 29, 3) := by decide +kernel
theorem dX5_feed_39 : decode cX5_feed 39 = .ok (.getfield 56, 3) := by decide +kernel
theorem dX5_feed_42 : decode cX5_feed 42 = .ok (.iload_n 1, 1) := by decide +kernel
theorem dX5_feed_43 : decode cX5_feed 43 = .ok (.i2b, 1) := by decide +kernel
theorem dX5_feed_44 : decode cX5_feed 44 = .ok (.bastore, 1) := by decide +kernel
theorem dX5_feed_45 : decode cX5_feed 45 = .ok (.aload_n 0, 1) := by decide +kernel
theorem dX5_feed_46 : decode cX5_feed 46 = .ok (.getfield 29, 3) := by decide +kernel
theorem dX5_feed_49 : decode cX5_feed 49 = .ok (.dup, 1) := by decide +kernel
theorem dX5_feed_50 : decode cX5_feed 50 = .ok (.getfield 56, 3) := by decide +kernel
theorem dX5_feed_53 : decode cX5_feed 53 = .ok (.iconst 1, 1) := by decide +kernel
theorem dX5_feed_54 : decode cX5_feed 54 = .ok (.iadd, 1) := by decide +kernel
theorem dX5_feed_55 : decode cX5_feed 55 = .ok (.putfield 56, 3) := by decide +kernel
theorem dX5_feed_58 : decode cX5_feed 58 = .ok (.aload_n 0, 1) := by decide +kernel
theorem dX5_feed_59 : decode cX5_feed 59 = .ok (.getfield 29, 3) := by decide +kernel
theorem dX5_feed_62 : decode cX5_feed 62 = .ok (.getfield 56, 3) := by decide +kernel
theorem dX5_feed_65 : decode cX5_feed 65 = .ok (.ireturn, 1) := by decide +kernel
theorem dX5_end_0 : decode cX5_end 0 = .ok (.iload_n 1, 1) := by decide +kernel
theorem dX5_end_1 : decode cX5_end 1 = .ok (.iconst 0, 1) := by decide +kernel
theorem dX5_end_2 : decode cX5_end 2 = .ok (.aload_n 0, 1) := by decide +kernel
theorem dX5_end_3 : decode cX5_end 3 = .ok (.getfield 29, 3) := by decide +kernel
theorem dX5_end_6 : decode cX5_end 6 = .ok (.getfield 56, 3) := by decide +kernel
theorem dX5_end_9 : decode cX5_end 9 = .ok (.invokestatic 52, 3) := by decide +kernel
theorem dX5_end_12 : decode cX5_end 12 = .ok (.ifCond .eq 5, 3) := by decide +kernel
theorem dX5_end_15 : decode cX5_end 15 = .ok (.iconst (-1), 1) := by decide +kernel
theorem dX5_end_16 : decode cX5_end 16 = .ok (.ireturn, 1) := by decide +kernel
theorem dX5_end_17 : decode cX5_end 17 = .ok (.aload_n 0, 1) := by decide +kernel
theorem dX5_end_18 : decode cX5_end 18 = .ok (.getfield 29, 3) := by decide +kernel
theorem dX5_end_21 : decode cX5_end 21 = .ok (.getfield 56, 3) := by decide +kernel
theorem dX5_end_24 : decode cX5_end 24 = .ok (.istore_n 2, 1) := by decide +kernel
theorem dX5_end_25 : decode cX5_end 25 = .ok (.aload_n 0, 1) := by decide +kernel
theorem dX5_end_26 : decode cX5_end 26 = .ok (.getfield 29, 3) := by decide +kernel
theorem dX5_end_29 : decode cX5_end 29 = .ok (.iload_n 1, 1) := by decide +kernel
theorem dX5_end_30 : decode cX5_end 30 = .ok (.putfield 56, 3) := by decide +kernel
theorem dX5_end_33 : decode cX5_end 33 = .ok (.iload_n 2, 1) := by decide +kernel
theorem dX5_end_34 : decode cX5_end 34 = .ok (.ireturn, 1) := by decide +kernel
theorem dX5_text_0 : decode cX5_text 0 = .ok (.aload_n 0, 1) := by decide +kernel
theorem dX5_text_1 : decode cX5_text 1 = .ok (.getfield 29, 3) := by decide +kernel
theorem dX5_text_4 : decode cX5_text 4 = .ok (.aload_n 0, 1) := by decide +kernel
theorem dX5_text_5 : decode cX5_text 5 = .ok (.getfield 16, 3) := by decide +kernel
theorem dX5_text_8 : decode cX5_text 8 = .ok (.invokevirtual 64, 3) := by decide +kernel
theorem dX5_text_11 : decode cX5_text 11 = .ok (.istore_n 1, 1) := by decide +kernel
theorem dX5_text_12 : decode cX5_text 12 = .ok (.aload_n 0, 1) := by decide +kernel
theorem dX5_text_13 : decode cX5_text 13 = .ok (.getfield 29, 3) := by decide +kernel
theorem dX5_text_16 : decode cX5_text 16 = .ok (.iconst 0, 1) := by decide +kernel
theorem dX5_text_17 : decode cX5_text 17 = .ok (.putfield 56, 3) := by decide +kernel
theorem dX5_text_20 : decode cX5_text 20 = .ok (.aload_n 0, 1) := by decide +kernel
theorem dX5_text_21 : decode cX5_text 21 = .ok (.getfield 29, 3) := by decide +kernel
theorem dX5_text_24 : decode cX5_text 24 = .ok (.getfield 68, 3) := by decide +kernel
theorem dX5_text_27 : decode cX5_text 27 = .ok (.ifCond .eq 14, 3) := by decide +kernel
theorem dX5_text_30 : decode cX5_text 30 = .ok (.bipush (-10), 2) := by decide +kernel
theorem dX5_text_32 : decode cX5_text 32 = .ok (.aload_n 0, 1) := by decide +kernel
theorem dX5_text_33 : decode cX5_text 33 = .ok (.getfield 29, 3) := by decide +kernel
theorem dX5_text_36 : decode cX5_text 36 = .ok (.getfield 71, 3) := by decide +kernel
theorem dX5_text_39 : decode cX5_text 39 = .ok (.isub, 1) := by decide +kernel
theorem dX5_text_40 : decode cX5_text 40 = .ok (.ireturn, 1) := by decide +kernel
theorem dX5_text_41 : decode cX5_text 41 = .ok (.aload_n 0, 1) := by decide +kernel
theorem dX5_text_42 : decode cX5_text 42 = .ok (.getfield 10, 3) := by decide +kernel
theorem dX5_text_45 : decode cX5_text 45 = .ok (.aload_n 0, 1) := by decide +kernel
theorem dX5_text_46 : decode cX5_text 46 = .ok (.getfield 16, 3) := by decide +kernel
theorem dX5_text_49 : decode cX5_text 49 = .ok (.invokevirtual 74, 3) := by decide +kernel
theorem dX5_text_52 : decode cX5_text 52 = .ok (.aload_n 0, 1) := by decide +kernel
theorem dX5_text_53 : decode cX5_text 53 = .ok (.getfield 22, 3) := by decide +kernel
theorem dX5_text_56 : decode cX5_text 56 = .ok (.iconst 0, 1) := by decide +kernel
theorem dX5_text_57 : decode cX5_text 57 = .ok (.putfield 78, 3) := by decide +kernel
theorem dX5_text_60 : decode cX5_text 60 = .ok (.iconst 0, 1) := by decide +kernel
theorem dX5_text_61 : decode cX5_text 61 = .ok (.istore_n 2, 1) := by decide +kernel
theorem dX5_text_62 : decode cX5_text 62 = .ok (.iload_n 2, 1) := by decide +kernel
theorem dX5_text_63 : decode cX5_text 63 = .ok (.iconst 2, 1) := by decide +kernel
theorem dX5_text_64 : decode cX5_text 64 = .ok (.if_icmp .ge 19, 3) := by decide +kernel
theorem dX5_text_67 : decode cX5_text 67 = .ok (.aload_n 0, 1) := by decide +kernel
theorem dX5_text_68 : decode cX5_text 68 = .ok (.getfield 35, 3) := by decide +kernel
theorem dX5_text_71 : decode cX5_text 71 = .ok (.iload_n 2, 1) := by decide +kernel
theorem dX5_text_72 : decode cX5_text 72 = .ok (.aaload, 1) := by decide +kernel
theorem dX5_text_73 : decode cX5_text 73 = .ok (.iconst 0, 1) := by decide +kernel
theorem dX5_text_74 : decode cX5_text 74 = .ok (.putfield 81, 3) := by decide +kernel
theorem dX5_text_77 : decode cX5_text 77 = .ok (.iinc 2 1, 3) := by decide +kernel
theorem dX5_text_80 : decode cX5_text 80 = .ok (.goto (-18), 3) := by decide +kernel
theorem dX5_text_83 : decode cX5_text 83 = .ok (.iload_n 1, 1) := by decide +kernel
theorem dX5_text_84 : decode cX5_text 84 = .ok (.ireturn, 1) := by decide +kernel
theorem dX5_fault_0 : decode cX5_fault 0 = .ok (.aload_n 0, 1) := by decide +kernel
theorem dX5_fault_1 : decode cX5_fault 1 = .ok (.getfield 29, 3) := by decide +kernel
theorem dX5_fault_4 : decode cX5_fault 4 = .ok (.getfield 68, 3) := by decide +kernel
theorem dX5_fault_7 : decode cX5_fault 7 = .ok (.ireturn, 1) := by decide +kernel
theorem dX5_rule_0 : decode cX5_rule 0 = .ok (.iload_n 1, 1) := by decide +kernel
theorem dX5_rule_1 : decode cX5_rule 1 = .ok (.tableswitch 112 0 7 #[47, 55, 63, 71, 79, 87, 95, 104], 47) := by decide +kernel
theorem dX5_rule_48 : decode cX5_rule 48 = .ok (.aload_n 0, 1) := by decide +kernel
theorem dX5_rule_49 : decode cX5_rule 49 = .ok (.getfield 10, 3) := by decide +kernel
theorem dX5_rule_52 : decode cX5_rule 52 = .ok (.getfield 85, 3) := by decide +kernel
theorem dX5_rule_55 : decode cX5_rule 55 = .ok (.ireturn, 1) := by decide +kernel
theorem dX5_rule_56 : decode cX5_rule 56 = .ok (.aload_n 0, 1) := by decide +kernel
theorem dX5_rule_57 : decode cX5_rule 57 = .ok (.getfield 10, 3) := by decide +kernel
theorem dX5_rule_60 : decode cX5_rule 60 = .ok (.getfield 88, 3) := by decide +kernel
theorem dX5_rule_63 : decode cX5_rule 63 = .ok (.ireturn, 1) := by decide +kernel
theorem dX5_rule_64 : decode cX5_rule 64 = .ok (.aload_n 0, 1) := by decide +kernel
theorem dX5_rule_65 : decode cX5_rule 65 = .ok (.getfield 10, 3) := by decide +kernel
theorem dX5_rule_68 : decode cX5_rule 68 = .ok (.getfield 91, 3) := by decide +kernel
theorem dX5_rule_71 : decode cX5_rule 71 = .ok (.ireturn, 1) := by decide +kernel
theorem dX5_rule_72 : decode cX5_rule 72 = .ok (.aload_n 0, 1) := by decide +kernel
theorem dX5_rule_73 : decode cX5_rule 73 = .ok (.getfield 10, 3) := by decide +kernel
theorem dX5_rule_76 : decode cX5_rule 76 = .ok (.getfield 94, 3) := by decide +kernel
theorem dX5_rule_79 : decode cX5_rule 79 = .ok (.ireturn, 1) := by decide +kernel
theorem dX5_rule_80 : decode cX5_rule 80 = .ok (.aload_n 0, 1) := by decide +kernel
theorem dX5_rule_81 : decode cX5_rule 81 = .ok (.getfield 10, 3) := by decide +kernel
theorem dX5_rule_84 : decode cX5_rule 84 = .ok (.getfield 97, 3) := by decide +kernel
theorem dX5_rule_87 : decode cX5_rule 87 = .ok (.ireturn, 1) := by decide +kernel
theorem dX5_rule_88 : decode cX5_rule 88 = .ok (.aload_n 0, 1) := by decide +kernel
theorem dX5_rule_89 : decode cX5_rule 89 = .ok (.getfield 10, 3) := by decide +kernel
theorem dX5_rule_92 : decode cX5_rule 92 = .ok (.getfield 100, 3) := by decide +kernel
theorem dX5_rule_95 : decode cX5_rule 95 = .ok (.ireturn, 1) := by decide +kernel
theorem dX5_rule_96 : decode cX5_rule 96 = .ok (.aload_n 0, 1) := by decide +kernel
theorem dX5_rule_97 : decode cX5_rule 97 = .ok (.getfield 10, 3) := by decide +kernel
theorem dX5_rule_100 : decode cX5_rule 100 = .ok (.iconst 1, 1) := by decide +kernel
theorem dX5_rule_101 : decode cX5_rule 101 = .ok (.invokevirtual 103, 3) := by decide +kernel
theorem dX5_rule_104 : decode cX5_rule 104 = .ok (.ireturn, 1) := by decide +kernel
theorem dX5_rule_105 : decode cX5_rule 105 = .ok (.aload_n 0, 1) := by decide +kernel
theorem dX5_rule_106 : decode cX5_rule 106 = .ok (.getfield 10, 3) := by decide +kernel
theorem dX5_rule_109 : decode cX5_rule 109 = .ok (.invokevirtual 107, 3) := by decide +kernel
theorem dX5_rule_112 : decode cX5_rule 112 = .ok (.ireturn, 1) := by decide +kernel
theorem dX5_rule_113 : decode cX5_rule 113 = .ok (.iconst (-1), 1) := by decide +kernel
theorem dX5_rule_114 : decode cX5_rule 114 = .ok (.ireturn, 1) := by decide +kernel
theorem dX5_station_0 : decode cX5_station 0 = .ok (.aload_n 0, 1) := by decide +kernel
theorem dX5_station_1 : decode cX5_station 1 = .ok (.getfield 10, 3) := by decide +kernel
theorem dX5_station_4 : decode cX5_station 4 = .ok (.iload_n 1, 1) := by decide +kernel
theorem dX5_station_5 : decode cX5_station 5 = .ok (.invokevirtual 111, 3) := by decide +kernel
theorem dX5_station_8 : decode cX5_station 8 = .ok (.ifCond .eq 13, 3) := by decide +kernel
theorem dX5_station_11 : decode cX5_station 11 = .ok (.iload_n 2, 1) := by decide +kernel
theorem dX5_station_12 : decode cX5_station 12 = .ok (.iconst 0, 1) := by decide +kernel
theorem dX5_station_13 : decode cX5_station 13 = .ok (.bipush 6, 2) := by decide +kernel
theorem dX5_station_15 : decode cX5_station 15 = .ok (.invokestatic 52, 3) := by decide +kernel
theorem dX5_station_18 : decode cX5_station 18 = .ok (.ifCond .eq 5, 3) := by decide +kernel
theorem dX5_station_21 : decode cX5_station 21 = .ok (.iconst (-1), 1) := by decide +kernel
theorem dX5_station_22 : decode cX5_station 22 = .ok (.ireturn, 1) := by decide +kernel
theorem dX5_station_23 : decode cX5_station 23 = .ok (.aload_n 0, 1) := by decide +kernel
theorem dX5_station_24 : decode cX5_station 24 = .ok (.getfield 10, 3) := by decide +kernel
theorem dX5_station_27 : decode cX5_station 27 = .ok (.getfield 115, 3) := by decide +kernel
theorem dX5_station_30 : decode cX5_station 30 = .ok (.iload_n 1, 1) := by decide +kernel
theorem dX5_station_31 : decode cX5_station 31 = .ok (.aaload, 1) := by decide +kernel
theorem dX5_station_32 : decode cX5_station 32 = .ok (.iload_n 2, 1) := by decide +kernel
theorem dX5_station_33 : decode cX5_station 33 = .ok (.iaload, 1) := by decide +kernel
theorem dX5_station_34 : decode cX5_station 34 = .ok (.ireturn, 1) := by decide +kernel
theorem dX5_alter_0 : decode cX5_alter 0 = .ok (.aload_n 0, 1) := by decide +kernel
theorem dX5_alter_1 : decode cX5_alter 1 = .ok (.getfield 10, 3) := by decide +kernel
theorem dX5_alter_4 : decode cX5_alter 4 = .ok (.iload_n 1, 1) := by decide +kernel
theorem dX5_alter_5 : decode cX5_alter 5 = .ok (.invokevirtual 111, 3) := by decide +kernel
theorem dX5_alter_8 : decode cX5_alter 8 = .ok (.ifCond .eq 29, 3) := by decide +kernel
theorem dX5_alter_11 : decode cX5_alter 11 = .ok (.iload_n 2, 1) := by decide +kernel
theorem dX5_alter_12 : decode cX5_alter 12 = .ok (.iconst 0, 1) := by decide +kernel
theorem dX5_alter_13 : decode cX5_alter 13 = .ok (.iconst 4, 1) := by decide +kernel
theorem dX5_alter_14 : decode cX5_alter 14 = .ok (.invokestatic 52, 3) := by decide +kernel
theorem dX5_alter_17 : decode cX5_alter 17 = .ok (.ifCond .ne 20, 3) := by decide +kernel
theorem dX5_alter_20 : decode cX5_alter 20 = .ok (.iload_n 3, 1) := by decide +kernel
theorem dX5_alter_21 : decode cX5_alter 21 = .ok (.getstatic 118, 3) := by decide +kernel
theorem dX5_alter_24 : decode cX5_alter 24 = .ok (.iload_n 2, 1) := by decide +kernel
theorem dX5_alter_25 : decode cX5_alter 25 = .ok (.iaload, 1) := by decide +kernel
theorem dX5_alter_26 : decode cX5_alter 26 = .ok (.getstatic 122, 3) := by decide +kernel
theorem dX5_alter_29 : decode cX5_alter 29 = .ok (.iload_n 2, 1) := by decide +kernel
theorem dX5_alter_30 : decode cX5_alter 30 = .ok (.iaload, 1) := by decide +kernel
theorem dX5_alter_31 : decode cX5_alter 31 = .ok (.invokestatic 52, 3) := by decide +kernel
theorem dX5_alter_34 : decode cX5_alter 34 = .ok (.ifCond .eq 5, 3) := by decide +kernel
theorem dX5_alter_37 : decode cX5_alter 37 = .ok (.iconst (-1), 1) := by decide +kernel
theorem dX5_alter_38 : decode cX5_alter 38 = .ok (.ireturn, 1) := by decide +kernel
theorem dX5_alter_39 : decode cX5_alter 39 = .ok (.aload_n 0, 1) := by decide +kernel
theorem dX5_alter_40 : decode cX5_alter 40 = .ok (.getfield 10, 3) := by decide +kernel
theorem dX5_alter_43 : decode cX5_alter 43 = .ok (.getfield 115, 3) := by decide +kernel
theorem dX5_alter_46 : decode cX5_alter 46 = .ok (.iload_n 1, 1) := by decide +kernel
theorem dX5_alter_47 : decode cX5_alter 47 = .ok (.aaload, 1) := by decide +kernel
theorem dX5_alter_48 : decode cX5_alter 48 = .ok (.iload_n 2, 1) := by decide +kernel
theorem dX5_alter_49 : decode cX5_alter 49 = .ok (.iaload, 1) := by decide +kernel
theorem dX5_alter_50 : decode cX5_alter 50 = .ok (.istore 4, 2) := by decide +kernel
theorem dX5_alter_52 : decode cX5_alter 52 = .ok (.aload_n 0, 1) := by decide +kernel
theorem dX5_alter_53 : decode cX5_alter 53 = .ok (.getfield 10, 3) := by decide +kernel
theorem dX5_alter_56 : decode cX5_alter 56 = .ok (.getfield 115, 3) := by decide +kernel
theorem dX5_alter_59 : decode cX5_alter 59 = .ok (.iload_n 1, 1) := by decide +kernel
theorem dX5_alter_60 : decode cX5_alter 60 = .ok (.aaload, 1) := by decide +kernel
theorem dX5_alter_61 : decode cX5_alter 61 = .ok (.iload_n 2, 1) := by decide +kernel
theorem dX5_alter_62 : decode cX5_alter 62 = .ok (.iload_n 3, 1) := by decide +kernel
theorem dX5_alter_63 : decode cX5_alter 63 = .ok (.iastore, 1) := by decide +kernel
theorem dX5_alter_64 : decode cX5_alter 64 = .ok (.iload 4, 2) := by decide +kernel
theorem dX5_alter_66 : decode cX5_alter 66 = .ok (.ireturn, 1) := by decide +kernel
theorem dX5_give_0 : decode cX5_give 0 = .ok (.aload_n 0, 1) := by decide +kernel
theorem dX5_give_1 : decode cX5_give 1 = .ok (.getfield 10, 3) := by decide +kernel
theorem dX5_give_4 : decode cX5_give 4 = .ok (.iload_n 1, 1) := by decide +kernel
theorem dX5_give_5 : decode cX5_give 5 = .ok (.invokevirtual 111, 3) := by decide +kernel
theorem dX5_give_8 : decode cX5_give 8 = .ok (.ifCond .ne 5, 3) := by decide +kernel
theorem dX5_give_11 : decode cX5_give 11 = .ok (.iconst (-1), 1) := by decide +kernel
theorem dX5_give_12 : decode cX5_give 12 = .ok (.ireturn, 1) := by decide +kernel
theorem dX5_give_13 : decode cX5_give 13 = .ok (.aload_n 0, 1) := by decide +kernel
theorem dX5_give_14 : decode cX5_give 14 = .ok (.getfield 10, 3) := by decide +kernel
theorem dX5_give_17 : decode cX5_give 17 = .ok (.getfield 88, 3) := by decide +kernel
theorem dX5_give_20 : decode cX5_give 20 = .ok (.istore_n 2, 1) := by decide +kernel
theorem dX5_give_21 : decode cX5_give 21 = .ok (.aload_n 0, 1) := by decide +kernel
theorem dX5_give_22 : decode cX5_give 22 = .ok (.getfield 10, 3) := by decide +kernel
theorem dX5_give_25 : decode cX5_give 25 = .ok (.iload_n 1, 1) := by decide +kernel
theorem dX5_give_26 : decode cX5_give 26 = .ok (.putfield 88, 3) := by decide +kernel
theorem dX5_give_29 : decode cX5_give 29 = .ok (.iload_n 2, 1) := by decide +kernel
theorem dX5_give_30 : decode cX5_give 30 = .ok (.ireturn, 1) := by decide +kernel
theorem dX5_post_0 : decode cX5_post 0 = .ok (.aload_n 0, 1) := by decide +kernel
theorem dX5_post_1 : decode cX5_post 1 = .ok (.getfield 10, 3) := by decide +kernel
theorem dX5_post_4 : decode cX5_post 4 = .ok (.iload_n 1, 1) := by decide +kernel
theorem dX5_post_5 : decode cX5_post 5 = .ok (.iload_n 2, 1) := by decide +kernel
theorem dX5_post_6 : decode cX5_post 6 = .ok (.invokevirtual 125, 3) := by decide +kernel
theorem dX5_post_9 : decode cX5_post 9 = .ok (.ifCond .ne 5, 3) := by decide +kernel
theorem dX5_post_12 : decode cX5_post 12 = .ok (.iconst (-1), 1) := by decide +kernel
theorem dX5_post_13 : decode cX5_post 13 = .ok (.ireturn, 1) := by decide +kernel
theorem dX5_post_14 : decode cX5_post 14 = .ok (.aload_n 0, 1) := by decide +kernel
theorem dX5_post_15 : decode cX5_post 15 = .ok (.getfield 10, 3) := by decide +kernel
theorem dX5_post_18 : decode cX5_post 18 = .ok (.iload_n 1, 1) := by decide +kernel
theorem dX5_post_19 : decode cX5_post 19 = .ok (.iload_n 2, 1) := by decide +kernel
theorem dX5_post_20 : decode cX5_post 20 = .ok (.invokevirtual 129, 3) := by decide +kernel
theorem dX5_post_23 : decode cX5_post 23 = .ok (.istore_n 3, 1) := by decide +kernel
theorem dX5_post_24 : decode cX5_post 24 = .ok (.aload_n 0, 1) := by decide +kernel
theorem dX5_post_25 : decode cX5_post 25 = .ok (.getfield 10, 3) := by decide +kernel
theorem dX5_post_28 : decode cX5_post 28 = .ok (.invokevirtual 133, 3) := by decide +kernel
theorem dX5_post_31 : decode cX5_post 31 = .ok (.iload_n 3, 1) := by decide +kernel
theorem dX5_post_32 : decode cX5_post 32 = .ok (.ireturn, 1) := by decide +kernel
theorem dX5_change_0 : decode cX5_change 0 = .ok (.aload_n 0, 1) := by decide +kernel
theorem dX5_change_1 : decode cX5_change 1 = .ok (.getfield 10, 3) := by decide +kernel
theorem dX5_change_4 : decode cX5_change 4 = .ok (.iload_n 1, 1) := by decide +kernel
theorem dX5_change_5 : decode cX5_change 5 = .ok (.invokevirtual 111, 3) := by decide +kernel
theorem dX5_change_8 : decode cX5_change 8 = .ok (.ifCond .eq 19, 3) := by decide +kernel
theorem dX5_change_11 : decode cX5_change 11 = .ok (.aload_n 0, 1) := by decide +kernel
theorem dX5_change_12 : decode cX5_change 12 = .ok (.getfield 10, 3) := by decide +kernel
theorem dX5_change_15 : decode cX5_change 15 = .ok (.iload_n 2, 1) := by decide +kernel
theorem dX5_change_16 : decode cX5_change 16 = .ok (.invokevirtual 111, 3) := by decide +kernel
theorem dX5_change_19 : decode cX5_change 19 = .ok (.ifCond .eq 8, 3) := by decide +kernel
theorem dX5_change_22 : decode cX5_change 22 = .ok (.iload_n 1, 1) := by decide +kernel
theorem dX5_change_23 : decode cX5_change 23 = .ok (.iload_n 2, 1) := by decide +kernel
theorem dX5_change_24 : decode cX5_change 24 = .ok (.if_icmp .ne 5, 3) := by decide +kernel
theorem dX5_change_27 : decode cX5_change 27 = .ok (.iconst (-1), 1) := by decide +kernel
theorem dX5_change_28 : decode cX5_change 28 = .ok (.ireturn, 1) := by decide +kernel
theorem dX5_change_29 : decode cX5_change 29 = .ok (.aload_n 0, 1) := by decide +kernel
theorem dX5_change_30 : decode cX5_change 30 = .ok (.getfield 10, 3) := by decide +kernel
theorem dX5_change_33 : decode cX5_change 33 = .ok (.iload_n 1, 1) := by decide +kernel
theorem dX5_change_34 : decode cX5_change 34 = .ok (.iload_n 2, 1) := by decide +kernel
theorem dX5_change_35 : decode cX5_change 35 = .ok (.invokevirtual 136, 3) := by decide +kernel
theorem dX5_change_38 : decode cX5_change 38 = .ok (.aload_n 0, 1) := by decide +kernel
theorem dX5_change_39 : decode cX5_change 39 = .ok (.getfield 10, 3) := by decide +kernel
theorem dX5_change_42 : decode cX5_change 42 = .ok (.getfield 85, 3) := by decide +kernel
theorem dX5_change_45 : decode cX5_change 45 = .ok (.ireturn, 1) := by decide +kernel
theorem dX5_visits_0 : decode cX5_visits 0 = .ok (.iload_n 1, 1) := by decide +kernel
theorem dX5_visits_1 : decode cX5_visits 1 = .ok (.iconst 0, 1) := by decide +kernel
theorem dX5_visits_2 : decode cX5_visits 2 = .ok (.bipush 100, 2) := by decide +kernel
theorem dX5_visits_4 : decode cX5_visits 4 = .ok (.invokestatic 52, 3) := by decide +kernel
theorem dX5_visits_7 : decode cX5_visits 7 = .ok (.ifCond .eq 5, 3) := by decide +kernel
theorem dX5_visits_10 : decode cX5_visits 10 = .ok (.iconst (-1), 1) := by decide +kernel
theorem dX5_visits_11 : decode cX5_visits 11 = .ok (.ireturn, 1) := by decide +kernel
theorem dX5_visits_12 : decode cX5_visits 12 = .ok (.aload_n 0, 1) := by decide +kernel
theorem dX5_visits_13 : decode cX5_visits 13 = .ok (.getfield 10, 3) := by decide +kernel
theorem dX5_visits_16 : decode cX5_visits 16 = .ok (.getfield 94, 3) := by decide +kernel
theorem dX5_visits_19 : decode cX5_visits 19 = .ok (.iload_n 1, 1) := by decide +kernel
theorem dX5_visits_20 : decode cX5_visits 20 = .ok (.iadd, 1) := by decide +kernel
theorem dX5_visits_21 : decode cX5_visits 21 = .ok (.sipush 9999, 3) := by decide +kernel
theorem dX5_visits_24 : decode cX5_visits 24 = .ok (.if_icmp .le 6, 3) := by decide +kernel
theorem dX5_visits_27 : decode cX5_visits 27 = .ok (.bipush (-3), 2) := by decide +kernel
theorem dX5_visits_29 : decode cX5_visits 29 = .ok (.ireturn, 1) := by decide +kernel
theorem dX5_visits_30 : decode cX5_visits 30 = .ok (.iconst 0, 1) := by decide +kernel
theorem dX5_visits_31 : decode cX5_visits 31 = .ok (.istore_n 2, 1) := by decide +kernel
theorem dX5_visits_32 : decode cX5_visits 32 = .ok (.iconst 0, 1) := by decide +kernel
theorem dX5_visits_33 : decode cX5_visits 33 = .ok (.istore_n 3, 1) := by decide +kernel
theorem dX5_visits_34 : decode cX5_visits 34 = .ok (.iload_n 3, 1) := by decide +kernel
theorem dX5_visits_35 : decode cX5_visits 35 = .ok (.iload_n 1, 1) := by decide +kernel
theorem dX5_visits_36 : decode cX5_visits 36 = .ok (.if_icmp .ge 20, 3) := by decide +kernel
theorem dX5_visits_39 : decode cX5_visits 39 = .ok (.iload_n 2, 1) := by decide +kernel
theorem dX5_visits_40 : decode cX5_visits 40 = .ok (.aload_n 0, 1) := by decide +kernel
theorem dX5_visits_41 : decode cX5_visits 41 = .ok (.getfield 10, 3) := by decide +kernel
theorem dX5_visits_44 : decode cX5_visits 44 = .ok (.iconst 1, 1) := by decide +kernel
theorem dX5_visits_45 : decode cX5_visits 45 = .ok (.invokevirtual 140, 3) := by decide +kernel
theorem dX5_visits_48 : decode cX5_visits 48 = .ok (.iadd, 1) := by decide +kernel
theorem dX5_visits_49 : decode cX5_visits 49 = .ok (.istore_n 2, 1) := by decide +kernel
theorem dX5_visits_50 : decode cX5_visits 50 = .ok (.iinc 3 1, 3) := by decide +kernel
theorem dX5_visits_53 : decode cX5_visits 53 = .ok (.goto (-19), 3) := by decide +kernel
theorem dX5_visits_56 : decode cX5_visits 56 = .ok (.aload_n 0, 1) := by decide +kernel
theorem dX5_visits_57 : decode cX5_visits 57 = .ok (.getfield 10, 3) := by decide +kernel
theorem dX5_visits_60 : decode cX5_visits 60 = .ok (.invokevirtual 133, 3) := by decide +kernel
theorem dX5_visits_63 : decode cX5_visits 63 = .ok (.iload_n 2, 1) := by decide +kernel
theorem dX5_visits_64 : decode cX5_visits 64 = .ok (.ireturn, 1) := by decide +kernel
theorem dX5_runs_0 : decode cX5_runs 0 = .ok (.iload_n 1, 1) := by decide +kernel
theorem dX5_runs_1 : decode cX5_runs 1 = .ok (.iconst 0, 1) := by decide +kernel
theorem dX5_runs_2 : decode cX5_runs 2 = .ok (.sipush 200, 3) := by decide +kernel
theorem dX5_runs_5 : decode cX5_runs 5 = .ok (.invokestatic 52, 3) := by decide +kernel
theorem dX5_runs_8 : decode cX5_runs 8 = .ok (.ifCond .ne 12, 3) := by decide +kernel
theorem dX5_runs_11 : decode cX5_runs 11 = .ok (.iload_n 2, 1) := by decide +kernel
theorem dX5_runs_12 : decode cX5_runs 12 = .ok (.iconst 0, 1) := by decide +kernel
theorem dX5_runs_13 : decode cX5_runs 13 = .ok (.iconst 3, 1) := by decide +kernel
theorem dX5_runs_14 : decode cX5_runs 14 = .ok (.invokestatic 52, 3) := by decide +kernel
theorem dX5_runs_17 : decode cX5_runs 17 = .ok (.ifCond .eq 5, 3) := by decide +kernel
theorem dX5_runs_20 : decode cX5_runs 20 = .ok (.iconst (-1), 1) := by decide +kernel
theorem dX5_runs_21 : decode cX5_runs 21 = .ok (.ireturn, 1) := by decide +kernel
theorem dX5_runs_22 : decode cX5_runs 22 = .ok (.aload_n 0, 1) := by decide +kernel
theorem dX5_runs_23 : decode cX5_runs 23 = .ok (.invokevirtual 144, 3) := by decide +kernel
theorem dX5_runs_26 : decode cX5_runs 26 = .ok (.aload_n 0, 1) := by decide +kernel
theorem dX5_runs_27 : decode cX5_runs 27 = .ok (.getfield 16, 3) := by decide +kernel
theorem dX5_runs_30 : decode cX5_runs 30 = .ok (.iload_n 1, 1) := by decide +kernel
theorem dX5_runs_31 : decode cX5_runs 31 = .ok (.invokevirtual 147, 3) := by decide +kernel
theorem dX5_runs_34 : decode cX5_runs 34 = .ok (.iload_n 2, 1) := by decide +kernel
theorem dX5_runs_35 : decode cX5_runs 35 = .ok (.tableswitch 57 0 2 #[25, 33, 49], 25) := by decide +kernel
theorem dX5_runs_60 : decode cX5_runs 60 = .ok (.aload_n 0, 1) := by decide +kernel
theorem dX5_runs_61 : decode cX5_runs 61 = .ok (.getfield 16, 3) := by decide +kernel
theorem dX5_runs_64 : decode cX5_runs 64 = .ok (.getfield 97, 3) := by decide +kernel
theorem dX5_runs_67 : decode cX5_runs 67 = .ok (.ireturn, 1) := by decide +kernel
theorem dX5_runs_68 : decode cX5_runs 68 = .ok (.aload_n 0, 1) := by decide +kernel
theorem dX5_runs_69 : decode cX5_runs 69 = .ok (.getfield 16, 3) := by decide +kernel
theorem dX5_runs_72 : decode cX5_runs 72 = .ok (.getfield 91, 3) := by decide +kernel
theorem dX5_runs_75 : decode cX5_runs 75 = .ok (.aload_n 0, 1) := by decide +kernel
theorem dX5_runs_76 : decode cX5_runs 76 = .ok (.getfield 10, 3) := by decide +kernel
theorem dX5_runs_79 : decode cX5_runs 79 = .ok (.getfield 91, 3) := by decide +kernel
theorem dX5_runs_82 : decode cX5_runs 82 = .ok (.isub, 1) := by decide +kernel
theorem dX5_runs_83 : decode cX5_runs 83 = .ok (.ireturn, 1) := by decide +kernel
theorem dX5_runs_84 : decode cX5_runs 84 = .ok (.aload_n 0, 1) := by decide +kernel
theorem dX5_runs_85 : decode cX5_runs 85 = .ok (.getfield 16, 3) := by decide +kernel
theorem dX5_runs_88 : decode cX5_runs 88 = .ok (.getfield 100, 3) := by decide +kernel
theorem dX5_runs_91 : decode cX5_runs 91 = .ok (.ireturn, 1) := by decide +kernel
theorem dX5_runs_92 : decode cX5_runs 92 = .ok (.aload_n 0, 1) := by decide +kernel
theorem dX5_runs_93 : decode cX5_runs 93 = .ok (.getfield 16, 3) := by decide +kernel
theorem dX5_runs_96 : decode cX5_runs 96 = .ok (.iconst 1, 1) := by decide +kernel
theorem dX5_runs_97 : decode cX5_runs 97 = .ok (.invokevirtual 103, 3) := by decide +kernel
theorem dX5_runs_100 : decode cX5_runs 100 = .ok (.ireturn, 1) := by decide +kernel
theorem dX5_ahead_0 : decode cX5_ahead 0 = .ok (.aload_n 0, 1) := by decide +kernel
theorem dX5_ahead_1 : decode cX5_ahead 1 = .ok (.getfield 10, 3) := by decide +kernel
theorem dX5_ahead_4 : decode cX5_ahead 4 = .ok (.iload_n 1, 1) := by decide +kernel
theorem dX5_ahead_5 : decode cX5_ahead 5 = .ok (.invokevirtual 111, 3) := by decide +kernel
theorem dX5_ahead_8 : decode cX5_ahead 8 = .ok (.ifCond .eq 23, 3) := by decide +kernel
theorem dX5_ahead_11 : decode cX5_ahead 11 = .ok (.iload_n 2, 1) := by decide +kernel
theorem dX5_ahead_12 : decode cX5_ahead 12 = .ok (.iconst 0, 1) := by decide +kernel
theorem dX5_ahead_13 : decode cX5_ahead 13 = .ok (.sipush 200, 3) := by decide +kernel
theorem dX5_ahead_16 : decode cX5_ahead 16 = .ok (.invokestatic 52, 3) := by decide +kernel
theorem dX5_ahead_19 : decode cX5_ahead 19 = .ok (.ifCond .ne 12, 3) := by decide +kernel
theorem dX5_ahead_22 : decode cX5_ahead 22 = .ok (.iload_n 3, 1) := by decide +kernel
theorem dX5_ahead_23 : decode cX5_ahead 23 = .ok (.iconst 0, 1) := by decide +kernel
theorem dX5_ahead_24 : decode cX5_ahead 24 = .ok (.iconst 2, 1) := by decide +kernel
theorem dX5_ahead_25 : decode cX5_ahead 25 = .ok (.invokestatic 52, 3) := by decide +kernel
theorem dX5_ahead_28 : decode cX5_ahead 28 = .ok (.ifCond .eq 5, 3) := by decide +kernel
theorem dX5_ahead_31 : decode cX5_ahead 31 = .ok (.iconst (-1), 1) := by decide +kernel
theorem dX5_ahead_32 : decode cX5_ahead 32 = .ok (.ireturn, 1) := by decide +kernel
theorem dX5_ahead_33 : decode cX5_ahead 33 = .ok (.aload_n 0, 1) := by decide +kernel
theorem dX5_ahead_34 : decode cX5_ahead 34 = .ok (.invokevirtual 144, 3) := by decide +kernel
theorem dX5_ahead_37 : decode cX5_ahead 37 = .ok (.aload_n 0, 1) := by decide +kernel
theorem dX5_ahead_38 : decode cX5_ahead 38 = .ok (.getfield 16, 3) := by decide +kernel
theorem dX5_ahead_41 : decode cX5_ahead 41 = .ok (.getfield 115, 3) := by decide +kernel
theorem dX5_ahead_44 : decode cX5_ahead 44 = .ok (.iload_n 1, 1) := by decide +kernel
theorem dX5_ahead_45 : decode cX5_ahead 45 = .ok (.aaload, 1) := by decide +kernel
theorem dX5_ahead_46 : decode cX5_ahead 46 = .ok (.astore 4, 2) := by decide +kernel
theorem dX5_ahead_48 : decode cX5_ahead 48 = .ok (.aload 4, 2) := by decide +kernel
theorem dX5_ahead_50 : decode cX5_ahead 50 = .ok (.iconst 1, 1) := by decide +kernel
theorem dX5_ahead_51 : decode cX5_ahead 51 = .ok (.iaload, 1) := by decide +kernel
theorem dX5_ahead_52 : decode cX5_ahead 52 = .ok (.istore 5, 2) := by decide +kernel
theorem dX5_ahead_54 : decode cX5_ahead 54 = .ok (.iconst 0, 1) := by decide +kernel
theorem dX5_ahead_55 : decode cX5_ahead 55 = .ok (.istore 6, 2) := by decide +kernel
theorem dX5_ahead_57 : decode cX5_ahead 57 = .ok (.iload 6, 2) := by decide +kernel
theorem dX5_ahead_59 : decode cX5_ahead 59 = .ok (.iload_n 2, 1) := by decide +kernel
theorem dX5_ahead_60 : decode cX5_ahead 60 = .ok (.if_icmp .ge 29, 3) := by decide +kernel
theorem dX5_ahead_63 : decode cX5_ahead 63 = .ok (.aload_n 0, 1) := by decide +kernel
theorem dX5_ahead_64 : decode cX5_ahead 64 = .ok (.getfield 16, 3) := by decide +kernel
theorem dX5_ahead_67 : decode cX5_ahead 67 = .ok (.iconst 1, 1) := by decide +kernel
theorem dX5_ahead_68 : decode cX5_ahead 68 = .ok (.invokevirtual 140, 3) := by decide +kernel
theorem dX5_ahead_71 : decode cX5_ahead 71 = .ok (.pop, 1) := by decide +kernel
theorem dX5_ahead_72 : decode cX5_ahead 72 = .ok (.iload 5, 2) := by decide +kernel
theorem dX5_ahead_74 : decode cX5_ahead 74 = .ok (.aload 4, 2) := by decide +kernel
theorem dX5_ahead_76 : decode cX5_ahead 76 = .ok (.iconst 1, 1) := by decide +kernel
theorem dX5_ahead_77 : decode cX5_ahead 77 = .ok (.iaload, 1) := by decide +kernel
theorem dX5_ahead_78 : decode cX5_ahead 78 = .ok (.invokestatic 151, 3) := by decide +kernel
theorem dX5_ahead_81 : decode cX5_ahead 81 = .ok (.istore 5, 2) := by decide +kernel
theorem dX5_ahead_83 : decode cX5_ahead 83 = .ok (.iinc 6 1, 3) := by decide +kernel
theorem dX5_ahead_86 : decode cX5_ahead 86 = .ok (.goto (-29), 3) := by decide +kernel
theorem dX5_ahead_89 : decode cX5_ahead 89 = .ok (.iload_n 3, 1) := by decide +kernel
theorem dX5_ahead_90 : decode cX5_ahead 90 = .ok (.lookupswitch 48 #[(0, 26), (1, 31)], 26) := by decide +kernel
theorem dX5_ahead_116 : decode cX5_ahead 116 = .ok (.aload 4, 2) := by decide +kernel
theorem dX5_ahead_118 : decode cX5_ahead 118 = .ok (.iconst 1, 1) := by decide +kernel
theorem dX5_ahead_119 : decode cX5_ahead 119 = .ok (.iaload, 1) := by decide +kernel
theorem dX5_ahead_120 : decode cX5_ahead 120 = .ok (.ireturn, 1) := by decide +kernel
theorem dX5_ahead_121 : decode cX5_ahead 121 = .ok (.aload 4, 2) := by decide +kernel
theorem dX5_ahead_123 : decode cX5_ahead 123 = .ok (.iconst 5, 1) := by decide +kernel
theorem dX5_ahead_124 : decode cX5_ahead 124 = .ok (.iaload, 1) := by decide +kernel
theorem dX5_ahead_125 : decode cX5_ahead 125 = .ok (.aload_n 0, 1) := by decide +kernel
theorem dX5_ahead_126 : decode cX5_ahead 126 = .ok (.getfield 10, 3) := by decide +kernel
theorem dX5_ahead_129 : decode cX5_ahead 129 = .ok (.getfield 115, 3) := by decide +kernel
theorem dX5_ahead_132 : decode cX5_ahead 132 = .ok (.iload_n 1, 1) := by decide +kernel
theorem dX5_ahead_133 : decode cX5_ahead 133 = .ok (.aaload, 1) := by decide +kernel
theorem dX5_ahead_134 : decode cX5_ahead 134 = .ok (.iconst 5, 1) := by decide +kernel
theorem dX5_ahead_135 : decode cX5_ahead 135 = .ok (.iaload, 1) := by decide +kernel
theorem dX5_ahead_136 : decode cX5_ahead 136 = .ok (.isub, 1) := by decide +kernel
theorem dX5_ahead_137 : decode cX5_ahead 137 = .ok (.ireturn, 1) := by decide +kernel
theorem dX5_ahead_138 : decode cX5_ahead 138 = .ok (.iload 5, 2) := by decide +kernel
theorem dX5_ahead_140 : decode cX5_ahead 140 = .ok (.ireturn, 1) := by decide +kernel
theorem dX5_when_0 : decode cX5_when 0 = .ok (.aload_n 0, 1) := by decide +kernel
theorem dX5_when_1 : decode cX5_when 1 = .ok (.getfield 10, 3) := by decide +kernel
theorem dX5_when_4 : decode cX5_when 4 = .ok (.iload_n 1, 1) := by decide +kernel
theorem dX5_when_5 : decode cX5_when 5 = .ok (.invokevirtual 111, 3) := by decide +kernel
theorem dX5_when_8 : decode cX5_when 8 = .ok (.ifCond .ne 5, 3) := by decide +kernel
theorem dX5_when_11 : decode cX5_when 11 = .ok (.iconst (-1), 1) := by decide +kernel
theorem dX5_when_12 : decode cX5_when 12 = .ok (.ireturn, 1) := by decide +kernel
theorem dX5_when_13 : decode cX5_when 13 = .ok (.aload_n 0, 1) := by decide +kernel
theorem dX5_when_14 : decode cX5_when 14 = .ok (.invokevirtual 144, 3) := by decide +kernel
theorem dX5_when_17 : decode cX5_when 17 = .ok (.aload_n 0, 1) := by decide +kernel
theorem dX5_when_18 : decode cX5_when 18 = .ok (.getfield 16, 3) := by decide +kernel
theorem dX5_when_21 : decode cX5_when 21 = .ok (.getfield 115, 3) := by decide +kernel
theorem dX5_when_24 : decode cX5_when 24 = .ok (.iload_n 1, 1) := by decide +kernel
theorem dX5_when_25 : decode cX5_when 25 = .ok (.aaload, 1) := by decide +kernel
theorem dX5_when_26 : decode cX5_when 26 = .ok (.astore_n 2, 1) := by decide +kernel
theorem dX5_when_27 : decode cX5_when 27 = .ok (.iconst 0, 1) := by decide +kernel
theorem dX5_when_28 : decode cX5_when 28 = .ok (.istore_n 3, 1) := by decide +kernel
theorem dX5_when_29 : decode cX5_when 29 = .ok (.iload_n 3, 1) := by decide +kernel
theorem dX5_when_30 : decode cX5_when 30 = .ok (.sipush 200, 3) := by decide +kernel
theorem dX5_when_33 : decode cX5_when 33 = .ok (.if_icmp .gt 26, 3) := by decide +kernel
theorem dX5_when_36 : decode cX5_when 36 = .ok (.aload_n 2, 1) := by decide +kernel
theorem dX5_when_37 : decode cX5_when 37 = .ok (.iconst 1, 1) := by decide +kernel
theorem dX5_when_38 : decode cX5_when 38 = .ok (.iaload, 1) := by decide +kernel
theorem dX5_when_39 : decode cX5_when 39 = .ok (.ifCond .ne 5, 3) := by decide +kernel
theorem dX5_when_42 : decode cX5_when 42 = .ok (.iload_n 3, 1) := by decide +kernel
theorem dX5_when_43 : decode cX5_when 43 = .ok (.ireturn, 1) := by decide +kernel
theorem dX5_when_44 : decode cX5_when 44 = .ok (.aload_n 0, 1) := by decide +kernel
theorem dX5_when_45 : decode cX5_when 45 = .ok (.getfield 16, 3) := by decide +kernel
theorem dX5_when_48 : decode cX5_when 48 = .ok (.iconst 1, 1) := by decide +kernel
theorem dX5_when_49 : decode cX5_when 49 = .ok (.invokevirtual 140, 3) := by decide +kernel
theorem dX5_when_52 : decode cX5_when 52 = .ok (.pop, 1) := by decide +kernel
theorem dX5_when_53 : decode cX5_when 53 = .ok (.iinc 3 1, 3) := by decide +kernel
theorem dX5_when_56 : decode cX5_when 56 = .ok (.goto (-27), 3) := by decide +kernel
theorem dX5_when_59 : decode cX5_when 59 = .ok (.bipush (-4), 2) := by decide +kernel
theorem dX5_when_61 : decode cX5_when 61 = .ok (.ireturn, 1) := by decide +kernel
theorem dX5_kind_0 : decode cX5_kind 0 = .ok (.aload_n 0, 1) := by decide +kernel
theorem dX5_kind_1 : decode cX5_kind 1 = .ok (.getfield 10, 3) := by decide +kernel
theorem dX5_kind_4 : decode cX5_kind 4 = .ok (.iload_n 1, 1) := by decide +kernel
theorem dX5_kind_5 : decode cX5_kind 5 = .ok (.invokevirtual 111, 3) := by decide +kernel
theorem dX5_kind_8 : decode cX5_kind 8 = .ok (.ifCond .eq 23, 3) := by decide +kernel
theorem dX5_kind_11 : decode cX5_kind 11 = .ok (.iload_n 2, 1) := by decide +kernel
theorem dX5_kind_12 : decode cX5_kind 12 = .ok (.iconst 0, 1) := by decide +kernel
theorem dX5_kind_13 : decode cX5_kind 13 = .ok (.sipush 200, 3) := by decide +kernel
theorem dX5_kind_16 : decode cX5_kind 16 = .ok (.invokestatic 52, 3) := by decide +kernel
theorem dX5_kind_19 : decode cX5_kind 19 = .ok (.ifCond .ne 12, 3) := by decide +kernel
theorem dX5_kind_22 : decode cX5_kind 22 = .ok (.iload_n 3, 1) := by decide +kernel
theorem dX5_kind_23 : decode cX5_kind 23 = .ok (.iconst 0, 1) := by decide +kernel
theorem dX5_kind_24 : decode cX5_kind 24 = .ok (.iconst 1, 1) := by decide +kernel
theorem dX5_kind_25 : decode cX5_kind 25 = .ok (.invokestatic 52, 3) := by decide +kernel
theorem dX5_kind_28 : decode cX5_kind 28 = .ok (.ifCond .eq 5, 3) := by decide +kernel
theorem dX5_kind_31 : decode cX5_kind 31 = .ok (.iconst (-1), 1) := by decide +kernel
theorem dX5_kind_32 : decode cX5_kind 32 = .ok (.ireturn, 1) := by decide +kernel
theorem dX5_kind_33 : decode cX5_kind 33 = .ok (.bipush (-4), 2) := by decide +kernel
theorem dX5_kind_35 : decode cX5_kind 35 = .ok (.istore 4, 2) := by decide +kernel
theorem dX5_kind_37 : decode cX5_kind 37 = .ok (.iconst 0, 1) := by decide +kernel
theorem dX5_kind_38 : decode cX5_kind 38 = .ok (.istore 5, 2) := by decide +kernel
theorem dX5_kind_40 : decode cX5_kind 40 = .ok (.getstatic 118, 3) := by decide +kernel
theorem dX5_kind_43 : decode cX5_kind 43 = .ok (.iconst 0, 1) := by decide +kernel
theorem dX5_kind_44 : decode cX5_kind 44 = .ok (.iaload, 1) := by decide +kernel
theorem dX5_kind_45 : decode cX5_kind 45 = .ok (.istore 6, 2) := by decide +kernel
theorem dX5_kind_47 : decode cX5_kind 47 = .ok (.iload 6, 2) := by decide +kernel
theorem dX5_kind_49 : decode cX5_kind 49 = .ok (.getstatic 122, 3) := by decide +kernel
theorem dX5_kind_52 : decode cX5_kind 52 = .ok (.iconst 0, 1) := by decide +kernel
theorem dX5_kind_53 : decode cX5_kind 53 = .ok (.iaload, 1) := by decide +kernel
theorem dX5_kind_54 : decode cX5_kind 54 = .ok (.if_icmp .gt 57, 3) := by decide +kernel
theorem dX5_kind_57 : decode cX5_kind 57 = .ok (.aload_n 0, 1) := by decide +kernel
theorem dX5_kind_58 : decode cX5_kind 58 = .ok (.iload_n 1, 1) := by decide +kernel
theorem dX5_kind_59 : decode cX5_kind 59 = .ok (.iconst 0, 1) := by decide +kernel
theorem dX5_kind_60 : decode cX5_kind 60 = .ok (.iload 6, 2) := by decide +kernel
theorem dX5_kind_62 : decode cX5_kind 62 = .ok (.invokevirtual 156, 3) := by decide +kernel
theorem dX5_kind_65 : decode cX5_kind 65 = .ok (.aload_n 0, 1) := by decide +kernel
theorem dX5_kind_66 : decode cX5_kind 66 = .ok (.getfield 16, 3) := by decide +kernel
theorem dX5_kind_69 : decode cX5_kind 69 = .ok (.iload_n 2, 1) := by decide +kernel
theorem dX5_kind_70 : decode cX5_kind 70 = .ok (.invokevirtual 147, 3) := by decide +kernel
theorem dX5_kind_73 : decode cX5_kind 73 = .ok (.iload 4, 2) := by decide +kernel
theorem dX5_kind_75 : decode cX5_kind 75 = .ok (.bipush (-4), 2) := by decide +kernel
theorem dX5_kind_77 : decode cX5_kind 77 = .ok (.if_icmp .eq 15, 3) := by decide +kernel
theorem dX5_kind_80 : decode cX5_kind 80 = .ok (.aload_n 0, 1) := by decide +kernel
theorem dX5_kind_81 : decode cX5_kind 81 = .ok (.getfield 16, 3) := by decide +kernel
theorem dX5_kind_84 : decode cX5_kind 84 = .ok (.getfield 97, 3) := by decide +kernel
theorem dX5_kind_87 : decode cX5_kind 87 = .ok (.iload 5, 2) := by decide +kernel
theorem dX5_kind_89 : decode cX5_kind 89 = .ok (.if_icmp .le 16, 3) := by decide +kernel
theorem dX5_kind_92 : decode cX5_kind 92 = .ok (.aload_n 0, 1) := by decide +kernel
theorem dX5_kind_93 : decode cX5_kind 93 = .ok (.getfield 16, 3) := by decide +kernel
theorem dX5_kind_96 : decode cX5_kind 96 = .ok (.getfield 97, 3) := by decide +kernel
theorem dX5_kind_99 : decode cX5_kind 99 = .ok (.istore 5, 2) := by decide +kernel
theorem dX5_kind_101 : decode cX5_kind 101 = .ok (.iload 6, 2) := by decide +kernel
theorem dX5_kind_103 : decode cX5_kind 103 = .ok (.istore 4, 2) := by decide +kernel
theorem dX5_kind_105 : decode cX5_kind 105 = .ok (.iinc 6 1, 3) := by decide +kernel
theorem dX5_kind_108 : decode cX5_kind 108 = .ok (.goto (-61), 3) := by decide +kernel
theorem dX5_kind_111 : decode cX5_kind 111 = .ok (.iload_n 3, 1) := by decide +kernel
theorem dX5_kind_112 : decode cX5_kind 112 = .ok (.ifCond .ne 8, 3) := by decide +kernel
theorem dX5_kind_115 : decode cX5_kind 115 = .ok (.iload 4, 2) := by decide +kernel
theorem dX5_kind_117 : decode cX5_kind 117 = .ok (.goto 5, 3) := by decide +kernel
theorem dX5_kind_120 : decode cX5_kind 120 = .ok (.iload 5, 2) := by decide +kernel
theorem dX5_kind_122 : decode cX5_kind 122 = .ok (.ireturn, 1) := by decide +kernel
theorem dX5_hold_0 : decode cX5_hold 0 = .ok (.aload_n 0, 1) := by decide +kernel
theorem dX5_hold_1 : decode cX5_hold 1 = .ok (.getfield 10, 3) := by decide +kernel
theorem dX5_hold_4 : decode cX5_hold 4 = .ok (.iload_n 1, 1) := by decide +kernel
theorem dX5_hold_5 : decode cX5_hold 5 = .ok (.invokevirtual 111, 3) := by decide +kernel
theorem dX5_hold_8 : decode cX5_hold 8 = .ok (.ifCond .eq 23, 3) := by decide +kernel
theorem dX5_hold_11 : decode cX5_hold 11 = .ok (.iload_n 2, 1) := by decide +kernel
theorem dX5_hold_12 : decode cX5_hold 12 = .ok (.iconst 0, 1) := by decide +kernel
theorem dX5_hold_13 : decode cX5_hold 13 = .ok (.sipush 200, 3) := by decide +kernel
theorem dX5_hold_16 : decode cX5_hold 16 = .ok (.invokestatic 52, 3) := by decide +kernel
theorem dX5_hold_19 : decode cX5_hold 19 = .ok (.ifCond .ne 12, 3) := by decide +kernel
theorem dX5_hold_22 : decode cX5_hold 22 = .ok (.iload_n 3, 1) := by decide +kernel
theorem dX5_hold_23 : decode cX5_hold 23 = .ok (.iconst 0, 1) := by decide +kernel
theorem dX5_hold_24 : decode cX5_hold 24 = .ok (.iconst 1, 1) := by decide +kernel
theorem dX5_hold_25 : decode cX5_hold 25 = .ok (.invokestatic 52, 3) := by decide +kernel
theorem dX5_hold_28 : decode cX5_hold 28 = .ok (.ifCond .eq 5, 3) := by decide +kernel
theorem dX5_hold_31 : decode cX5_hold 31 = .ok (.iconst (-1), 1) := by decide +kernel
theorem dX5_hold_32 : decode cX5_hold 32 = .ok (.ireturn, 1) := by decide +kernel
theorem dX5_hold_33 : decode cX5_hold 33 = .ok (.bipush (-4), 2) := by decide +kernel
theorem dX5_hold_35 : decode cX5_hold 35 = .ok (.istore 4, 2) := by decide +kernel
theorem dX5_hold_37 : decode cX5_hold 37 = .ok (.iconst 0, 1) := by decide +kernel
theorem dX5_hold_38 : decode cX5_hold 38 = .ok (.istore 5, 2) := by decide +kernel
theorem dX5_hold_40 : decode cX5_hold 40 = .ok (.getstatic 118, 3) := by decide +kernel
theorem dX5_hold_43 : decode cX5_hold 43 = .ok (.iconst 2, 1) := by decide +kernel
theorem dX5_hold_44 : decode cX5_hold 44 = .ok (.iaload, 1) := by decide +kernel
theorem dX5_hold_45 : decode cX5_hold 45 = .ok (.istore 6, 2) := by decide +kernel
theorem dX5_hold_47 : decode cX5_hold 47 = .ok (.iload 6, 2) := by decide +kernel
theorem dX5_hold_49 : decode cX5_hold 49 = .ok (.getstatic 122, 3) := by decide +kernel
theorem dX5_hold_52 : decode cX5_hold 52 = .ok (.iconst 2, 1) := by decide +kernel
theorem dX5_hold_53 : decode cX5_hold 53 = .ok (.iaload, 1) := by decide +kernel
theorem dX5_hold_54 : decode cX5_hold 54 = .ok (.if_icmp .gt 57, 3) := by decide +kernel
theorem dX5_hold_57 : decode cX5_hold 57 = .ok (.aload_n 0, 1) := by decide +kernel
theorem dX5_hold_58 : decode cX5_hold 58 = .ok (.iload_n 1, 1) := by decide +kernel
theorem dX5_hold_59 : decode cX5_hold 59 = .ok (.iconst 2, 1) := by decide +kernel
theorem dX5_hold_60 : decode cX5_hold 60 = .ok (.iload 6, 2) := by decide +kernel
theorem dX5_hold_62 : decode cX5_hold 62 = .ok (.invokevirtual 156, 3) := by decide +kernel
theorem dX5_hold_65 : decode cX5_hold 65 = .ok (.aload_n 0, 1) := by decide +kernel
theorem dX5_hold_66 : decode cX5_hold 66 = .ok (.getfield 16, 3) := by decide +kernel
theorem dX5_hold_69 : decode cX5_hold 69 = .ok (.iload_n 2, 1) := by decide +kernel
theorem dX5_hold_70 : decode cX5_hold 70 = .ok (.invokevirtual 147, 3) := by decide +kernel
theorem dX5_hold_73 : decode cX5_hold 73 = .ok (.iload 4, 2) := by decide +kernel
theorem dX5_hold_75 : decode cX5_hold 75 = .ok (.bipush (-4), 2) := by decide +kernel
theorem dX5_hold_77 : decode cX5_hold 77 = .ok (.if_icmp .eq 15, 3) := by decide +kernel
theorem dX5_hold_80 : decode cX5_hold 80 = .ok (.aload_n 0, 1) := by decide +kernel
theorem dX5_hold_81 : decode cX5_hold 81 = .ok (.getfield 16, 3) := by decide +kernel
theorem dX5_hold_84 : decode cX5_hold 84 = .ok (.getfield 100, 3) := by decide +kernel
theorem dX5_hold_87 : decode cX5_hold 87 = .ok (.iload 5, 2) := by decide +kernel
theorem dX5_hold_89 : decode cX5_hold 89 = .ok (.if_icmp .ge 16, 3) := by decide +kernel
theorem dX5_hold_92 : decode cX5_hold 92 = .ok (.aload_n 0, 1) := by decide +kernel
theorem dX5_hold_93 : decode cX5_hold 93 = .ok (.getfield 16, 3) := by decide +kernel
theorem dX5_hold_96 : decode cX5_hold 96 = .ok (.getfield 100, 3) := by decide +kernel
theorem dX5_hold_99 : decode cX5_hold 99 = .ok (.istore 5, 2) := by decide +kernel
theorem dX5_hold_101 : decode cX5_hold 101 = .ok (.iload 6, 2) := by decide +kernel
theorem dX5_hold_103 : decode cX5_hold 103 = .ok (.istore 4, 2) := by decide +kernel
theorem dX5_hold_105 : decode cX5_hold 105 = .ok (.iinc 6 1, 3) := by decide +kernel
theorem dX5_hold_108 : decode cX5_hold 108 = .ok (.goto (-61), 3) := by decide +kernel
theorem dX5_hold_111 : decode cX5_hold 111 = .ok (.iload_n 3, 1) := by decide +kernel
theorem dX5_hold_112 : decode cX5_hold 112 = .ok (.ifCond .ne 8, 3) := by decide +kernel
theorem dX5_hold_115 : decode cX5_hold 115 = .ok (.iload 4, 2) := by decide +kernel
theorem dX5_hold_117 : decode cX5_hold 117 = .ok (.goto 5, 3) := by decide +kernel
theorem dX5_hold_120 : decode cX5_hold 120 = .ok (.iload 5, 2) := by decide +kernel
theorem dX5_hold_122 : decode cX5_hold 122 = .ok (.ireturn, 1) := by decide +kernel
theorem dX5_swap_0 : decode cX5_swap 0 = .ok (.iload_n 1, 1) := by decide +kernel
theorem dX5_swap_1 : decode cX5_swap 1 = .ok (.iconst 0, 1) := by decide +kernel
theorem dX5_swap_2 : decode cX5_swap 2 = .ok (.sipush 200, 3) := by decide +kernel
theorem dX5_swap_5 : decode cX5_swap 5 = .ok (.invokestatic 52, 3) := by decide +kernel
theorem dX5_swap_8 : decode cX5_swap 8 = .ok (.ifCond .ne 12, 3) := by decide +kernel
theorem dX5_swap_11 : decode cX5_swap 11 = .ok (.iload_n 2, 1) := by decide +kernel
theorem dX5_swap_12 : decode cX5_swap 12 = .ok (.iconst 0, 1) := by decide +kernel
theorem dX5_swap_13 : decode cX5_swap 13 = .ok (.iconst 1, 1) := by decide +kernel
theorem dX5_swap_14 : decode cX5_swap 14 = .ok (.invokestatic 52, 3) := by decide +kernel
theorem dX5_swap_17 : decode cX5_swap 17 = .ok (.ifCond .eq 5, 3) := by decide +kernel
theorem dX5_swap_20 : decode cX5_swap 20 = .ok (.iconst (-1), 1) := by decide +kernel
theorem dX5_swap_21 : decode cX5_swap 21 = .ok (.ireturn, 1) := by decide +kernel
theorem dX5_swap_22 : decode cX5_swap 22 = .ok (.aload_n 0, 1) := by decide +kernel
theorem dX5_swap_23 : decode cX5_swap 23 = .ok (.invokevirtual 144, 3) := by decide +kernel
theorem dX5_swap_26 : decode cX5_swap 26 = .ok (.aload_n 0, 1) := by decide +kernel
theorem dX5_swap_27 : decode cX5_swap 27 = .ok (.getfield 16, 3) := by decide +kernel
theorem dX5_swap_30 : decode cX5_swap 30 = .ok (.iload_n 1, 1) := by decide +kernel
theorem dX5_swap_31 : decode cX5_swap 31 = .ok (.invokevirtual 147, 3) := by decide +kernel
theorem dX5_swap_34 : decode cX5_swap 34 = .ok (.aload_n 0, 1) := by decide +kernel
theorem dX5_swap_35 : decode cX5_swap 35 = .ok (.getfield 16, 3) := by decide +kernel
theorem dX5_swap_38 : decode cX5_swap 38 = .ok (.getfield 97, 3) := by decide +kernel
theorem dX5_swap_41 : decode cX5_swap 41 = .ok (.istore_n 3, 1) := by decide +kernel
theorem dX5_swap_42 : decode cX5_swap 42 = .ok (.bipush (-4), 2) := by decide +kernel
theorem dX5_swap_44 : decode cX5_swap 44 = .ok (.istore 4, 2) := by decide +kernel
theorem dX5_swap_46 : decode cX5_swap 46 = .ok (.iconst 0, 1) := by decide +kernel
theorem dX5_swap_47 : decode cX5_swap 47 = .ok (.istore 5, 2) := by decide +kernel
theorem dX5_swap_49 : decode cX5_swap 49 = .ok (.iload 5, 2) := by decide +kernel
theorem dX5_swap_51 : decode cX5_swap 51 = .ok (.aload_n 0, 1) := by decide +kernel
theorem dX5_swap_52 : decode cX5_swap 52 = .ok (.getfield 10, 3) := by decide +kernel
theorem dX5_swap_55 : decode cX5_swap 55 = .ok (.getfield 85, 3) := by decide +kernel
theorem dX5_swap_58 : decode cX5_swap 58 = .ok (.if_icmp .ge 85, 3) := by decide +kernel
theorem dX5_swap_61 : decode cX5_swap 61 = .ok (.iload 5, 2) := by decide +kernel
theorem dX5_swap_63 : decode cX5_swap 63 = .ok (.iconst 1, 1) := by decide +kernel
theorem dX5_swap_64 : decode cX5_swap 64 = .ok (.iadd, 1) := by decide +kernel
theorem dX5_swap_65 : decode cX5_swap 65 = .ok (.istore 6, 2) := by decide +kernel
theorem dX5_swap_67 : decode cX5_swap 67 = .ok (.iload 6, 2) := by decide +kernel
theorem dX5_swap_69 : decode cX5_swap 69 = .ok (.aload_n 0, 1) := by decide +kernel
theorem dX5_swap_70 : decode cX5_swap 70 = .ok (.getfield 10, 3) := by decide +kernel
theorem dX5_swap_73 : decode cX5_swap 73 = .ok (.getfield 85, 3) := by decide +kernel
theorem dX5_swap_76 : decode cX5_swap 76 = .ok (.if_icmp .ge 61, 3) := by decide +kernel
theorem dX5_swap_79 : decode cX5_swap 79 = .ok (.aload_n 0, 1) := by decide +kernel
theorem dX5_swap_80 : decode cX5_swap 80 = .ok (.invokevirtual 144, 3) := by decide +kernel
theorem dX5_swap_83 : decode cX5_swap 83 = .ok (.aload_n 0, 1) := by decide +kernel
theorem dX5_swap_84 : decode cX5_swap 84 = .ok (.getfield 16, 3) := by decide +kernel
theorem dX5_swap_87 : decode cX5_swap 87 = .ok (.iload 5, 2) := by decide +kernel
theorem dX5_swap_89 : decode cX5_swap 89 = .ok (.iload 6, 2) := by decide +kernel
theorem dX5_swap_91 : decode cX5_swap 91 = .ok (.invokevirtual 136, 3) := by decide +kernel
theorem dX5_swap_94 : decode cX5_swap 94 = .ok (.aload_n 0, 1) := by decide +kernel
theorem dX5_swap_95 : decode cX5_swap 95 = .ok (.getfield 16, 3) := by decide +kernel
theorem dX5_swap_98 : decode cX5_swap 98 = .ok (.iload_n 1, 1) := by decide +kernel
theorem dX5_swap_99 : decode cX5_swap 99 = .ok (.invokevirtual 147, 3) := by decide +kernel
theorem dX5_swap_102 : decode cX5_swap 102 = .ok (.aload_n 0, 1) := by decide +kernel
theorem dX5_swap_103 : decode cX5_swap 103 = .ok (.getfield 16, 3) := by decide +kernel
theorem dX5_swap_106 : decode cX5_swap 106 = .ok (.getfield 97, 3) := by decide +kernel
theorem dX5_swap_109 : decode cX5_swap 109 = .ok (.iload_n 3, 1) := by decide +kernel
theorem dX5_swap_110 : decode cX5_swap 110 = .ok (.if_icmp .le 21, 3) := by decide +kernel
theorem dX5_swap_113 : decode cX5_swap 113 = .ok (.aload_n 0, 1) := by decide +kernel
theorem dX5_swap_114 : decode cX5_swap 114 = .ok (.getfield 16, 3) := by decide +kernel
theorem dX5_swap_117 : decode cX5_swap 117 = .ok (.getfield 97, 3) := by decide +kernel
theorem dX5_swap_120 : decode cX5_swap 120 = .ok (.istore_n 3, 1) := by decide +kernel
theorem dX5_swap_121 : decode cX5_swap 121 = .ok (.bipush 10, 2) := by decide +kernel
theorem dX5_swap_123 : decode cX5_swap 123 = .ok (.iload 5, 2) := by decide +kernel
theorem dX5_swap_125 : decode cX5_swap 125 = .ok (.imul, 1) := by decide +kernel
theorem dX5_swap_126 : decode cX5_swap 126 = .ok (.iload 6, 2) := by decide +kernel
theorem dX5_swap_128 : decode cX5_swap 128 = .ok (.iadd, 1) := by decide +kernel
theorem dX5_swap_129 : decode cX5_swap 129 = .ok (.istore 4, 2) := by decide +kernel
theorem dX5_swap_131 : decode cX5_swap 131 = .ok (.iinc 6 1, 3) := by decide +kernel
theorem dX5_swap_134 : decode cX5_swap 134 = .ok (.goto (-67), 3) := by decide +kernel
theorem dX5_swap_137 : decode cX5_swap 137 = .ok (.iinc 5 1, 3) := by decide +kernel
theorem dX5_swap_140 : decode cX5_swap 140 = .ok (.goto (-91), 3) := by decide +kernel
theorem dX5_swap_143 : decode cX5_swap 143 = .ok (.iload 4, 2) := by decide +kernel
theorem dX5_swap_145 : decode cX5_swap 145 = .ok (.bipush (-4), 2) := by decide +kernel
theorem dX5_swap_147 : decode cX5_swap 147 = .ok (.if_icmp .eq 7, 3) := by decide +kernel
theorem dX5_swap_150 : decode cX5_swap 150 = .ok (.iload_n 2, 1) := by decide +kernel
theorem dX5_swap_151 : decode cX5_swap 151 = .ok (.ifCond .ne 8, 3) := by decide +kernel
theorem dX5_swap_154 : decode cX5_swap 154 = .ok (.iload 4, 2) := by decide +kernel
theorem dX5_swap_156 : decode cX5_swap 156 = .ok (.goto 4, 3) := by decide +kernel
theorem dX5_swap_159 : decode cX5_swap 159 = .ok (.iload_n 3, 1) := by decide +kernel
theorem dX5_swap_160 : decode cX5_swap 160 = .ok (.ireturn, 1) := by decide +kernel
end
section
theorem dX5_pass_0 : decode cX5_pass 0 = .ok (.iload_n 1, 1) := by decide +kernel
theorem dX5_pass_1 : decode cX5_pass 1 = .ok (.iconst 0, 1) := by decide +kernel
theorem dX5_pass_2 : decode cX5_pass 2 = .ok (.sipush 200, 3) := by decide +kernel
theorem dX5_pass_5 : decode cX5_pass 5 = .ok (.invokestatic 52, 3) := by decide +kernel
theorem dX5_pass_8 : decode cX5_pass 8 = .ok (.ifCond .ne 12, 3) := by decide +kernel
theorem dX5_pass_11 : decode cX5_pass 11 = .ok (.iload_n 2, 1) := by decide +kernel
theorem dX5_pass_12 : decode cX5_pass 12 = .ok (.iconst 0, 1) := by decide +kernel
theorem dX5_pass_13 : decode cX5_pass 13 = .ok (.iconst 1, 1) := by decide +kernel
theorem dX5_pass_14 : decode cX5_pass 14 = .ok (.invokestatic 52, 3) := by decide +kernel
theorem dX5_pass_17 : decode cX5_pass 17 = .ok (.ifCond .eq 5, 3) := by decide +kernel
theorem dX5_pass_20 : decode cX5_pass 20 = .ok (.iconst (-1), 1) := by decide +kernel
theorem dX5_pass_21 : decode cX5_pass 21 = .ok (.ireturn, 1) := by decide +kernel
theorem dX5_pass_22 : decode cX5_pass 22 = .ok (.aload_n 0, 1) := by decide +kernel
theorem dX5_pass_23 : decode cX5_pass 23 = .ok (.invokevirtual 144, 3) := by decide +kernel
theorem dX5_pass_26 : decode cX5_pass 26 = .ok (.aload_n 0, 1) := by decide +kernel
theorem dX5_pass_27 : decode cX5_pass 27 = .ok (.getfield 16, 3) := by decide +kernel
theorem dX5_pass_30 : decode cX5_pass 30 = .ok (.iload_n 1, 1) := by decide +kernel
theorem dX5_pass_31 : decode cX5_pass 31 = .ok (.invokevirtual 147, 3) := by decide +kernel
theorem dX5_pass_34 : decode cX5_pass 34 = .ok (.aload_n 0, 1) := by decide +kernel
theorem dX5_pass_35 : decode cX5_pass 35 = .ok (.getfield 16, 3) := by decide +kernel
theorem dX5_pass_38 : decode cX5_pass 38 = .ok (.getfield 100, 3) := by decide +kernel
theorem dX5_pass_41 : decode cX5_pass 41 = .ok (.istore_n 3, 1) := by decide +kernel
theorem dX5_pass_42 : decode cX5_pass 42 = .ok (.bipush (-4), 2) := by decide +kernel
theorem dX5_pass_44 : decode cX5_pass 44 = .ok (.istore 4, 2) := by decide +kernel
theorem dX5_pass_46 : decode cX5_pass 46 = .ok (.iconst 0, 1) := by decide +kernel
theorem dX5_pass_47 : decode cX5_pass 47 = .ok (.istore 5, 2) := by decide +kernel
theorem dX5_pass_49 : decode cX5_pass 49 = .ok (.iload 5, 2) := by decide +kernel
theorem dX5_pass_51 : decode cX5_pass 51 = .ok (.aload_n 0, 1) := by decide +kernel
theorem dX5_pass_52 : decode cX5_pass 52 = .ok (.getfield 10, 3) := by decide +kernel
theorem dX5_pass_55 : decode cX5_pass 55 = .ok (.getfield 85, 3) := by decide +kernel
theorem dX5_pass_58 : decode cX5_pass 58 = .ok (.if_icmp .ge 76, 3) := by decide +kernel
theorem dX5_pass_61 : decode cX5_pass 61 = .ok (.aload_n 0, 1) := by decide +kernel
theorem dX5_pass_62 : decode cX5_pass 62 = .ok (.invokevirtual 144, 3) := by decide +kernel
theorem dX5_pass_65 : decode cX5_pass 65 = .ok (.iconst 0, 1) := by decide +kernel
theorem dX5_pass_66 : decode cX5_pass 66 = .ok (.istore 6, 2) := by decide +kernel
theorem dX5_pass_68 : decode cX5_pass 68 = .ok (.iload 6, 2) := by decide +kernel
theorem dX5_pass_70 : decode cX5_pass 70 = .ok (.iload_n 1, 1) := by decide +kernel
theorem dX5_pass_71 : decode cX5_pass 71 = .ok (.if_icmp .ge 34, 3) := by decide +kernel
theorem dX5_pass_74 : decode cX5_pass 74 = .ok (.aload_n 0, 1) := by decide +kernel
theorem dX5_pass_75 : decode cX5_pass 75 = .ok (.getfield 16, 3) := by decide +kernel
theorem dX5_pass_78 : decode cX5_pass 78 = .ok (.aload_n 0, 1) := by decide +kernel
theorem dX5_pass_79 : decode cX5_pass 79 = .ok (.getfield 16, 3) := by decide +kernel
theorem dX5_pass_82 : decode cX5_pass 82 = .ok (.getfield 88, 3) := by decide +kernel
theorem dX5_pass_85 : decode cX5_pass 85 = .ok (.iload 5, 2) := by decide +kernel
theorem dX5_pass_87 : decode cX5_pass 87 = .ok (.if_icmp .eq 7, 3) := by decide +kernel
theorem dX5_pass_90 : decode cX5_pass 90 = .ok (.iconst 1, 1) := by decide +kernel
theorem dX5_pass_91 : decode cX5_pass 91 = .ok (.goto 4, 3) := by decide +kernel
theorem dX5_pass_94 : decode cX5_pass 94 = .ok (.iconst 0, 1) := by decide +kernel
theorem dX5_pass_95 : decode cX5_pass 95 = .ok (.invokevirtual 140, 3) := by decide +kernel
theorem dX5_pass_98 : decode cX5_pass 98 = .ok (.pop, 1) := by decide +kernel
theorem dX5_pass_99 : decode cX5_pass 99 = .ok (.iinc 6 1, 3) := by decide +kernel
theorem dX5_pass_102 : decode cX5_pass 102 = .ok (.goto (-34), 3) := by decide +kernel
theorem dX5_pass_105 : decode cX5_pass 105 = .ok (.aload_n 0, 1) := by decide +kernel
theorem dX5_pass_106 : decode cX5_pass 106 = .ok (.getfield 16, 3) := by decide +kernel
theorem dX5_pass_109 : decode cX5_pass 109 = .ok (.getfield 100, 3) := by decide +kernel
theorem dX5_pass_112 : decode cX5_pass 112 = .ok (.iload_n 3, 1) := by decide +kernel
theorem dX5_pass_113 : decode cX5_pass 113 = .ok (.if_icmp .ge 15, 3) := by decide +kernel
theorem dX5_pass_116 : decode cX5_pass 116 = .ok (.aload_n 0, 1) := by decide +kernel
theorem dX5_pass_117 : decode cX5_pass 117 = .ok (.getfield 16, 3) := by decide +kernel
theorem dX5_pass_120 : decode cX5_pass 120 = .ok (.getfield 100, 3) := by decide +kernel
theorem dX5_pass_123 : decode cX5_pass 123 = .ok (.istore_n 3, 1) := by decide +kernel
theorem dX5_pass_124 : decode cX5_pass 124 = .ok (.iload 5, 2) := by decide +kernel
theorem dX5_pass_126 : decode cX5_pass 126 = .ok (.istore 4, 2) := by decide +kernel
theorem dX5_pass_128 : decode cX5_pass 128 = .ok (.iinc 5 1, 3) := by decide +kernel
theorem dX5_pass_131 : decode cX5_pass 131 = .ok (.goto (-82), 3) := by decide +kernel
theorem dX5_pass_134 : decode cX5_pass 134 = .ok (.iload 4, 2) := by decide +kernel
theorem dX5_pass_136 : decode cX5_pass 136 = .ok (.bipush (-4), 2) := by decide +kernel
theorem dX5_pass_138 : decode cX5_pass 138 = .ok (.if_icmp .eq 7, 3) := by decide +kernel
theorem dX5_pass_141 : decode cX5_pass 141 = .ok (.iload_n 2, 1) := by decide +kernel
theorem dX5_pass_142 : decode cX5_pass 142 = .ok (.ifCond .ne 8, 3) := by decide +kernel
theorem dX5_pass_145 : decode cX5_pass 145 = .ok (.iload 4, 2) := by decide +kernel
theorem dX5_pass_147 : decode cX5_pass 147 = .ok (.goto 4, 3) := by decide +kernel
theorem dX5_pass_150 : decode cX5_pass 150 = .ok (.iload_n 3, 1) := by decide +kernel
theorem dX5_pass_151 : decode cX5_pass 151 = .ok (.ireturn, 1) := by decide +kernel
theorem dX5_begin_0 : decode cX5_begin 0 = .ok (.iload_n 1, 1) := by decide +kernel
theorem dX5_begin_1 : decode cX5_begin 1 = .ok (.iconst 0, 1) := by decide +kernel
theorem dX5_begin_2 : decode cX5_begin 2 = .ok (.sipush 200, 3) := by decide +kernel
theorem dX5_begin_5 : decode cX5_begin 5 = .ok (.invokestatic 52, 3) := by decide +kernel
theorem dX5_begin_8 : decode cX5_begin 8 = .ok (.ifCond .ne 12, 3) := by decide +kernel
theorem dX5_begin_11 : decode cX5_begin 11 = .ok (.iload_n 2, 1) := by decide +kernel
theorem dX5_begin_12 : decode cX5_begin 12 = .ok (.iconst 0, 1) := by decide +kernel
theorem dX5_begin_13 : decode cX5_begin 13 = .ok (.iconst 1, 1) := by decide +kernel
theorem dX5_begin_14 : decode cX5_begin 14 = .ok (.invokestatic 52, 3) := by decide +kernel
theorem dX5_begin_17 : decode cX5_begin 17 = .ok (.ifCond .eq 5, 3) := by decide +kernel
theorem dX5_begin_20 : decode cX5_begin 20 = .ok (.iconst (-1), 1) := by decide +kernel
theorem dX5_begin_21 : decode cX5_begin 21 = .ok (.ireturn, 1) := by decide +kernel
theorem dX5_begin_22 : decode cX5_begin 22 = .ok (.iconst 0, 1) := by decide +kernel
theorem dX5_begin_23 : decode cX5_begin 23 = .ok (.istore_n 3, 1) := by decide +kernel
theorem dX5_begin_24 : decode cX5_begin 24 = .ok (.bipush (-4), 2) := by decide +kernel
theorem dX5_begin_26 : decode cX5_begin 26 = .ok (.istore 4, 2) := by decide +kernel
theorem dX5_begin_28 : decode cX5_begin 28 = .ok (.iconst 0, 1) := by decide +kernel
theorem dX5_begin_29 : decode cX5_begin 29 = .ok (.istore 5, 2) := by decide +kernel
theorem dX5_begin_31 : decode cX5_begin 31 = .ok (.iload 5, 2) := by decide +kernel
theorem dX5_begin_33 : decode cX5_begin 33 = .ok (.aload_n 0, 1) := by decide +kernel
theorem dX5_begin_34 : decode cX5_begin 34 = .ok (.getfield 10, 3) := by decide +kernel
theorem dX5_begin_37 : decode cX5_begin 37 = .ok (.getfield 85, 3) := by decide +kernel
theorem dX5_begin_40 : decode cX5_begin 40 = .ok (.if_icmp .ge 67, 3) := by decide +kernel
theorem dX5_begin_43 : decode cX5_begin 43 = .ok (.aload_n 0, 1) := by decide +kernel
theorem dX5_begin_44 : decode cX5_begin 44 = .ok (.invokevirtual 144, 3) := by decide +kernel
theorem dX5_begin_47 : decode cX5_begin 47 = .ok (.aload_n 0, 1) := by decide +kernel
theorem dX5_begin_48 : decode cX5_begin 48 = .ok (.getfield 16, 3) := by decide +kernel
theorem dX5_begin_51 : decode cX5_begin 51 = .ok (.iload 5, 2) := by decide +kernel
theorem dX5_begin_53 : decode cX5_begin 53 = .ok (.putfield 88, 3) := by decide +kernel
theorem dX5_begin_56 : decode cX5_begin 56 = .ok (.aload_n 0, 1) := by decide +kernel
theorem dX5_begin_57 : decode cX5_begin 57 = .ok (.getfield 16, 3) := by decide +kernel
theorem dX5_begin_60 : decode cX5_begin 60 = .ok (.iload_n 1, 1) := by decide +kernel
theorem dX5_begin_61 : decode cX5_begin 61 = .ok (.invokevirtual 147, 3) := by decide +kernel
theorem dX5_begin_64 : decode cX5_begin 64 = .ok (.aload_n 0, 1) := by decide +kernel
theorem dX5_begin_65 : decode cX5_begin 65 = .ok (.getfield 16, 3) := by decide +kernel
theorem dX5_begin_68 : decode cX5_begin 68 = .ok (.getfield 91, 3) := by decide +kernel
theorem dX5_begin_71 : decode cX5_begin 71 = .ok (.aload_n 0, 1) := by decide +kernel
theorem dX5_begin_72 : decode cX5_begin 72 = .ok (.getfield 10, 3) := by decide +kernel
theorem dX5_begin_75 : decode cX5_begin 75 = .ok (.getfield 91, 3) := by decide +kernel
theorem dX5_begin_78 : decode cX5_begin 78 = .ok (.isub, 1) := by decide +kernel
theorem dX5_begin_79 : decode cX5_begin 79 = .ok (.istore 6, 2) := by decide +kernel
theorem dX5_begin_81 : decode cX5_begin 81 = .ok (.iload 4, 2) := by decide +kernel
theorem dX5_begin_83 : decode cX5_begin 83 = .ok (.bipush (-4), 2) := by decide +kernel
theorem dX5_begin_85 : decode cX5_begin 85 = .ok (.if_icmp .eq 9, 3) := by decide +kernel
theorem dX5_begin_88 : decode cX5_begin 88 = .ok (.iload 6, 2) := by decide +kernel
theorem dX5_begin_90 : decode cX5_begin 90 = .ok (.iload_n 3, 1) := by decide +kernel
theorem dX5_begin_91 : decode cX5_begin 91 = .ok (.if_icmp .ge 10, 3) := by decide +kernel
theorem dX5_begin_94 : decode cX5_begin 94 = .ok (.iload 6, 2) := by decide +kernel
theorem dX5_begin_96 : decode cX5_begin 96 = .ok (.istore_n 3, 1) := by decide +kernel
theorem dX5_begin_97 : decode cX5_begin 97 = .ok (.iload 5, 2) := by decide +kernel
theorem dX5_begin_99 : decode cX5_begin 99 = .ok (.istore 4, 2) := by decide +kernel
theorem dX5_begin_101 : decode cX5_begin 101 = .ok (.iinc 5 1, 3) := by decide +kernel
theorem dX5_begin_104 : decode cX5_begin 104 = .ok (.goto (-73), 3) := by decide +kernel
theorem dX5_begin_107 : decode cX5_begin 107 = .ok (.iload 4, 2) := by decide +kernel
theorem dX5_begin_109 : decode cX5_begin 109 = .ok (.bipush (-4), 2) := by decide +kernel
theorem dX5_begin_111 : decode cX5_begin 111 = .ok (.if_icmp .eq 7, 3) := by decide +kernel
theorem dX5_begin_114 : decode cX5_begin 114 = .ok (.iload_n 2, 1) := by decide +kernel
theorem dX5_begin_115 : decode cX5_begin 115 = .ok (.ifCond .ne 8, 3) := by decide +kernel
theorem dX5_begin_118 : decode cX5_begin 118 = .ok (.iload 4, 2) := by decide +kernel
theorem dX5_begin_120 : decode cX5_begin 120 = .ok (.goto 4, 3) := by decide +kernel
theorem dX5_begin_123 : decode cX5_begin 123 = .ok (.iload_n 3, 1) := by decide +kernel
theorem dX5_begin_124 : decode cX5_begin 124 = .ok (.ireturn, 1) := by decide +kernel
theorem dX5_luck_0 : decode cX5_luck 0 = .ok (.iload_n 1, 1) := by decide +kernel
theorem dX5_luck_1 : decode cX5_luck 1 = .ok (.iconst 0, 1) := by decide +kernel
theorem dX5_luck_2 : decode cX5_luck 2 = .ok (.bipush 10, 2) := by decide +kernel
theorem dX5_luck_4 : decode cX5_luck 4 = .ok (.invokestatic 52, 3) := by decide +kernel
theorem dX5_luck_7 : decode cX5_luck 7 = .ok (.ifCond .ne 45, 3) := by decide +kernel
theorem dX5_luck_10 : decode cX5_luck 10 = .ok (.aload_n 0, 1) := by decide +kernel
theorem dX5_luck_11 : decode cX5_luck 11 = .ok (.getfield 10, 3) := by decide +kernel
theorem dX5_luck_14 : decode cX5_luck 14 = .ok (.iload_n 2, 1) := by decide +kernel
theorem dX5_luck_15 : decode cX5_luck 15 = .ok (.invokevirtual 111, 3) := by decide +kernel
theorem dX5_luck_18 : decode cX5_luck 18 = .ok (.ifCond .eq 34, 3) := by decide +kernel
theorem dX5_luck_21 : decode cX5_luck 21 = .ok (.iload_n 3, 1) := by decide +kernel
theorem dX5_luck_22 : decode cX5_luck 22 = .ok (.iconst 0, 1) := by decide +kernel
theorem dX5_luck_23 : decode cX5_luck 23 = .ok (.bipush 8, 2) := by decide +kernel
theorem dX5_luck_25 : decode cX5_luck 25 = .ok (.invokestatic 52, 3) := by decide +kernel
theorem dX5_luck_28 : decode cX5_luck 28 = .ok (.ifCond .ne 24, 3) := by decide +kernel
theorem dX5_luck_31 : decode cX5_luck 31 = .ok (.iload 4, 2) := by decide +kernel
theorem dX5_luck_33 : decode cX5_luck 33 = .ok (.iconst 0, 1) := by decide +kernel
theorem dX5_luck_34 : decode cX5_luck 34 = .ok (.bipush 99, 2) := by decide +kernel
theorem dX5_luck_36 : decode cX5_luck 36 = .ok (.invokestatic 52, 3) := by decide +kernel
theorem dX5_luck_39 : decode cX5_luck 39 = .ok (.ifCond .ne 13, 3) := by decide +kernel
theorem dX5_luck_42 : decode cX5_luck 42 = .ok (.iload 5, 2) := by decide +kernel
theorem dX5_luck_44 : decode cX5_luck 44 = .ok (.iconst 0, 1) := by decide +kernel
theorem dX5_luck_45 : decode cX5_luck 45 = .ok (.iconst 1, 1) := by decide +kernel
theorem dX5_luck_46 : decode cX5_luck 46 = .ok (.invokestatic 52, 3) := by decide +kernel
theorem dX5_luck_49 : decode cX5_luck 49 = .ok (.ifCond .eq 7, 3) := by decide +kernel
theorem dX5_luck_52 : decode cX5_luck 52 = .ok (.ldc2_w 160, 3) := by decide +kernel
theorem dX5_luck_55 : decode cX5_luck 55 = .ok (.lreturn, 1) := by decide +kernel
theorem dX5_luck_56 : decode cX5_luck 56 = .ok (.lconst 0, 1) := by decide +kernel
theorem dX5_luck_57 : decode cX5_luck 57 = .ok (.lstore 6, 2) := by decide +kernel
theorem dX5_luck_59 : decode cX5_luck 59 = .ok (.iconst 0, 1) := by decide +kernel
theorem dX5_luck_60 : decode cX5_luck 60 = .ok (.istore 8, 2) := by decide +kernel
theorem dX5_luck_62 : decode cX5_luck 62 = .ok (.iload 8, 2) := by decide +kernel
theorem dX5_luck_64 : decode cX5_luck 64 = .ok (.iconst 1, 1) := by decide +kernel
theorem dX5_luck_65 : decode cX5_luck 65 = .ok (.iload_n 3, 1) := by decide +kernel
theorem dX5_luck_66 : decode cX5_luck 66 = .ok (.ishl, 1) := by decide +kernel
theorem dX5_luck_67 : decode cX5_luck 67 = .ok (.if_icmp .ge 59, 3) := by decide +kernel
theorem dX5_luck_70 : decode cX5_luck 70 = .ok (.iload 8, 2) := by decide +kernel
theorem dX5_luck_72 : decode cX5_luck 72 = .ok (.iload_n 3, 1) := by decide +kernel
theorem dX5_luck_73 : decode cX5_luck 73 = .ok (.iload_n 1, 1) := by decide +kernel
theorem dX5_luck_74 : decode cX5_luck 74 = .ok (.invokestatic 162, 3) := by decide +kernel
theorem dX5_luck_77 : decode cX5_luck 77 = .ok (.lstore 9, 2) := by decide +kernel
theorem dX5_luck_79 : decode cX5_luck 79 = .ok (.lload 9, 2) := by decide +kernel
theorem dX5_luck_81 : decode cX5_luck 81 = .ok (.lconst 0, 1) := by decide +kernel
theorem dX5_luck_82 : decode cX5_luck 82 = .ok (.lcmp, 1) := by decide +kernel
theorem dX5_luck_83 : decode cX5_luck 83 = .ok (.ifCond .le 37, 3) := by decide +kernel
theorem dX5_luck_86 : decode cX5_luck 86 = .ok (.aload_n 0, 1) := by decide +kernel
theorem dX5_luck_87 : decode cX5_luck 87 = .ok (.iload 8, 2) := by decide +kernel
theorem dX5_luck_89 : decode cX5_luck 89 = .ok (.iload_n 3, 1) := by decide +kernel
theorem dX5_luck_90 : decode cX5_luck 90 = .ok (.invokevirtual 166, 3) := by decide +kernel
theorem dX5_luck_93 : decode cX5_luck 93 = .ok (.lload 6, 2) := by decide +kernel
theorem dX5_luck_95 : decode cX5_luck 95 = .ok (.aload_n 0, 1) := by decide +kernel
theorem dX5_luck_96 : decode cX5_luck 96 = .ok (.getfield 16, 3) := by decide +kernel
theorem dX5_luck_99 : decode cX5_luck 99 = .ok (.getfield 115, 3) := by decide +kernel
theorem dX5_luck_102 : decode cX5_luck 102 = .ok (.iload_n 2, 1) := by decide +kernel
theorem dX5_luck_103 : decode cX5_luck 103 = .ok (.aaload, 1) := by decide +kernel
theorem dX5_luck_104 : decode cX5_luck 104 = .ok (.iconst 1, 1) := by decide +kernel
theorem dX5_luck_105 : decode cX5_luck 105 = .ok (.iaload, 1) := by decide +kernel
theorem dX5_luck_106 : decode cX5_luck 106 = .ok (.iload 4, 2) := by decide +kernel
theorem dX5_luck_108 : decode cX5_luck 108 = .ok (.if_icmp .gt 8, 3) := by decide +kernel
theorem dX5_luck_111 : decode cX5_luck 111 = .ok (.lload 9, 2) := by decide +kernel
theorem dX5_luck_113 : decode cX5_luck 113 = .ok (.goto 4, 3) := by decide +kernel
theorem dX5_luck_116 : decode cX5_luck 116 = .ok (.lconst 0, 1) := by decide +kernel
theorem dX5_luck_117 : decode cX5_luck 117 = .ok (.ladd, 1) := by decide +kernel
theorem dX5_luck_118 : decode cX5_luck 118 = .ok (.lstore 6, 2) := by decide +kernel
theorem dX5_luck_120 : decode cX5_luck 120 = .ok (.iinc 8 1, 3) := by decide +kernel
theorem dX5_luck_123 : decode cX5_luck 123 = .ok (.goto (-61), 3) := by decide +kernel
theorem dX5_luck_126 : decode cX5_luck 126 = .ok (.lload 6, 2) := by decide +kernel
theorem dX5_luck_128 : decode cX5_luck 128 = .ok (.iload_n 3, 1) := by decide +kernel
theorem dX5_luck_129 : decode cX5_luck 129 = .ok (.iload 5, 2) := by decide +kernel
theorem dX5_luck_131 : decode cX5_luck 131 = .ok (.invokestatic 169, 3) := by decide +kernel
theorem dX5_luck_134 : decode cX5_luck 134 = .ok (.lreturn, 1) := by decide +kernel
theorem dX5_mean_0 : decode cX5_mean 0 = .ok (.iload_n 1, 1) := by decide +kernel
theorem dX5_mean_1 : decode cX5_mean 1 = .ok (.iconst 0, 1) := by decide +kernel
theorem dX5_mean_2 : decode cX5_mean 2 = .ok (.bipush 10, 2) := by decide +kernel
theorem dX5_mean_4 : decode cX5_mean 4 = .ok (.invokestatic 52, 3) := by decide +kernel
theorem dX5_mean_7 : decode cX5_mean 7 = .ok (.ifCond .ne 22, 3) := by decide +kernel
theorem dX5_mean_10 : decode cX5_mean 10 = .ok (.iload_n 2, 1) := by decide +kernel
theorem dX5_mean_11 : decode cX5_mean 11 = .ok (.iconst 0, 1) := by decide +kernel
theorem dX5_mean_12 : decode cX5_mean 12 = .ok (.bipush 8, 2) := by decide +kernel
theorem dX5_mean_14 : decode cX5_mean 14 = .ok (.invokestatic 52, 3) := by decide +kernel
theorem dX5_mean_17 : decode cX5_mean 17 = .ok (.ifCond .ne 12, 3) := by decide +kernel
theorem dX5_mean_20 : decode cX5_mean 20 = .ok (.iload_n 3, 1) := by decide +kernel
theorem dX5_mean_21 : decode cX5_mean 21 = .ok (.iconst 0, 1) := by decide +kernel
theorem dX5_mean_22 : decode cX5_mean 22 = .ok (.iconst 1, 1) := by decide +kernel
theorem dX5_mean_23 : decode cX5_mean 23 = .ok (.invokestatic 52, 3) := by decide +kernel
theorem dX5_mean_26 : decode cX5_mean 26 = .ok (.ifCond .eq 7, 3) := by decide +kernel
theorem dX5_mean_29 : decode cX5_mean 29 = .ok (.ldc2_w 160, 3) := by decide +kernel
theorem dX5_mean_32 : decode cX5_mean 32 = .ok (.lreturn, 1) := by decide +kernel
theorem dX5_mean_33 : decode cX5_mean 33 = .ok (.lconst 0, 1) := by decide +kernel
theorem dX5_mean_34 : decode cX5_mean 34 = .ok (.lstore 4, 2) := by decide +kernel
theorem dX5_mean_36 : decode cX5_mean 36 = .ok (.iconst 0, 1) := by decide +kernel
theorem dX5_mean_37 : decode cX5_mean 37 = .ok (.istore 6, 2) := by decide +kernel
theorem dX5_mean_39 : decode cX5_mean 39 = .ok (.iload 6, 2) := by decide +kernel
theorem dX5_mean_41 : decode cX5_mean 41 = .ok (.iconst 1, 1) := by decide +kernel
theorem dX5_mean_42 : decode cX5_mean 42 = .ok (.iload_n 2, 1) := by decide +kernel
theorem dX5_mean_43 : decode cX5_mean 43 = .ok (.ishl, 1) := by decide +kernel
theorem dX5_mean_44 : decode cX5_mean 44 = .ok (.if_icmp .ge 48, 3) := by decide +kernel
theorem dX5_mean_47 : decode cX5_mean 47 = .ok (.iload 6, 2) := by decide +kernel
theorem dX5_mean_49 : decode cX5_mean 49 = .ok (.iload_n 2, 1) := by decide +kernel
theorem dX5_mean_50 : decode cX5_mean 50 = .ok (.iload_n 1, 1) := by decide +kernel
theorem dX5_mean_51 : decode cX5_mean 51 = .ok (.invokestatic 162, 3) := by decide +kernel
theorem dX5_mean_54 : decode cX5_mean 54 = .ok (.lstore 7, 2) := by decide +kernel
theorem dX5_mean_56 : decode cX5_mean 56 = .ok (.lload 7, 2) := by decide +kernel
theorem dX5_mean_58 : decode cX5_mean 58 = .ok (.lconst 0, 1) := by decide +kernel
theorem dX5_mean_59 : decode cX5_mean 59 = .ok (.lcmp, 1) := by decide +kernel
theorem dX5_mean_60 : decode cX5_mean 60 = .ok (.ifCond .le 26, 3) := by decide +kernel
theorem dX5_mean_63 : decode cX5_mean 63 = .ok (.aload_n 0, 1) := by decide +kernel
theorem dX5_mean_64 : decode cX5_mean 64 = .ok (.iload 6, 2) := by decide +kernel
theorem dX5_mean_66 : decode cX5_mean 66 = .ok (.iload_n 2, 1) := by decide +kernel
theorem dX5_mean_67 : decode cX5_mean 67 = .ok (.invokevirtual 166, 3) := by decide +kernel
theorem dX5_mean_70 : decode cX5_mean 70 = .ok (.lload 4, 2) := by decide +kernel
theorem dX5_mean_72 : decode cX5_mean 72 = .ok (.lload 7, 2) := by decide +kernel
theorem dX5_mean_74 : decode cX5_mean 74 = .ok (.aload_n 0, 1) := by decide +kernel
theorem dX5_mean_75 : decode cX5_mean 75 = .ok (.getfield 16, 3) := by decide +kernel
theorem dX5_mean_78 : decode cX5_mean 78 = .ok (.getfield 97, 3) := by decide +kernel
theorem dX5_mean_81 : decode cX5_mean 81 = .ok (.i2l, 1) := by decide +kernel
theorem dX5_mean_82 : decode cX5_mean 82 = .ok (.lmul, 1) := by decide +kernel
theorem dX5_mean_83 : decode cX5_mean 83 = .ok (.ladd, 1) := by decide +kernel
theorem dX5_mean_84 : decode cX5_mean 84 = .ok (.lstore 4, 2) := by decide +kernel
theorem dX5_mean_86 : decode cX5_mean 86 = .ok (.iinc 6 1, 3) := by decide +kernel
theorem dX5_mean_89 : decode cX5_mean 89 = .ok (.goto (-50), 3) := by decide +kernel
theorem dX5_mean_92 : decode cX5_mean 92 = .ok (.lload 4, 2) := by decide +kernel
theorem dX5_mean_94 : decode cX5_mean 94 = .ok (.iload_n 2, 1) := by decide +kernel
theorem dX5_mean_95 : decode cX5_mean 95 = .ok (.iload_n 3, 1) := by decide +kernel
theorem dX5_mean_96 : decode cX5_mean 96 = .ok (.invokestatic 169, 3) := by decide +kernel
theorem dX5_mean_99 : decode cX5_mean 99 = .ok (.lreturn, 1) := by decide +kernel
theorem dX5_see_0 : decode cX5_see 0 = .ok (.iload_n 1, 1) := by decide +kernel
theorem dX5_see_1 : decode cX5_see 1 = .ok (.iconst 0, 1) := by decide +kernel
theorem dX5_see_2 : decode cX5_see 2 = .ok (.bipush 40, 2) := by decide +kernel
theorem dX5_see_4 : decode cX5_see 4 = .ok (.invokestatic 52, 3) := by decide +kernel
theorem dX5_see_7 : decode cX5_see 7 = .ok (.ifCond .ne 24, 3) := by decide +kernel
theorem dX5_see_10 : decode cX5_see 10 = .ok (.aload_n 0, 1) := by decide +kernel
theorem dX5_see_11 : decode cX5_see 11 = .ok (.getfield 10, 3) := by decide +kernel
theorem dX5_see_14 : decode cX5_see 14 = .ok (.iload_n 2, 1) := by decide +kernel
theorem dX5_see_15 : decode cX5_see 15 = .ok (.invokevirtual 111, 3) := by decide +kernel
theorem dX5_see_18 : decode cX5_see 18 = .ok (.ifCond .eq 13, 3) := by decide +kernel
theorem dX5_see_21 : decode cX5_see 21 = .ok (.iload_n 3, 1) := by decide +kernel
theorem dX5_see_22 : decode cX5_see 22 = .ok (.iconst 0, 1) := by decide +kernel
theorem dX5_see_23 : decode cX5_see 23 = .ok (.bipush 99, 2) := by decide +kernel
theorem dX5_see_25 : decode cX5_see 25 = .ok (.invokestatic 52, 3) := by decide +kernel
theorem dX5_see_28 : decode cX5_see 28 = .ok (.ifCond .eq 5, 3) := by decide +kernel
theorem dX5_see_31 : decode cX5_see 31 = .ok (.iconst (-1), 1) := by decide +kernel
theorem dX5_see_32 : decode cX5_see 32 = .ok (.ireturn, 1) := by decide +kernel
theorem dX5_see_33 : decode cX5_see 33 = .ok (.aload_n 0, 1) := by decide +kernel
theorem dX5_see_34 : decode cX5_see 34 = .ok (.getfield 22, 3) := by decide +kernel
theorem dX5_see_37 : decode cX5_see 37 = .ok (.getfield 78, 3) := by decide +kernel
theorem dX5_see_40 : decode cX5_see 40 = .ok (.bipush 6, 2) := by decide +kernel
theorem dX5_see_42 : decode cX5_see 42 = .ok (.if_icmp .lt 6, 3) := by decide +kernel
theorem dX5_see_45 : decode cX5_see 45 = .ok (.bipush (-3), 2) := by decide +kernel
theorem dX5_see_47 : decode cX5_see 47 = .ok (.ireturn, 1) := by decide +kernel
theorem dX5_see_48 : decode cX5_see 48 = .ok (.aload_n 0, 1) := by decide +kernel
theorem dX5_see_49 : decode cX5_see 49 = .ok (.getfield 22, 3) := by decide +kernel
theorem dX5_see_52 : decode cX5_see 52 = .ok (.iload_n 1, 1) := by decide +kernel
theorem dX5_see_53 : decode cX5_see 53 = .ok (.iload_n 2, 1) := by decide +kernel
theorem dX5_see_54 : decode cX5_see 54 = .ok (.iload_n 3, 1) := by decide +kernel
theorem dX5_see_55 : decode cX5_see 55 = .ok (.invokevirtual 173, 3) := by decide +kernel
theorem dX5_see_58 : decode cX5_see 58 = .ok (.aload_n 0, 1) := by decide +kernel
theorem dX5_see_59 : decode cX5_see 59 = .ok (.getfield 22, 3) := by decide +kernel
theorem dX5_see_62 : decode cX5_see 62 = .ok (.getfield 78, 3) := by decide +kernel
theorem dX5_see_65 : decode cX5_see 65 = .ok (.ireturn, 1) := by decide +kernel
theorem dX5_forget_0 : decode cX5_forget 0 = .ok (.iload_n 1, 1) := by decide +kernel
theorem dX5_forget_1 : decode cX5_forget 1 = .ok (.iconst 0, 1) := by decide +kernel
theorem dX5_forget_2 : decode cX5_forget 2 = .ok (.aload_n 0, 1) := by decide +kernel
theorem dX5_forget_3 : decode cX5_forget 3 = .ok (.getfield 22, 3) := by decide +kernel
theorem dX5_forget_6 : decode cX5_forget 6 = .ok (.getfield 78, 3) := by decide +kernel
theorem dX5_forget_9 : decode cX5_forget 9 = .ok (.invokestatic 52, 3) := by decide +kernel
theorem dX5_forget_12 : decode cX5_forget 12 = .ok (.ifCond .eq 5, 3) := by decide +kernel
theorem dX5_forget_15 : decode cX5_forget 15 = .ok (.iconst (-1), 1) := by decide +kernel
theorem dX5_forget_16 : decode cX5_forget 16 = .ok (.ireturn, 1) := by decide +kernel
theorem dX5_forget_17 : decode cX5_forget 17 = .ok (.aload_n 0, 1) := by decide +kernel
theorem dX5_forget_18 : decode cX5_forget 18 = .ok (.getfield 22, 3) := by decide +kernel
theorem dX5_forget_21 : decode cX5_forget 21 = .ok (.getfield 78, 3) := by decide +kernel
theorem dX5_forget_24 : decode cX5_forget 24 = .ok (.istore_n 2, 1) := by decide +kernel
theorem dX5_forget_25 : decode cX5_forget 25 = .ok (.aload_n 0, 1) := by decide +kernel
theorem dX5_forget_26 : decode cX5_forget 26 = .ok (.getfield 22, 3) := by decide +kernel
theorem dX5_forget_29 : decode cX5_forget 29 = .ok (.iload_n 1, 1) := by decide +kernel
theorem dX5_forget_30 : decode cX5_forget 30 = .ok (.putfield 78, 3) := by decide +kernel
theorem dX5_forget_33 : decode cX5_forget 33 = .ok (.iload_n 2, 1) := by decide +kernel
theorem dX5_forget_34 : decode cX5_forget 34 = .ok (.ireturn, 1) := by decide +kernel
theorem dX5_kinds_0 : decode cX5_kinds 0 = .ok (.aload_n 0, 1) := by decide +kernel
theorem dX5_kinds_1 : decode cX5_kinds 1 = .ok (.getfield 10, 3) := by decide +kernel
theorem dX5_kinds_4 : decode cX5_kinds 4 = .ok (.iload_n 1, 1) := by decide +kernel
theorem dX5_kinds_5 : decode cX5_kinds 5 = .ok (.invokevirtual 111, 3) := by decide +kernel
theorem dX5_kinds_8 : decode cX5_kinds 8 = .ok (.ifCond .eq 12, 3) := by decide +kernel
theorem dX5_kinds_11 : decode cX5_kinds 11 = .ok (.aload_n 0, 1) := by decide +kernel
theorem dX5_kinds_12 : decode cX5_kinds 12 = .ok (.iload_n 1, 1) := by decide +kernel
theorem dX5_kinds_13 : decode cX5_kinds 13 = .ok (.iconst 0, 1) := by decide +kernel
theorem dX5_kinds_14 : decode cX5_kinds 14 = .ok (.invokevirtual 175, 3) := by decide +kernel
theorem dX5_kinds_17 : decode cX5_kinds 17 = .ok (.goto 4, 3) := by decide +kernel
theorem dX5_kinds_20 : decode cX5_kinds 20 = .ok (.iconst (-1), 1) := by decide +kernel
theorem dX5_kinds_21 : decode cX5_kinds 21 = .ok (.ireturn, 1) := by decide +kernel
theorem dX5_gains_0 : decode cX5_gains 0 = .ok (.aload_n 0, 1) := by decide +kernel
theorem dX5_gains_1 : decode cX5_gains 1 = .ok (.getfield 10, 3) := by decide +kernel
theorem dX5_gains_4 : decode cX5_gains 4 = .ok (.iload_n 1, 1) := by decide +kernel
theorem dX5_gains_5 : decode cX5_gains 5 = .ok (.invokevirtual 111, 3) := by decide +kernel
theorem dX5_gains_8 : decode cX5_gains 8 = .ok (.ifCond .eq 12, 3) := by decide +kernel
theorem dX5_gains_11 : decode cX5_gains 11 = .ok (.aload_n 0, 1) := by decide +kernel
theorem dX5_gains_12 : decode cX5_gains 12 = .ok (.iload_n 1, 1) := by decide +kernel
theorem dX5_gains_13 : decode cX5_gains 13 = .ok (.iconst 3, 1) := by decide +kernel
theorem dX5_gains_14 : decode cX5_gains 14 = .ok (.invokevirtual 175, 3) := by decide +kernel
theorem dX5_gains_17 : decode cX5_gains 17 = .ok (.goto 4, 3) := by decide +kernel
theorem dX5_gains_20 : decode cX5_gains 20 = .ok (.iconst (-1), 1) := by decide +kernel
theorem dX5_gains_21 : decode cX5_gains 21 = .ok (.ireturn, 1) := by decide +kernel
theorem dX5_ask_0 : decode cX5_ask 0 = .ok (.aload_n 0, 1) := by decide +kernel
theorem dX5_ask_1 : decode cX5_ask 1 = .ok (.getfield 10, 3) := by decide +kernel
theorem dX5_ask_4 : decode cX5_ask 4 = .ok (.iload_n 1, 1) := by decide +kernel
theorem dX5_ask_5 : decode cX5_ask 5 = .ok (.invokevirtual 111, 3) := by decide +kernel
theorem dX5_ask_8 : decode cX5_ask 8 = .ok (.ifCond .eq 12, 3) := by decide +kernel
theorem dX5_ask_11 : decode cX5_ask 11 = .ok (.iload_n 2, 1) := by decide +kernel
theorem dX5_ask_12 : decode cX5_ask 12 = .ok (.iconst 0, 1) := by decide +kernel
theorem dX5_ask_13 : decode cX5_ask 13 = .ok (.iconst 1, 1) := by decide +kernel
theorem dX5_ask_14 : decode cX5_ask 14 = .ok (.invokestatic 52, 3) := by decide +kernel
theorem dX5_ask_17 : decode cX5_ask 17 = .ok (.ifCond .eq 5, 3) := by decide +kernel
theorem dX5_ask_20 : decode cX5_ask 20 = .ok (.iconst (-1), 1) := by decide +kernel
theorem dX5_ask_21 : decode cX5_ask 21 = .ok (.ireturn, 1) := by decide +kernel
theorem dX5_ask_22 : decode cX5_ask 22 = .ok (.aload_n 0, 1) := by decide +kernel
theorem dX5_ask_23 : decode cX5_ask 23 = .ok (.iload_n 1, 1) := by decide +kernel
theorem dX5_ask_24 : decode cX5_ask 24 = .ok (.iconst 3, 1) := by decide +kernel
theorem dX5_ask_25 : decode cX5_ask 25 = .ok (.invokevirtual 175, 3) := by decide +kernel
theorem dX5_ask_28 : decode cX5_ask 28 = .ok (.istore_n 3, 1) := by decide +kernel
theorem dX5_ask_29 : decode cX5_ask 29 = .ok (.aload_n 0, 1) := by decide +kernel
theorem dX5_ask_30 : decode cX5_ask 30 = .ok (.iload_n 1, 1) := by decide +kernel
theorem dX5_ask_31 : decode cX5_ask 31 = .ok (.iload_n 3, 1) := by decide +kernel
theorem dX5_ask_32 : decode cX5_ask 32 = .ok (.invokevirtual 178, 3) := by decide +kernel
theorem dX5_ask_35 : decode cX5_ask 35 = .ok (.iload_n 3, 1) := by decide +kernel
theorem dX5_ask_36 : decode cX5_ask 36 = .ok (.invokestatic 181, 3) := by decide +kernel
theorem dX5_ask_39 : decode cX5_ask 39 = .ok (.istore 4, 2) := by decide +kernel
theorem dX5_ask_41 : decode cX5_ask 41 = .ok (.bipush (-4), 2) := by decide +kernel
theorem dX5_ask_43 : decode cX5_ask 43 = .ok (.istore 5, 2) := by decide +kernel
theorem dX5_ask_45 : decode cX5_ask 45 = .ok (.iconst 0, 1) := by decide +kernel
theorem dX5_ask_46 : decode cX5_ask 46 = .ok (.istore 6, 2) := by decide +kernel
theorem dX5_ask_48 : decode cX5_ask 48 = .ok (.iload 6, 2) := by decide +kernel
theorem dX5_ask_50 : decode cX5_ask 50 = .ok (.bipush 40, 2) := by decide +kernel
theorem dX5_ask_52 : decode cX5_ask 52 = .ok (.if_icmp .gt 33, 3) := by decide +kernel
theorem dX5_ask_55 : decode cX5_ask 55 = .ok (.aload_n 0, 1) := by decide +kernel
theorem dX5_ask_56 : decode cX5_ask 56 = .ok (.iload_n 3, 1) := by decide +kernel
theorem dX5_ask_57 : decode cX5_ask 57 = .ok (.iload 6, 2) := by decide +kernel
theorem dX5_ask_59 : decode cX5_ask 59 = .ok (.invokevirtual 186, 3) := by decide +kernel
theorem dX5_ask_62 : decode cX5_ask 62 = .ok (.istore 7, 2) := by decide +kernel
theorem dX5_ask_64 : decode cX5_ask 64 = .ok (.iload 7, 2) := by decide +kernel
theorem dX5_ask_66 : decode cX5_ask 66 = .ok (.iload 4, 2) := by decide +kernel
theorem dX5_ask_68 : decode cX5_ask 68 = .ok (.if_icmp .ge 11, 3) := by decide +kernel
theorem dX5_ask_71 : decode cX5_ask 71 = .ok (.iload 7, 2) := by decide +kernel
theorem dX5_ask_73 : decode cX5_ask 73 = .ok (.istore 4, 2) := by decide +kernel
theorem dX5_ask_75 : decode cX5_ask 75 = .ok (.iload 6, 2) := by decide +kernel
theorem dX5_ask_77 : decode cX5_ask 77 = .ok (.istore 5, 2) := by decide +kernel
theorem dX5_ask_79 : decode cX5_ask 79 = .ok (.iinc 6 1, 3) := by decide +kernel
theorem dX5_ask_82 : decode cX5_ask 82 = .ok (.goto (-34), 3) := by decide +kernel
theorem dX5_ask_85 : decode cX5_ask 85 = .ok (.iload 5, 2) := by decide +kernel
theorem dX5_ask_87 : decode cX5_ask 87 = .ok (.bipush (-4), 2) := by decide +kernel
theorem dX5_ask_89 : decode cX5_ask 89 = .ok (.if_icmp .eq 7, 3) := by decide +kernel
theorem dX5_ask_92 : decode cX5_ask 92 = .ok (.iload_n 2, 1) := by decide +kernel
theorem dX5_ask_93 : decode cX5_ask 93 = .ok (.ifCond .ne 8, 3) := by decide +kernel
theorem dX5_ask_96 : decode cX5_ask 96 = .ok (.iload 5, 2) := by decide +kernel
theorem dX5_ask_98 : decode cX5_ask 98 = .ok (.goto 5, 3) := by decide +kernel
theorem dX5_ask_101 : decode cX5_ask 101 = .ok (.iload 4, 2) := by decide +kernel
theorem dX5_ask_103 : decode cX5_ask 103 = .ok (.ireturn, 1) := by decide +kernel
theorem dX5_drift_0 : decode cX5_drift 0 = .ok (.iload_n 2, 1) := by decide +kernel
theorem dX5_drift_1 : decode cX5_drift 1 = .ok (.iconst 1, 1) := by decide +kernel
theorem dX5_drift_2 : decode cX5_drift 2 = .ok (.sipush 200, 3) := by decide +kernel
theorem dX5_drift_5 : decode cX5_drift 5 = .ok (.invokestatic 52, 3) := by decide +kernel
theorem dX5_drift_8 : decode cX5_drift 8 = .ok (.ifCond .ne 12, 3) := by decide +kernel
theorem dX5_drift_11 : decode cX5_drift 11 = .ok (.iload_n 3, 1) := by decide +kernel
theorem dX5_drift_12 : decode cX5_drift 12 = .ok (.iconst 0, 1) := by decide +kernel
theorem dX5_drift_13 : decode cX5_drift 13 = .ok (.iconst 1, 1) := by decide +kernel
theorem dX5_drift_14 : decode cX5_drift 14 = .ok (.invokestatic 52, 3) := by decide +kernel
theorem dX5_drift_17 : decode cX5_drift 17 = .ok (.ifCond .eq 5, 3) := by decide +kernel
theorem dX5_drift_20 : decode cX5_drift 20 = .ok (.iconst (-1), 1) := by decide +kernel
theorem dX5_drift_21 : decode cX5_drift 21 = .ok (.ireturn, 1) := by decide +kernel
theorem dX5_drift_22 : decode cX5_drift 22 = .ok (.aload_n 0, 1) := by decide +kernel
theorem dX5_drift_23 : decode cX5_drift 23 = .ok (.getfield 10, 3) := by decide +kernel
theorem dX5_drift_26 : decode cX5_drift 26 = .ok (.getfield 85, 3) := by decide +kernel
theorem dX5_drift_29 : decode cX5_drift 29 = .ok (.ifCond .ne 6, 3) := by decide +kernel
theorem dX5_drift_32 : decode cX5_drift 32 = .ok (.bipush (-2), 2) := by decide +kernel
theorem dX5_drift_34 : decode cX5_drift 34 = .ok (.ireturn, 1) := by decide +kernel
theorem dX5_drift_35 : decode cX5_drift 35 = .ok (.aload_n 0, 1) := by decide +kernel
theorem dX5_drift_36 : decode cX5_drift 36 = .ok (.invokevirtual 144, 3) := by decide +kernel
theorem dX5_drift_39 : decode cX5_drift 39 = .ok (.iload_n 1, 1) := by decide +kernel
theorem dX5_drift_40 : decode cX5_drift 40 = .ok (.istore 4, 2) := by decide +kernel
theorem dX5_drift_42 : decode cX5_drift 42 = .ok (.iconst 0, 1) := by decide +kernel
theorem dX5_drift_43 : decode cX5_drift 43 = .ok (.istore 5, 2) := by decide +kernel
theorem dX5_drift_45 : decode cX5_drift 45 = .ok (.iload 5, 2) := by decide +kernel
theorem dX5_drift_47 : decode cX5_drift 47 = .ok (.iload_n 2, 1) := by decide +kernel
theorem dX5_drift_48 : decode cX5_drift 48 = .ok (.if_icmp .ge 66, 3) := by decide +kernel
theorem dX5_drift_51 : decode cX5_drift 51 = .ok (.iload 4, 2) := by decide +kernel
theorem dX5_drift_53 : decode cX5_drift 53 = .ok (.ldc 189, 2) := by decide +kernel
theorem dX5_drift_55 : decode cX5_drift 55 = .ok (.imul, 1) := by decide +kernel
theorem dX5_drift_56 : decode cX5_drift 56 = .ok (.sipush 12345, 3) := by decide +kernel
theorem dX5_drift_59 : decode cX5_drift 59 = .ok (.iadd, 1) := by decide +kernel
theorem dX5_drift_60 : decode cX5_drift 60 = .ok (.istore 4, 2) := by decide +kernel
theorem dX5_drift_62 : decode cX5_drift 62 = .ok (.iload 4, 2) := by decide +kernel
theorem dX5_drift_64 : decode cX5_drift 64 = .ok (.bipush 16, 2) := by decide +kernel
theorem dX5_drift_66 : decode cX5_drift 66 = .ok (.iushr, 1) := by decide +kernel
theorem dX5_drift_67 : decode cX5_drift 67 = .ok (.sipush 32767, 3) := by decide +kernel
theorem dX5_drift_70 : decode cX5_drift 70 = .ok (.iand, 1) := by decide +kernel
theorem dX5_drift_71 : decode cX5_drift 71 = .ok (.istore 6, 2) := by decide +kernel
theorem dX5_drift_73 : decode cX5_drift 73 = .ok (.aload_n 0, 1) := by decide +kernel
theorem dX5_drift_74 : decode cX5_drift 74 = .ok (.getfield 16, 3) := by decide +kernel
theorem dX5_drift_77 : decode cX5_drift 77 = .ok (.iload 6, 2) := by decide +kernel
theorem dX5_drift_79 : decode cX5_drift 79 = .ok (.aload_n 0, 1) := by decide +kernel
theorem dX5_drift_80 : decode cX5_drift 80 = .ok (.getfield 10, 3) := by decide +kernel
theorem dX5_drift_83 : decode cX5_drift 83 = .ok (.getfield 85, 3) := by decide +kernel
theorem dX5_drift_86 : decode cX5_drift 86 = .ok (.irem, 1) := by decide +kernel
theorem dX5_drift_87 : decode cX5_drift 87 = .ok (.iload 6, 2) := by decide +kernel
theorem dX5_drift_89 : decode cX5_drift 89 = .ok (.bipush 8, 2) := by decide +kernel
theorem dX5_drift_91 : decode cX5_drift 91 = .ok (.idiv, 1) := by decide +kernel
theorem dX5_drift_92 : decode cX5_drift 92 = .ok (.bipush 10, 2) := by decide +kernel
theorem dX5_drift_94 : decode cX5_drift 94 = .ok (.irem, 1) := by decide +kernel
theorem dX5_drift_95 : decode cX5_drift 95 = .ok (.invokevirtual 129, 3) := by decide +kernel
theorem dX5_drift_98 : decode cX5_drift 98 = .ok (.pop, 1) := by decide +kernel
theorem dX5_drift_99 : decode cX5_drift 99 = .ok (.aload_n 0, 1) := by decide +kernel
theorem dX5_drift_100 : decode cX5_drift 100 = .ok (.getfield 16, 3) := by decide +kernel
theorem dX5_drift_103 : decode cX5_drift 103 = .ok (.iconst 1, 1) := by decide +kernel
theorem dX5_drift_104 : decode cX5_drift 104 = .ok (.invokevirtual 140, 3) := by decide +kernel
theorem dX5_drift_107 : decode cX5_drift 107 = .ok (.pop, 1) := by decide +kernel
theorem dX5_drift_108 : decode cX5_drift 108 = .ok (.iinc 5 1, 3) := by decide +kernel
theorem dX5_drift_111 : decode cX5_drift 111 = .ok (.goto (-66), 3) := by decide +kernel
theorem dX5_drift_114 : decode cX5_drift 114 = .ok (.iload_n 3, 1) := by decide +kernel
theorem dX5_drift_115 : decode cX5_drift 115 = .ok (.ifCond .ne 13, 3) := by decide +kernel
theorem dX5_drift_118 : decode cX5_drift 118 = .ok (.aload_n 0, 1) := by decide +kernel
theorem dX5_drift_119 : decode cX5_drift 119 = .ok (.getfield 16, 3) := by decide +kernel
theorem dX5_drift_122 : decode cX5_drift 122 = .ok (.getfield 97, 3) := by decide +kernel
theorem dX5_drift_125 : decode cX5_drift 125 = .ok (.goto 11, 3) := by decide +kernel
theorem dX5_drift_128 : decode cX5_drift 128 = .ok (.aload_n 0, 1) := by decide +kernel
theorem dX5_drift_129 : decode cX5_drift 129 = .ok (.getfield 16, 3) := by decide +kernel
theorem dX5_drift_132 : decode cX5_drift 132 = .ok (.iconst 1, 1) := by decide +kernel
theorem dX5_drift_133 : decode cX5_drift 133 = .ok (.invokevirtual 103, 3) := by decide +kernel
theorem dX5_drift_136 : decode cX5_drift 136 = .ok (.ireturn, 1) := by decide +kernel
theorem dX5_keep_0 : decode cX5_keep 0 = .ok (.iload_n 1, 1) := by decide +kernel
theorem dX5_keep_1 : decode cX5_keep 1 = .ok (.iconst 0, 1) := by decide +kernel
theorem dX5_keep_2 : decode cX5_keep 2 = .ok (.iconst 1, 1) := by decide +kernel
theorem dX5_keep_3 : decode cX5_keep 3 = .ok (.invokestatic 52, 3) := by decide +kernel
theorem dX5_keep_6 : decode cX5_keep 6 = .ok (.ifCond .eq 5, 3) := by decide +kernel
theorem dX5_keep_9 : decode cX5_keep 9 = .ok (.iconst (-1), 1) := by decide +kernel
theorem dX5_keep_10 : decode cX5_keep 10 = .ok (.ireturn, 1) := by decide +kernel
theorem dX5_keep_11 : decode cX5_keep 11 = .ok (.aload_n 0, 1) := by decide +kernel
theorem dX5_keep_12 : decode cX5_keep 12 = .ok (.getfield 35, 3) := by decide +kernel
theorem dX5_keep_15 : decode cX5_keep 15 = .ok (.iload_n 1, 1) := by decide +kernel
theorem dX5_keep_16 : decode cX5_keep 16 = .ok (.aaload, 1) := by decide +kernel
theorem dX5_keep_17 : decode cX5_keep 17 = .ok (.astore_n 2, 1) := by decide +kernel
theorem dX5_keep_18 : decode cX5_keep 18 = .ok (.aload_n 2, 1) := by decide +kernel
theorem dX5_keep_19 : decode cX5_keep 19 = .ok (.getfield 81, 3) := by decide +kernel
theorem dX5_keep_22 : decode cX5_keep 22 = .ok (.istore_n 3, 1) := by decide +kernel
theorem dX5_keep_23 : decode cX5_keep 23 = .ok (.aload_n 2, 1) := by decide +kernel
theorem dX5_keep_24 : decode cX5_keep 24 = .ok (.getfield 190, 3) := by decide +kernel
theorem dX5_keep_27 : decode cX5_keep 27 = .ok (.aload_n 0, 1) := by decide +kernel
theorem dX5_keep_28 : decode cX5_keep 28 = .ok (.getfield 10, 3) := by decide +kernel
theorem dX5_keep_31 : decode cX5_keep 31 = .ok (.invokevirtual 74, 3) := by decide +kernel
theorem dX5_keep_34 : decode cX5_keep 34 = .ok (.aload_n 2, 1) := by decide +kernel
theorem dX5_keep_35 : decode cX5_keep 35 = .ok (.getfield 191, 3) := by decide +kernel
theorem dX5_keep_38 : decode cX5_keep 38 = .ok (.aload_n 0, 1) := by decide +kernel
theorem dX5_keep_39 : decode cX5_keep 39 = .ok (.getfield 22, 3) := by decide +kernel
theorem dX5_keep_42 : decode cX5_keep 42 = .ok (.invokevirtual 192, 3) := by decide +kernel
theorem dX5_keep_45 : decode cX5_keep 45 = .ok (.aload_n 2, 1) := by decide +kernel
theorem dX5_keep_46 : decode cX5_keep 46 = .ok (.iconst 1, 1) := by decide +kernel
theorem dX5_keep_47 : decode cX5_keep 47 = .ok (.putfield 81, 3) := by decide +kernel
theorem dX5_keep_50 : decode cX5_keep 50 = .ok (.iload_n 3, 1) := by decide +kernel
theorem dX5_keep_51 : decode cX5_keep 51 = .ok (.ifCond .eq 7, 3) := by decide +kernel
theorem dX5_keep_54 : decode cX5_keep 54 = .ok (.iconst 1, 1) := by decide +kernel
theorem dX5_keep_55 : decode cX5_keep 55 = .ok (.goto 4, 3) := by decide +kernel
theorem dX5_keep_58 : decode cX5_keep 58 = .ok (.iconst 0, 1) := by decide +kernel
theorem dX5_keep_59 : decode cX5_keep 59 = .ok (.ireturn, 1) := by decide +kernel
theorem dX5_back_0 : decode cX5_back 0 = .ok (.iload_n 1, 1) := by decide +kernel
theorem dX5_back_1 : decode cX5_back 1 = .ok (.iconst 0, 1) := by decide +kernel
theorem dX5_back_2 : decode cX5_back 2 = .ok (.iconst 1, 1) := by decide +kernel
theorem dX5_back_3 : decode cX5_back 3 = .ok (.invokestatic 52, 3) := by decide +kernel
theorem dX5_back_6 : decode cX5_back 6 = .ok (.ifCond .eq 5, 3) := by decide +kernel
theorem dX5_back_9 : decode cX5_back 9 = .ok (.iconst (-1), 1) := by decide +kernel
theorem dX5_back_10 : decode cX5_back 10 = .ok (.ireturn, 1) := by decide +kernel
theorem dX5_back_11 : decode cX5_back 11 = .ok (.aload_n 0, 1) := by decide +kernel
theorem dX5_back_12 : decode cX5_back 12 = .ok (.getfield 35, 3) := by decide +kernel
theorem dX5_back_15 : decode cX5_back 15 = .ok (.iload_n 1, 1) := by decide +kernel
theorem dX5_back_16 : decode cX5_back 16 = .ok (.aaload, 1) := by decide +kernel
theorem dX5_back_17 : decode cX5_back 17 = .ok (.astore_n 2, 1) := by decide +kernel
theorem dX5_back_18 : decode cX5_back 18 = .ok (.aload_n 2, 1) := by decide +kernel
theorem dX5_back_19 : decode cX5_back 19 = .ok (.getfield 81, 3) := by decide +kernel
theorem dX5_back_22 : decode cX5_back 22 = .ok (.ifCond .ne 6, 3) := by decide +kernel
theorem dX5_back_25 : decode cX5_back 25 = .ok (.bipush (-2), 2) := by decide +kernel
theorem dX5_back_27 : decode cX5_back 27 = .ok (.ireturn, 1) := by decide +kernel
theorem dX5_back_28 : decode cX5_back 28 = .ok (.aload_n 0, 1) := by decide +kernel
theorem dX5_back_29 : decode cX5_back 29 = .ok (.getfield 10, 3) := by decide +kernel
theorem dX5_back_32 : decode cX5_back 32 = .ok (.aload_n 2, 1) := by decide +kernel
theorem dX5_back_33 : decode cX5_back 33 = .ok (.getfield 190, 3) := by decide +kernel
theorem dX5_back_36 : decode cX5_back 36 = .ok (.invokevirtual 74, 3) := by decide +kernel
theorem dX5_back_39 : decode cX5_back 39 = .ok (.aload_n 0, 1) := by decide +kernel
theorem dX5_back_40 : decode cX5_back 40 = .ok (.getfield 22, 3) := by decide +kernel
theorem dX5_back_43 : decode cX5_back 43 = .ok (.aload_n 2, 1) := by decide +kernel
theorem dX5_back_44 : decode cX5_back 44 = .ok (.getfield 191, 3) := by decide +kernel
theorem dX5_back_47 : decode cX5_back 47 = .ok (.invokevirtual 192, 3) := by decide +kernel
theorem dX5_back_50 : decode cX5_back 50 = .ok (.aload_n 0, 1) := by decide +kernel
theorem dX5_back_51 : decode cX5_back 51 = .ok (.getfield 10, 3) := by decide +kernel
theorem dX5_back_54 : decode cX5_back 54 = .ok (.getfield 94, 3) := by decide +kernel
theorem dX5_back_57 : decode cX5_back 57 = .ok (.ireturn, 1) := by decide +kernel
theorem dX5_sheet_0 : decode cX5_sheet 0 = .ok (.iload_n 1, 1) := by decide +kernel
theorem dX5_sheet_1 : decode cX5_sheet 1 = .ok (.iconst 0, 1) := by decide +kernel
theorem dX5_sheet_2 : decode cX5_sheet 2 = .ok (.iconst 3, 1) := by decide +kernel
theorem dX5_sheet_3 : decode cX5_sheet 3 = .ok (.invokestatic 52, 3) := by decide +kernel
theorem dX5_sheet_6 : decode cX5_sheet 6 = .ok (.ifCond .ne 18, 3) := by decide +kernel
theorem dX5_sheet_9 : decode cX5_sheet 9 = .ok (.iload_n 2, 1) := by decide +kernel
theorem dX5_sheet_10 : decode cX5_sheet 10 = .ok (.iconst 0, 1) := by decide +kernel
theorem dX5_sheet_11 : decode cX5_sheet 11 = .ok (.iconst 2, 1) := by decide +kernel
theorem dX5_sheet_12 : decode cX5_sheet 12 = .ok (.invokestatic 52, 3) := by decide +kernel
theorem dX5_sheet_15 : decode cX5_sheet 15 = .ok (.ifCond .ne 9, 3) := by decide +kernel
theorem dX5_sheet_18 : decode cX5_sheet 18 = .ok (.iload_n 3, 1) := by decide +kernel
theorem dX5_sheet_19 : decode cX5_sheet 19 = .ok (.bipush 40, 2) := by decide +kernel
theorem dX5_sheet_21 : decode cX5_sheet 21 = .ok (.if_icmp .le 5, 3) := by decide +kernel
theorem dX5_sheet_24 : decode cX5_sheet 24 = .ok (.iconst (-1), 1) := by decide +kernel
theorem dX5_sheet_25 : decode cX5_sheet 25 = .ok (.ireturn, 1) := by decide +kernel
theorem dX5_sheet_26 : decode cX5_sheet 26 = .ok (.iload_n 3, 1) := by decide +kernel
theorem dX5_sheet_27 : decode cX5_sheet 27 = .ok (.ifCond .ge 6, 3) := by decide +kernel
theorem dX5_sheet_30 : decode cX5_sheet 30 = .ok (.bipush (-14), 2) := by decide +kernel
theorem dX5_sheet_32 : decode cX5_sheet 32 = .ok (.ireturn, 1) := by decide +kernel
theorem dX5_sheet_33 : decode cX5_sheet 33 = .ok (.aload_n 0, 1) := by decide +kernel
theorem dX5_sheet_34 : decode cX5_sheet 34 = .ok (.getfield 41, 3) := by decide +kernel
theorem dX5_sheet_37 : decode cX5_sheet 37 = .ok (.iload_n 1, 1) := by decide +kernel
theorem dX5_sheet_38 : decode cX5_sheet 38 = .ok (.aaload, 1) := by decide +kernel
theorem dX5_sheet_39 : decode cX5_sheet 39 = .ok (.iload_n 2, 1) := by decide +kernel
theorem dX5_sheet_40 : decode cX5_sheet 40 = .ok (.iload_n 3, 1) := by decide +kernel
theorem dX5_sheet_41 : decode cX5_sheet 41 = .ok (.invokevirtual 195, 3) := by decide +kernel
theorem dX5_sheet_44 : decode cX5_sheet 44 = .ok (.iconst 1, 1) := by decide +kernel
theorem dX5_sheet_45 : decode cX5_sheet 45 = .ok (.ireturn, 1) := by decide +kernel
theorem dX5_lay_0 : decode cX5_lay 0 = .ok (.iload_n 1, 1) := by decide +kernel
theorem dX5_lay_1 : decode cX5_lay 1 = .ok (.iconst 0, 1) := by decide +kernel
theorem dX5_lay_2 : decode cX5_lay 2 = .ok (.iconst 3, 1) := by decide +kernel
theorem dX5_lay_3 : decode cX5_lay 3 = .ok (.invokestatic 52, 3) := by decide +kernel
theorem dX5_lay_6 : decode cX5_lay 6 = .ok (.ifCond .eq 5, 3) := by decide +kernel
theorem dX5_lay_9 : decode cX5_lay 9 = .ok (.iconst (-1), 1) := by decide +kernel
theorem dX5_lay_10 : decode cX5_lay 10 = .ok (.ireturn, 1) := by decide +kernel
theorem dX5_lay_11 : decode cX5_lay 11 = .ok (.aload_n 0, 1) := by decide +kernel
theorem dX5_lay_12 : decode cX5_lay 12 = .ok (.getfield 41, 3) := by decide +kernel
theorem dX5_lay_15 : decode cX5_lay 15 = .ok (.iload_n 1, 1) := by decide +kernel
theorem dX5_lay_16 : decode cX5_lay 16 = .ok (.aaload, 1) := by decide +kernel
theorem dX5_lay_17 : decode cX5_lay 17 = .ok (.astore 4, 2) := by decide +kernel
theorem dX5_lay_19 : decode cX5_lay 19 = .ok (.aload 4, 2) := by decide +kernel
theorem dX5_lay_21 : decode cX5_lay 21 = .ok (.aload 4, 2) := by decide +kernel
theorem dX5_lay_23 : decode cX5_lay 23 = .ok (.getfield 198, 3) := by decide +kernel
theorem dX5_lay_26 : decode cX5_lay 26 = .ok (.iload_n 2, 1) := by decide +kernel
theorem dX5_lay_27 : decode cX5_lay 27 = .ok (.invokevirtual 201, 3) := by decide +kernel
theorem dX5_lay_30 : decode cX5_lay 30 = .ok (.istore 5, 2) := by decide +kernel
theorem dX5_lay_32 : decode cX5_lay 32 = .ok (.iload 5, 2) := by decide +kernel
theorem dX5_lay_34 : decode cX5_lay 34 = .ok (.ifCond .eq 9, 3) := by decide +kernel
theorem dX5_lay_37 : decode cX5_lay 37 = .ok (.bipush (-10), 2) := by decide +kernel
theorem dX5_lay_39 : decode cX5_lay 39 = .ok (.iload 5, 2) := by decide +kernel
theorem dX5_lay_41 : decode cX5_lay 41 = .ok (.isub, 1) := by decide +kernel
theorem dX5_lay_42 : decode cX5_lay 42 = .ok (.ireturn, 1) := by decide +kernel
theorem dX5_lay_43 : decode cX5_lay 43 = .ok (.aload 4, 2) := by decide +kernel
theorem dX5_lay_45 : decode cX5_lay 45 = .ok (.iload_n 2, 1) := by decide +kernel
theorem dX5_lay_46 : decode cX5_lay 46 = .ok (.iload_n 3, 1) := by decide +kernel
theorem dX5_lay_47 : decode cX5_lay 47 = .ok (.invokevirtual 204, 3) := by decide +kernel
theorem dX5_lay_50 : decode cX5_lay 50 = .ok (.iconst 1, 1) := by decide +kernel
theorem dX5_lay_51 : decode cX5_lay 51 = .ok (.ireturn, 1) := by decide +kernel
theorem dX5_read_0 : decode cX5_read 0 = .ok (.iload_n 1, 1) := by decide +kernel
theorem dX5_read_1 : decode cX5_read 1 = .ok (.iconst 0, 1) := by decide +kernel
theorem dX5_read_2 : decode cX5_read 2 = .ok (.iconst 3, 1) := by decide +kernel
theorem dX5_read_3 : decode cX5_read 3 = .ok (.invokestatic 52, 3) := by decide +kernel
theorem dX5_read_6 : decode cX5_read 6 = .ok (.ifCond .ne 23, 3) := by decide +kernel
theorem dX5_read_9 : decode cX5_read 9 = .ok (.iload_n 2, 1) := by decide +kernel
theorem dX5_read_10 : decode cX5_read 10 = .ok (.iconst 0, 1) := by decide +kernel
theorem dX5_read_11 : decode cX5_read 11 = .ok (.iconst 2, 1) := by decide +kernel
theorem dX5_read_12 : decode cX5_read 12 = .ok (.invokestatic 52, 3) := by decide +kernel
theorem dX5_read_15 : decode cX5_read 15 = .ok (.ifCond .ne 14, 3) := by decide +kernel
theorem dX5_read_18 : decode cX5_read 18 = .ok (.iload 4, 2) := by decide +kernel
theorem dX5_read_20 : decode cX5_read 20 = .ok (.iconst 0, 1) := by decide +kernel
theorem dX5_read_21 : decode cX5_read 21 = .ok (.bipush 20, 2) := by decide +kernel
theorem dX5_read_23 : decode cX5_read 23 = .ok (.invokestatic 52, 3) := by decide +kernel
theorem dX5_read_26 : decode cX5_read 26 = .ok (.ifCond .eq 5, 3) := by decide +kernel
theorem dX5_read_29 : decode cX5_read 29 = .ok (.iconst (-1), 1) := by decide +kernel
theorem dX5_read_30 : decode cX5_read 30 = .ok (.ireturn, 1) := by decide +kernel
theorem dX5_read_31 : decode cX5_read 31 = .ok (.aload_n 0, 1) := by decide +kernel
theorem dX5_read_32 : decode cX5_read 32 = .ok (.getfield 41, 3) := by decide +kernel
theorem dX5_read_35 : decode cX5_read 35 = .ok (.iload_n 1, 1) := by decide +kernel
theorem dX5_read_36 : decode cX5_read 36 = .ok (.aaload, 1) := by decide +kernel
theorem dX5_read_37 : decode cX5_read 37 = .ok (.getfield 207, 3) := by decide +kernel
theorem dX5_read_40 : decode cX5_read 40 = .ok (.astore 5, 2) := by decide +kernel
theorem dX5_read_42 : decode cX5_read 42 = .ok (.iconst 0, 1) := by decide +kernel
theorem dX5_read_43 : decode cX5_read 43 = .ok (.istore 6, 2) := by decide +kernel
theorem dX5_read_45 : decode cX5_read 45 = .ok (.iconst 0, 1) := by decide +kernel
theorem dX5_read_46 : decode cX5_read 46 = .ok (.istore 7, 2) := by decide +kernel
theorem dX5_read_48 : decode cX5_read 48 = .ok (.iconst 0, 1) := by decide +kernel
theorem dX5_read_49 : decode cX5_read 49 = .ok (.istore 8, 2) := by decide +kernel
theorem dX5_read_51 : decode cX5_read 51 = .ok (.iload 8, 2) := by decide +kernel
theorem dX5_read_53 : decode cX5_read 53 = .ok (.iload 4, 2) := by decide +kernel
theorem dX5_read_55 : decode cX5_read 55 = .ok (.if_icmp .ge 72, 3) := by decide +kernel
theorem dX5_read_58 : decode cX5_read 58 = .ok (.iload 6, 2) := by decide +kernel
theorem dX5_read_60 : decode cX5_read 60 = .ok (.ifCond .ne 67, 3) := by decide +kernel
theorem dX5_read_63 : decode cX5_read 63 = .ok (.iload_n 3, 1) := by decide +kernel
theorem dX5_read_64 : decode cX5_read 64 = .ok (.iconst 2, 1) := by decide +kernel
theorem dX5_read_65 : decode cX5_read 65 = .ok (.iload 8, 2) := by decide +kernel
theorem dX5_read_67 : decode cX5_read 67 = .ok (.imul, 1) := by decide +kernel
theorem dX5_read_68 : decode cX5_read 68 = .ok (.iadd, 1) := by decide +kernel
theorem dX5_read_69 : decode cX5_read 69 = .ok (.istore 9, 2) := by decide +kernel
theorem dX5_read_71 : decode cX5_read 71 = .ok (.aload_n 0, 1) := by decide +kernel
theorem dX5_read_72 : decode cX5_read 72 = .ok (.getfield 41, 3) := by decide +kernel
theorem dX5_read_75 : decode cX5_read 75 = .ok (.iload_n 1, 1) := by decide +kernel
theorem dX5_read_76 : decode cX5_read 76 = .ok (.aaload, 1) := by decide +kernel
theorem dX5_read_77 : decode cX5_read 77 = .ok (.iload_n 2, 1) := by decide +kernel
theorem dX5_read_78 : decode cX5_read 78 = .ok (.iload 9, 2) := by decide +kernel
theorem dX5_read_80 : decode cX5_read 80 = .ok (.invokevirtual 210, 3) := by decide +kernel
theorem dX5_read_83 : decode cX5_read 83 = .ok (.istore 6, 2) := by decide +kernel
theorem dX5_read_85 : decode cX5_read 85 = .ok (.iload 6, 2) := by decide +kernel
theorem dX5_read_87 : decode cX5_read 87 = .ok (.ifCond .ne 34, 3) := by decide +kernel
theorem dX5_read_90 : decode cX5_read 90 = .ok (.aload_n 0, 1) := by decide +kernel
theorem dX5_read_91 : decode cX5_read 91 = .ok (.getfield 10, 3) := by decide +kernel
theorem dX5_read_94 : decode cX5_read 94 = .ok (.aload 5, 2) := by decide +kernel
theorem dX5_read_96 : decode cX5_read 96 = .ok (.iload 9, 2) := by decide +kernel
theorem dX5_read_98 : decode cX5_read 98 = .ok (.iaload, 1) := by decide +kernel
theorem dX5_read_99 : decode cX5_read 99 = .ok (.aload 5, 2) := by decide +kernel
theorem dX5_read_101 : decode cX5_read 101 = .ok (.iload 9, 2) := by decide +kernel
theorem dX5_read_103 : decode cX5_read 103 = .ok (.iconst 1, 1) := by decide +kernel
theorem dX5_read_104 : decode cX5_read 104 = .ok (.iadd, 1) := by decide +kernel
theorem dX5_read_105 : decode cX5_read 105 = .ok (.iaload, 1) := by decide +kernel
theorem dX5_read_106 : decode cX5_read 106 = .ok (.invokevirtual 125, 3) := by decide +kernel
theorem dX5_read_109 : decode cX5_read 109 = .ok (.ifCond .ne 9, 3) := by decide +kernel
theorem dX5_read_112 : decode cX5_read 112 = .ok (.bipush (-20), 2) := by decide +kernel
theorem dX5_read_114 : decode cX5_read 114 = .ok (.iload 8, 2) := by decide +kernel
theorem dX5_read_116 : decode cX5_read 116 = .ok (.isub, 1) := by decide +kernel
theorem dX5_read_117 : decode cX5_read 117 = .ok (.ireturn, 1) := by decide +kernel
theorem dX5_read_118 : decode cX5_read 118 = .ok (.iinc 7 1, 3) := by decide +kernel
theorem dX5_read_121 : decode cX5_read 121 = .ok (.iinc 8 1, 3) := by decide +kernel
theorem dX5_read_124 : decode cX5_read 124 = .ok (.goto (-73), 3) := by decide +kernel
theorem dX5_read_127 : decode cX5_read 127 = .ok (.iconst 0, 1) := by decide +kernel
theorem dX5_read_128 : decode cX5_read 128 = .ok (.istore 8, 2) := by decide +kernel
theorem dX5_read_130 : decode cX5_read 130 = .ok (.iload 8, 2) := by decide +kernel
theorem dX5_read_132 : decode cX5_read 132 = .ok (.iload 7, 2) := by decide +kernel
theorem dX5_read_134 : decode cX5_read 134 = .ok (.if_icmp .ge 37, 3) := by decide +kernel
theorem dX5_read_137 : decode cX5_read 137 = .ok (.aload_n 0, 1) := by decide +kernel
theorem dX5_read_138 : decode cX5_read 138 = .ok (.getfield 10, 3) := by decide +kernel
theorem dX5_read_141 : decode cX5_read 141 = .ok (.aload 5, 2) := by decide +kernel
theorem dX5_read_143 : decode cX5_read 143 = .ok (.iload_n 3, 1) := by decide +kernel
theorem dX5_read_144 : decode cX5_read 144 = .ok (.iconst 2, 1) := by decide +kernel
theorem dX5_read_145 : decode cX5_read 145 = .ok (.iload 8, 2) := by decide +kernel
theorem dX5_read_147 : decode cX5_read 147 = .ok (.imul, 1) := by decide +kernel
theorem dX5_read_148 : decode cX5_read 148 = .ok (.iadd, 1) := by decide +kernel
theorem dX5_read_149 : decode cX5_read 149 = .ok (.iaload, 1) := by decide +kernel
theorem dX5_read_150 : decode cX5_read 150 = .ok (.aload 5, 2) := by decide +kernel
theorem dX5_read_152 : decode cX5_read 152 = .ok (.iload_n 3, 1) := by decide +kernel
theorem dX5_read_153 : decode cX5_read 153 = .ok (.iconst 2, 1) := by decide +kernel
theorem dX5_read_154 : decode cX5_read 154 = .ok (.iload 8, 2) := by decide +kernel
theorem dX5_read_156 : decode cX5_read 156 = .ok (.imul, 1) := by decide +kernel
theorem dX5_read_157 : decode cX5_read 157 = .ok (.iadd, 1) := by decide +kernel
theorem dX5_read_158 : decode cX5_read 158 = .ok (.iconst 1, 1) := by decide +kernel
theorem dX5_read_159 : decode cX5_read 159 = .ok (.iadd, 1) := by decide +kernel
theorem dX5_read_160 : decode cX5_read 160 = .ok (.iaload, 1) := by decide +kernel
theorem dX5_read_161 : decode cX5_read 161 = .ok (.invokevirtual 129, 3) := by decide +kernel
theorem dX5_read_164 : decode cX5_read 164 = .ok (.pop, 1) := by decide +kernel
theorem dX5_read_165 : decode cX5_read 165 = .ok (.iinc 8 1, 3) := by decide +kernel
theorem dX5_read_168 : decode cX5_read 168 = .ok (.goto (-38), 3) := by decide +kernel
theorem dX5_read_171 : decode cX5_read 171 = .ok (.aload_n 0, 1) := by decide +kernel
theorem dX5_read_172 : decode cX5_read 172 = .ok (.getfield 10, 3) := by decide +kernel
theorem dX5_read_175 : decode cX5_read 175 = .ok (.invokevirtual 133, 3) := by decide +kernel
theorem dX5_read_178 : decode cX5_read 178 = .ok (.aload_n 0, 1) := by decide +kernel
theorem dX5_read_179 : decode cX5_read 179 = .ok (.iload 6, 2) := by decide +kernel
theorem dX5_read_181 : decode cX5_read 181 = .ok (.putfield 213, 3) := by decide +kernel
theorem dX5_read_184 : decode cX5_read 184 = .ok (.iload 7, 2) := by decide +kernel
theorem dX5_read_186 : decode cX5_read 186 = .ok (.ireturn, 1) := by decide +kernel
theorem dX5_torn_0 : decode cX5_torn 0 = .ok (.aload_n 0, 1) := by decide +kernel
theorem dX5_torn_1 : decode cX5_torn 1 = .ok (.getfield 213, 3) := by decide +kernel
theorem dX5_torn_4 : decode cX5_torn 4 = .ok (.ireturn, 1) := by decide +kernel
theorem dX5_count_0 : decode cX5_count 0 = .ok (.iload_n 1, 1) := by decide +kernel
theorem dX5_count_1 : decode cX5_count 1 = .ok (.tableswitch 88 0 5 #[39, 47, 52, 60, 70, 79], 39) := by decide +kernel
theorem dX5_count_40 : decode cX5_count 40 = .ok (.aload_n 0, 1) := by decide +kernel
theorem dX5_count_41 : decode cX5_count 41 = .ok (.getfield 22, 3) := by decide +kernel
theorem dX5_count_44 : decode cX5_count 44 = .ok (.getfield 78, 3) := by decide +kernel
theorem dX5_count_47 : decode cX5_count 47 = .ok (.ireturn, 1) := by decide +kernel
theorem dX5_count_48 : decode cX5_count 48 = .ok (.aload_n 0, 1) := by decide +kernel
theorem dX5_count_49 : decode cX5_count 49 = .ok (.invokevirtual 216, 3) := by decide +kernel
theorem dX5_count_52 : decode cX5_count 52 = .ok (.ireturn, 1) := by decide +kernel
theorem dX5_count_53 : decode cX5_count 53 = .ok (.aload_n 0, 1) := by decide +kernel
theorem dX5_count_54 : decode cX5_count 54 = .ok (.getfield 29, 3) := by decide +kernel
theorem dX5_count_57 : decode cX5_count 57 = .ok (.getfield 56, 3) := by decide +kernel
theorem dX5_count_60 : decode cX5_count 60 = .ok (.ireturn, 1) := by decide +kernel
theorem dX5_count_61 : decode cX5_count 61 = .ok (.aload_n 0, 1) := by decide +kernel
theorem dX5_count_62 : decode cX5_count 62 = .ok (.getfield 41, 3) := by decide +kernel
theorem dX5_count_65 : decode cX5_count 65 = .ok (.iconst 0, 1) := by decide +kernel
theorem dX5_count_66 : decode cX5_count 66 = .ok (.aaload, 1) := by decide +kernel
theorem dX5_count_67 : decode cX5_count 67 = .ok (.getfield 219, 3) := by decide +kernel
theorem dX5_count_70 : decode cX5_count 70 = .ok (.ireturn, 1) := by decide +kernel
theorem dX5_count_71 : decode cX5_count 71 = .ok (.aload_n 0, 1) := by decide +kernel
theorem dX5_count_72 : decode cX5_count 72 = .ok (.getfield 10, 3) := by decide +kernel
theorem dX5_count_75 : decode cX5_count 75 = .ok (.iconst 4, 1) := by decide +kernel
theorem dX5_count_76 : decode cX5_count 76 = .ok (.invokevirtual 103, 3) := by decide +kernel
theorem dX5_count_79 : decode cX5_count 79 = .ok (.ireturn, 1) := by decide +kernel
theorem dX5_count_80 : decode cX5_count 80 = .ok (.aload_n 0, 1) := by decide +kernel
theorem dX5_count_81 : decode cX5_count 81 = .ok (.getfield 10, 3) := by decide +kernel
theorem dX5_count_84 : decode cX5_count 84 = .ok (.iconst 3, 1) := by decide +kernel
theorem dX5_count_85 : decode cX5_count 85 = .ok (.invokevirtual 103, 3) := by decide +kernel
theorem dX5_count_88 : decode cX5_count 88 = .ok (.ireturn, 1) := by decide +kernel
theorem dX5_count_89 : decode cX5_count 89 = .ok (.iconst (-1), 1) := by decide +kernel
theorem dX5_count_90 : decode cX5_count 90 = .ok (.ireturn, 1) := by decide +kernel
end
section
theorem dX5_isOutside_0 : decode cX5_isOutside 0 = .ok (.iload_n 0, 1) := by decide +kernel
theorem dX5_isOutside_1 : decode cX5_isOutside 1 = .ok (.iload_n 1, 1) := by decide +kernel
theorem dX5_isOutside_2 : decode cX5_isOutside 2 = .ok (.if_icmp .lt 8, 3) := by decide +kernel
theorem dX5_isOutside_5 : decode cX5_isOutside 5 = .ok (.iload_n 0, 1) := by decide +kernel
theorem dX5_isOutside_6 : decode cX5_isOutside 6 = .ok (.iload_n 2, 1) := by decide +kernel
theorem dX5_isOutside_7 : decode cX5_isOutside 7 = .ok (.if_icmp .le 7, 3) := by decide +kernel
theorem dX5_isOutside_10 : decode cX5_isOutside 10 = .ok (.iconst 1, 1) := by decide +kernel
theorem dX5_isOutside_11 : decode cX5_isOutside 11 = .ok (.goto 4, 3) := by decide +kernel
theorem dX5_isOutside_14 : decode cX5_isOutside 14 = .ok (.iconst 0, 1) := by decide +kernel
theorem dX5_isOutside_15 : decode cX5_isOutside 15 = .ok (.ireturn, 1) := by decide +kernel
theorem dX5_startTrial_0 : decode cX5_startTrial 0 = .ok (.aload_n 0, 1) := by decide +kernel
theorem dX5_startTrial_1 : decode cX5_startTrial 1 = .ok (.getfield 16, 3) := by decide +kernel
theorem dX5_startTrial_4 : decode cX5_startTrial 4 = .ok (.aload_n 0, 1) := by decide +kernel
theorem dX5_startTrial_5 : decode cX5_startTrial 5 = .ok (.getfield 10, 3) := by decide +kernel
theorem dX5_startTrial_8 : decode cX5_startTrial 8 = .ok (.invokevirtual 74, 3) := by decide +kernel
theorem dX5_startTrial_11 : decode cX5_startTrial 11 = .ok (.aload_n 0, 1) := by decide +kernel
theorem dX5_startTrial_12 : decode cX5_startTrial 12 = .ok (.getfield 16, 3) := by decide +kernel
theorem dX5_startTrial_15 : decode cX5_startTrial 15 = .ok (.iconst 0, 1) := by decide +kernel
theorem dX5_startTrial_16 : decode cX5_startTrial 16 = .ok (.putfield 97, 3) := by decide +kernel
theorem dX5_startTrial_19 : decode cX5_startTrial 19 = .ok (.aload_n 0, 1) := by decide +kernel
theorem dX5_startTrial_20 : decode cX5_startTrial 20 = .ok (.getfield 16, 3) := by decide +kernel
theorem dX5_startTrial_23 : decode cX5_startTrial 23 = .ok (.iconst 0, 1) := by decide +kernel
theorem dX5_startTrial_24 : decode cX5_startTrial 24 = .ok (.putfield 100, 3) := by decide +kernel
theorem dX5_startTrial_27 : decode cX5_startTrial 27 = .ok (.return_, 1) := by decide +kernel
theorem dX5_startTrialWith_0 : decode cX5_startTrialWith 0 = .ok (.aload_n 0, 1) := by decide +kernel
theorem dX5_startTrialWith_1 : decode cX5_startTrialWith 1 = .ok (.invokevirtual 144, 3) := by decide +kernel
theorem dX5_startTrialWith_4 : decode cX5_startTrialWith 4 = .ok (.aload_n 0, 1) := by decide +kernel
theorem dX5_startTrialWith_5 : decode cX5_startTrialWith 5 = .ok (.getfield 16, 3) := by decide +kernel
theorem dX5_startTrialWith_8 : decode cX5_startTrialWith 8 = .ok (.getfield 115, 3) := by decide +kernel
theorem dX5_startTrialWith_11 : decode cX5_startTrialWith 11 = .ok (.iload_n 1, 1) := by decide +kernel
theorem dX5_startTrialWith_12 : decode cX5_startTrialWith 12 = .ok (.aaload, 1) := by decide +kernel
theorem dX5_startTrialWith_13 : decode cX5_startTrialWith 13 = .ok (.iload_n 2, 1) := by decide +kernel
theorem dX5_startTrialWith_14 : decode cX5_startTrialWith 14 = .ok (.iload_n 3, 1) := by decide +kernel
theorem dX5_startTrialWith_15 : decode cX5_startTrialWith 15 = .ok (.iastore, 1) := by decide +kernel
theorem dX5_startTrialWith_16 : decode cX5_startTrialWith 16 = .ok (.return_, 1) := by decide +kernel
theorem dX5_chanceOf_0 : decode cX5_chanceOf 0 = .ok (.lconst 1, 1) := by decide +kernel
theorem dX5_chanceOf_1 : decode cX5_chanceOf 1 = .ok (.lstore_n 3, 1) := by decide +kernel
theorem dX5_chanceOf_2 : decode cX5_chanceOf 2 = .ok (.iconst 0, 1) := by decide +kernel
theorem dX5_chanceOf_3 : decode cX5_chanceOf 3 = .ok (.istore 5, 2) := by decide +kernel
theorem dX5_chanceOf_5 : decode cX5_chanceOf 5 = .ok (.iload 5, 2) := by decide +kernel
theorem dX5_chanceOf_7 : decode cX5_chanceOf 7 = .ok (.iload_n 1, 1) := by decide +kernel
theorem dX5_chanceOf_8 : decode cX5_chanceOf 8 = .ok (.if_icmp .ge 31, 3) := by decide +kernel
theorem dX5_chanceOf_11 : decode cX5_chanceOf 11 = .ok (.lload_n 3, 1) := by decide +kernel
theorem dX5_chanceOf_12 : decode cX5_chanceOf 12 = .ok (.iload_n 0, 1) := by decide +kernel
theorem dX5_chanceOf_13 : decode cX5_chanceOf 13 = .ok (.iload 5, 2) := by decide +kernel
theorem dX5_chanceOf_15 : decode cX5_chanceOf 15 = .ok (.invokestatic 222, 3) := by decide +kernel
theorem dX5_chanceOf_18 : decode cX5_chanceOf 18 = .ok (.ifCond .eq 8, 3) := by decide +kernel
theorem dX5_chanceOf_21 : decode cX5_chanceOf 21 = .ok (.iload_n 2, 1) := by decide +kernel
theorem dX5_chanceOf_22 : decode cX5_chanceOf 22 = .ok (.i2l, 1) := by decide +kernel
theorem dX5_chanceOf_23 : decode cX5_chanceOf 23 = .ok (.goto 8, 3) := by decide +kernel
theorem dX5_chanceOf_26 : decode cX5_chanceOf 26 = .ok (.bipush 10, 2) := by decide +kernel
theorem dX5_chanceOf_28 : decode cX5_chanceOf 28 = .ok (.iload_n 2, 1) := by decide +kernel
theorem dX5_chanceOf_29 : decode cX5_chanceOf 29 = .ok (.isub, 1) := by decide +kernel
theorem dX5_chanceOf_30 : decode cX5_chanceOf 30 = .ok (.i2l, 1) := by decide +kernel
theorem dX5_chanceOf_31 : decode cX5_chanceOf 31 = .ok (.lmul, 1) := by decide +kernel
theorem dX5_chanceOf_32 : decode cX5_chanceOf 32 = .ok (.lstore_n 3, 1) := by decide +kernel
theorem dX5_chanceOf_33 : decode cX5_chanceOf 33 = .ok (.iinc 5 1, 3) := by decide +kernel
theorem dX5_chanceOf_36 : decode cX5_chanceOf 36 = .ok (.goto (-31), 3) := by decide +kernel
theorem dX5_chanceOf_39 : decode cX5_chanceOf 39 = .ok (.lload_n 3, 1) := by decide +kernel
theorem dX5_chanceOf_40 : decode cX5_chanceOf 40 = .ok (.lreturn, 1) := by decide +kernel
theorem dX5_isFailing_0 : decode cX5_isFailing 0 = .ok (.iload_n 0, 1) := by decide +kernel
theorem dX5_isFailing_1 : decode cX5_isFailing 1 = .ok (.iload_n 1, 1) := by decide +kernel
theorem dX5_isFailing_2 : decode cX5_isFailing 2 = .ok (.ishr, 1) := by decide +kernel
theorem dX5_isFailing_3 : decode cX5_isFailing 3 = .ok (.iconst 1, 1) := by decide +kernel
theorem dX5_isFailing_4 : decode cX5_isFailing 4 = .ok (.iand, 1) := by decide +kernel
theorem dX5_isFailing_5 : decode cX5_isFailing 5 = .ok (.iconst 1, 1) := by decide +kernel
theorem dX5_isFailing_6 : decode cX5_isFailing 6 = .ok (.if_icmp .ne 7, 3) := by decide +kernel
theorem dX5_isFailing_9 : decode cX5_isFailing 9 = .ok (.iconst 1, 1) := by decide +kernel
theorem dX5_isFailing_10 : decode cX5_isFailing 10 = .ok (.goto 4, 3) := by decide +kernel
theorem dX5_isFailing_13 : decode cX5_isFailing 13 = .ok (.iconst 0, 1) := by decide +kernel
theorem dX5_isFailing_14 : decode cX5_isFailing 14 = .ok (.ireturn, 1) := by decide +kernel
theorem dX5_tryFailing_0 : decode cX5_tryFailing 0 = .ok (.aload_n 0, 1) := by decide +kernel
theorem dX5_tryFailing_1 : decode cX5_tryFailing 1 = .ok (.invokevirtual 144, 3) := by decide +kernel
theorem dX5_tryFailing_4 : decode cX5_tryFailing 4 = .ok (.iconst 0, 1) := by decide +kernel
theorem dX5_tryFailing_5 : decode cX5_tryFailing 5 = .ok (.istore_n 3, 1) := by decide +kernel
theorem dX5_tryFailing_6 : decode cX5_tryFailing 6 = .ok (.iload_n 3, 1) := by decide +kernel
theorem dX5_tryFailing_7 : decode cX5_tryFailing 7 = .ok (.iload_n 2, 1) := by decide +kernel
theorem dX5_tryFailing_8 : decode cX5_tryFailing 8 = .ok (.if_icmp .ge 30, 3) := by decide +kernel
theorem dX5_tryFailing_11 : decode cX5_tryFailing 11 = .ok (.aload_n 0, 1) := by decide +kernel
theorem dX5_tryFailing_12 : decode cX5_tryFailing 12 = .ok (.getfield 16, 3) := by decide +kernel
theorem dX5_tryFailing_15 : decode cX5_tryFailing 15 = .ok (.iload_n 1, 1) := by decide +kernel
theorem dX5_tryFailing_16 : decode cX5_tryFailing 16 = .ok (.iload_n 3, 1) := by decide +kernel
theorem dX5_tryFailing_17 : decode cX5_tryFailing 17 = .ok (.invokestatic 222, 3) := by decide +kernel
theorem dX5_tryFailing_20 : decode cX5_tryFailing 20 = .ok (.ifCond .ne 7, 3) := by decide +kernel
theorem dX5_tryFailing_23 : decode cX5_tryFailing 23 = .ok (.iconst 1, 1) := by decide +kernel
theorem dX5_tryFailing_24 : decode cX5_tryFailing 24 = .ok (.goto 4, 3) := by decide +kernel
theorem dX5_tryFailing_27 : decode cX5_tryFailing 27 = .ok (.iconst 0, 1) := by decide +kernel
theorem dX5_tryFailing_28 : decode cX5_tryFailing 28 = .ok (.invokevirtual 140, 3) := by decide +kernel
theorem dX5_tryFailing_31 : decode cX5_tryFailing 31 = .ok (.pop, 1) := by decide +kernel
theorem dX5_tryFailing_32 : decode cX5_tryFailing 32 = .ok (.iinc 3 1, 3) := by decide +kernel
theorem dX5_tryFailing_35 : decode cX5_tryFailing 35 = .ok (.goto (-29), 3) := by decide +kernel
theorem dX5_tryFailing_38 : decode cX5_tryFailing 38 = .ok (.return_, 1) := by decide +kernel
theorem dX5_partOfFraction_0 : decode cX5_partOfFraction 0 = .ok (.lconst 1, 1) := by decide +kernel
theorem dX5_partOfFraction_1 : decode cX5_partOfFraction 1 = .ok (.lstore 4, 2) := by decide +kernel
theorem dX5_partOfFraction_3 : decode cX5_partOfFraction 3 = .ok (.iconst 0, 1) := by decide +kernel
theorem dX5_partOfFraction_4 : decode cX5_partOfFraction 4 = .ok (.istore 6, 2) := by decide +kernel
theorem dX5_partOfFraction_6 : decode cX5_partOfFraction 6 = .ok (.iload 6, 2) := by decide +kernel
theorem dX5_partOfFraction_8 : decode cX5_partOfFraction 8 = .ok (.iload_n 2, 1) := by decide +kernel
theorem dX5_partOfFraction_9 : decode cX5_partOfFraction 9 = .ok (.if_icmp .ge 17, 3) := by decide +kernel
theorem dX5_partOfFraction_12 : decode cX5_partOfFraction 12 = .ok (.lload 4, 2) := by decide +kernel
theorem dX5_partOfFraction_14 : decode cX5_partOfFraction 14 = .ok (.ldc2_w 225, 3) := by decide +kernel
theorem dX5_partOfFraction_17 : decode cX5_partOfFraction 17 = .ok (.lmul, 1) := by decide +kernel
theorem dX5_partOfFraction_18 : decode cX5_partOfFraction 18 = .ok (.lstore 4, 2) := by decide +kernel
theorem dX5_partOfFraction_20 : decode cX5_partOfFraction 20 = .ok (.iinc 6 1, 3) := by decide +kernel
theorem dX5_partOfFraction_23 : decode cX5_partOfFraction 23 = .ok (.goto (-17), 3) := by decide +kernel
theorem dX5_partOfFraction_26 : decode cX5_partOfFraction 26 = .ok (.lload_n 0, 1) := by decide +kernel
theorem dX5_partOfFraction_27 : decode cX5_partOfFraction 27 = .ok (.lload 4, 2) := by decide +kernel
theorem dX5_partOfFraction_29 : decode cX5_partOfFraction 29 = .ok (.invokestatic 227, 3) := by decide +kernel
theorem dX5_partOfFraction_32 : decode cX5_partOfFraction 32 = .ok (.lstore 6, 2) := by decide +kernel
theorem dX5_partOfFraction_34 : decode cX5_partOfFraction 34 = .ok (.iload_n 3, 1) := by decide +kernel
theorem dX5_partOfFraction_35 : decode cX5_partOfFraction 35 = .ok (.ifCond .ne 7, 3) := by decide +kernel
theorem dX5_partOfFraction_38 : decode cX5_partOfFraction 38 = .ok (.lload_n 0, 1) := by decide +kernel
theorem dX5_partOfFraction_39 : decode cX5_partOfFraction 39 = .ok (.goto 5, 3) := by decide +kernel
theorem dX5_partOfFraction_42 : decode cX5_partOfFraction 42 = .ok (.lload 4, 2) := by decide +kernel
theorem dX5_partOfFraction_44 : decode cX5_partOfFraction 44 = .ok (.lstore 8, 2) := by decide +kernel
theorem dX5_partOfFraction_46 : decode cX5_partOfFraction 46 = .ok (.lload 6, 2) := by decide +kernel
theorem dX5_partOfFraction_48 : decode cX5_partOfFraction 48 = .ok (.lconst 1, 1) := by decide +kernel
theorem dX5_partOfFraction_49 : decode cX5_partOfFraction 49 = .ok (.lcmp, 1) := by decide +kernel
theorem dX5_partOfFraction_50 : decode cX5_partOfFraction 50 = .ok (.ifCond .le 11, 3) := by decide +kernel
theorem dX5_partOfFraction_53 : decode cX5_partOfFraction 53 = .ok (.lload 8, 2) := by decide +kernel
theorem dX5_partOfFraction_55 : decode cX5_partOfFraction 55 = .ok (.lload 6, 2) := by decide +kernel
theorem dX5_partOfFraction_57 : decode cX5_partOfFraction 57 = .ok (.ldiv, 1) := by decide +kernel
theorem dX5_partOfFraction_58 : decode cX5_partOfFraction 58 = .ok (.goto 5, 3) := by decide +kernel
theorem dX5_partOfFraction_61 : decode cX5_partOfFraction 61 = .ok (.lload 8, 2) := by decide +kernel
theorem dX5_partOfFraction_63 : decode cX5_partOfFraction 63 = .ok (.lreturn, 1) := by decide +kernel
theorem dX5_commonDivisor_0 : decode cX5_commonDivisor 0 = .ok (.lload_n 0, 1) := by decide +kernel
theorem dX5_commonDivisor_1 : decode cX5_commonDivisor 1 = .ok (.lstore 4, 2) := by decide +kernel
theorem dX5_commonDivisor_3 : decode cX5_commonDivisor 3 = .ok (.lload_n 2, 1) := by decide +kernel
theorem dX5_commonDivisor_4 : decode cX5_commonDivisor 4 = .ok (.lstore 6, 2) := by decide +kernel
theorem dX5_commonDivisor_6 : decode cX5_commonDivisor 6 = .ok (.iconst 0, 1) := by decide +kernel
theorem dX5_commonDivisor_7 : decode cX5_commonDivisor 7 = .ok (.istore 8, 2) := by decide +kernel
theorem dX5_commonDivisor_9 : decode cX5_commonDivisor 9 = .ok (.iload 8, 2) := by decide +kernel
theorem dX5_commonDivisor_11 : decode cX5_commonDivisor 11 = .ok (.sipush 200, 3) := by decide +kernel
theorem dX5_commonDivisor_14 : decode cX5_commonDivisor 14 = .ok (.if_icmp .ge 31, 3) := by decide +kernel
theorem dX5_commonDivisor_17 : decode cX5_commonDivisor 17 = .ok (.lload 4, 2) := by decide +kernel
theorem dX5_commonDivisor_19 : decode cX5_commonDivisor 19 = .ok (.lconst 0, 1) := by decide +kernel
theorem dX5_commonDivisor_20 : decode cX5_commonDivisor 20 = .ok (.lcmp, 1) := by decide +kernel
theorem dX5_commonDivisor_21 : decode cX5_commonDivisor 21 = .ok (.ifCond .le 24, 3) := by decide +kernel
theorem dX5_commonDivisor_24 : decode cX5_commonDivisor 24 = .ok (.lload 6, 2) := by decide +kernel
theorem dX5_commonDivisor_26 : decode cX5_commonDivisor 26 = .ok (.lload 4, 2) := by decide +kernel
theorem dX5_commonDivisor_28 : decode cX5_commonDivisor 28 = .ok (.lrem, 1) := by decide +kernel
theorem dX5_commonDivisor_29 : decode cX5_commonDivisor 29 = .ok (.lstore 9, 2) := by decide +kernel
theorem dX5_commonDivisor_31 : decode cX5_commonDivisor 31 = .ok (.lload 4, 2) := by decide +kernel
theorem dX5_commonDivisor_33 : decode cX5_commonDivisor 33 = .ok (.lstore 6, 2) := by decide +kernel
theorem dX5_commonDivisor_35 : decode cX5_commonDivisor 35 = .ok (.lload 9, 2) := by decide +kernel
theorem dX5_commonDivisor_37 : decode cX5_commonDivisor 37 = .ok (.lstore 4, 2) := by decide +kernel
theorem dX5_commonDivisor_39 : decode cX5_commonDivisor 39 = .ok (.iinc 8 1, 3) := by decide +kernel
theorem dX5_commonDivisor_42 : decode cX5_commonDivisor 42 = .ok (.goto (-33), 3) := by decide +kernel
theorem dX5_commonDivisor_45 : decode cX5_commonDivisor 45 = .ok (.lload 6, 2) := by decide +kernel
theorem dX5_commonDivisor_47 : decode cX5_commonDivisor 47 = .ok (.lreturn, 1) := by decide +kernel
theorem dX5_fitting_0 : decode cX5_fitting 0 = .ok (.iconst 0, 1) := by decide +kernel
theorem dX5_fitting_1 : decode cX5_fitting 1 = .ok (.istore_n 3, 1) := by decide +kernel
theorem dX5_fitting_2 : decode cX5_fitting 2 = .ok (.getstatic 118, 3) := by decide +kernel
theorem dX5_fitting_5 : decode cX5_fitting 5 = .ok (.iload_n 2, 1) := by decide +kernel
theorem dX5_fitting_6 : decode cX5_fitting 6 = .ok (.iaload, 1) := by decide +kernel
theorem dX5_fitting_7 : decode cX5_fitting 7 = .ok (.istore 4, 2) := by decide +kernel
theorem dX5_fitting_9 : decode cX5_fitting 9 = .ok (.iload 4, 2) := by decide +kernel
theorem dX5_fitting_11 : decode cX5_fitting 11 = .ok (.getstatic 122, 3) := by decide +kernel
theorem dX5_fitting_14 : decode cX5_fitting 14 = .ok (.iload_n 2, 1) := by decide +kernel
theorem dX5_fitting_15 : decode cX5_fitting 15 = .ok (.iaload, 1) := by decide +kernel
theorem dX5_fitting_16 : decode cX5_fitting 16 = .ok (.if_icmp .gt 38, 3) := by decide +kernel
theorem dX5_fitting_19 : decode cX5_fitting 19 = .ok (.aload_n 0, 1) := by decide +kernel
theorem dX5_fitting_20 : decode cX5_fitting 20 = .ok (.iload_n 1, 1) := by decide +kernel
theorem dX5_fitting_21 : decode cX5_fitting 21 = .ok (.iload_n 2, 1) := by decide +kernel
theorem dX5_fitting_22 : decode cX5_fitting 22 = .ok (.iload 4, 2) := by decide +kernel
theorem dX5_fitting_24 : decode cX5_fitting 24 = .ok (.invokevirtual 156, 3) := by decide +kernel
theorem dX5_fitting_27 : decode cX5_fitting 27 = .ok (.aload_n 0, 1) := by decide +kernel
theorem dX5_fitting_28 : decode cX5_fitting 28 = .ok (.getfield 22, 3) := by decide +kernel
theorem dX5_fitting_31 : decode cX5_fitting 31 = .ok (.aload_n 0, 1) := by decide +kernel
theorem dX5_fitting_32 : decode cX5_fitting 32 = .ok (.getfield 16, 3) := by decide +kernel
theorem dX5_fitting_35 : decode cX5_fitting 35 = .ok (.invokevirtual 231, 3) := by decide +kernel
theorem dX5_fitting_38 : decode cX5_fitting 38 = .ok (.ifCond .eq 10, 3) := by decide +kernel
theorem dX5_fitting_41 : decode cX5_fitting 41 = .ok (.iload_n 3, 1) := by decide +kernel
theorem dX5_fitting_42 : decode cX5_fitting 42 = .ok (.iconst 1, 1) := by decide +kernel
theorem dX5_fitting_43 : decode cX5_fitting 43 = .ok (.iload 4, 2) := by decide +kernel
theorem dX5_fitting_45 : decode cX5_fitting 45 = .ok (.ishl, 1) := by decide +kernel
theorem dX5_fitting_46 : decode cX5_fitting 46 = .ok (.ior, 1) := by decide +kernel
theorem dX5_fitting_47 : decode cX5_fitting 47 = .ok (.istore_n 3, 1) := by decide +kernel
theorem dX5_fitting_48 : decode cX5_fitting 48 = .ok (.iinc 4 1, 3) := by decide +kernel
theorem dX5_fitting_51 : decode cX5_fitting 51 = .ok (.goto (-42), 3) := by decide +kernel
theorem dX5_fitting_54 : decode cX5_fitting 54 = .ok (.iload_n 3, 1) := by decide +kernel
theorem dX5_fitting_55 : decode cX5_fitting 55 = .ok (.ireturn, 1) := by decide +kernel
theorem dX5_lookAhead_0 : decode cX5_lookAhead 0 = .ok (.iconst 0, 1) := by decide +kernel
theorem dX5_lookAhead_1 : decode cX5_lookAhead 1 = .ok (.istore_n 3, 1) := by decide +kernel
theorem dX5_lookAhead_2 : decode cX5_lookAhead 2 = .ok (.iload_n 3, 1) := by decide +kernel
theorem dX5_lookAhead_3 : decode cX5_lookAhead 3 = .ok (.bipush 9, 2) := by decide +kernel
theorem dX5_lookAhead_5 : decode cX5_lookAhead 5 = .ok (.if_icmp .gt 70, 3) := by decide +kernel
theorem dX5_lookAhead_8 : decode cX5_lookAhead 8 = .ok (.iload_n 2, 1) := by decide +kernel
theorem dX5_lookAhead_9 : decode cX5_lookAhead 9 = .ok (.iload_n 3, 1) := by decide +kernel
theorem dX5_lookAhead_10 : decode cX5_lookAhead 10 = .ok (.ishr, 1) := by decide +kernel
theorem dX5_lookAhead_11 : decode cX5_lookAhead 11 = .ok (.iconst 1, 1) := by decide +kernel
theorem dX5_lookAhead_12 : decode cX5_lookAhead 12 = .ok (.iand, 1) := by decide +kernel
theorem dX5_lookAhead_13 : decode cX5_lookAhead 13 = .ok (.iconst 1, 1) := by decide +kernel
theorem dX5_lookAhead_14 : decode cX5_lookAhead 14 = .ok (.if_icmp .ne 55, 3) := by decide +kernel
theorem dX5_lookAhead_17 : decode cX5_lookAhead 17 = .ok (.aload_n 0, 1) := by decide +kernel
theorem dX5_lookAhead_18 : decode cX5_lookAhead 18 = .ok (.iload_n 1, 1) := by decide +kernel
theorem dX5_lookAhead_19 : decode cX5_lookAhead 19 = .ok (.iconst 3, 1) := by decide +kernel
theorem dX5_lookAhead_20 : decode cX5_lookAhead 20 = .ok (.iload_n 3, 1) := by decide +kernel
theorem dX5_lookAhead_21 : decode cX5_lookAhead 21 = .ok (.invokevirtual 156, 3) := by decide +kernel
theorem dX5_lookAhead_24 : decode cX5_lookAhead 24 = .ok (.iconst 0, 1) := by decide +kernel
theorem dX5_lookAhead_25 : decode cX5_lookAhead 25 = .ok (.istore 4, 2) := by decide +kernel
theorem dX5_lookAhead_27 : decode cX5_lookAhead 27 = .ok (.iload 4, 2) := by decide +kernel
theorem dX5_lookAhead_29 : decode cX5_lookAhead 29 = .ok (.bipush 40, 2) := by decide +kernel
theorem dX5_lookAhead_31 : decode cX5_lookAhead 31 = .ok (.if_icmp .gt 38, 3) := by decide +kernel
theorem dX5_lookAhead_34 : decode cX5_lookAhead 34 = .ok (.aload_n 0, 1) := by decide +kernel
theorem dX5_lookAhead_35 : decode cX5_lookAhead 35 = .ok (.getfield 47, 3) := by decide +kernel
theorem dX5_lookAhead_38 : decode cX5_lookAhead 38 = .ok (.iload_n 3, 1) := by decide +kernel
theorem dX5_lookAhead_39 : decode cX5_lookAhead 39 = .ok (.aaload, 1) := by decide +kernel
theorem dX5_lookAhead_40 : decode cX5_lookAhead 40 = .ok (.iload 4, 2) := by decide +kernel
theorem dX5_lookAhead_42 : decode cX5_lookAhead 42 = .ok (.aload_n 0, 1) := by decide +kernel
theorem dX5_lookAhead_43 : decode cX5_lookAhead 43 = .ok (.getfield 16, 3) := by decide +kernel
theorem dX5_lookAhead_46 : decode cX5_lookAhead 46 = .ok (.getfield 115, 3) := by decide +kernel
theorem dX5_lookAhead_49 : decode cX5_lookAhead 49 = .ok (.iload_n 1, 1) := by decide +kernel
theorem dX5_lookAhead_50 : decode cX5_lookAhead 50 = .ok (.aaload, 1) := by decide +kernel
theorem dX5_lookAhead_51 : decode cX5_lookAhead 51 = .ok (.iconst 1, 1) := by decide +kernel
theorem dX5_lookAhead_52 : decode cX5_lookAhead 52 = .ok (.iaload, 1) := by decide +kernel
theorem dX5_lookAhead_53 : decode cX5_lookAhead 53 = .ok (.iastore, 1) := by decide +kernel
theorem dX5_lookAhead_54 : decode cX5_lookAhead 54 = .ok (.aload_n 0, 1) := by decide +kernel
theorem dX5_lookAhead_55 : decode cX5_lookAhead 55 = .ok (.getfield 16, 3) := by decide +kernel
theorem dX5_lookAhead_58 : decode cX5_lookAhead 58 = .ok (.iconst 1, 1) := by decide +kernel
theorem dX5_lookAhead_59 : decode cX5_lookAhead 59 = .ok (.invokevirtual 140, 3) := by decide +kernel
theorem dX5_lookAhead_62 : decode cX5_lookAhead 62 = .ok (.pop, 1) := by decide +kernel
theorem dX5_lookAhead_63 : decode cX5_lookAhead 63 = .ok (.iinc 4 1, 3) := by decide +kernel
theorem dX5_lookAhead_66 : decode cX5_lookAhead 66 = .ok (.goto (-39), 3) := by decide +kernel
theorem dX5_lookAhead_69 : decode cX5_lookAhead 69 = .ok (.iinc 3 1, 3) := by decide +kernel
theorem dX5_lookAhead_72 : decode cX5_lookAhead 72 = .ok (.goto (-70), 3) := by decide +kernel
theorem dX5_lookAhead_75 : decode cX5_lookAhead 75 = .ok (.return_, 1) := by decide +kernel
theorem dX5_worstLeft_0 : decode cX5_worstLeft 0 = .ok (.iconst 0, 1) := by decide +kernel
theorem dX5_worstLeft_1 : decode cX5_worstLeft 1 = .ok (.istore_n 3, 1) := by decide +kernel
theorem dX5_worstLeft_2 : decode cX5_worstLeft 2 = .ok (.iconst 0, 1) := by decide +kernel
theorem dX5_worstLeft_3 : decode cX5_worstLeft 3 = .ok (.istore 4, 2) := by decide +kernel
theorem dX5_worstLeft_5 : decode cX5_worstLeft 5 = .ok (.iload 4, 2) := by decide +kernel
theorem dX5_worstLeft_7 : decode cX5_worstLeft 7 = .ok (.bipush 9, 2) := by decide +kernel
theorem dX5_worstLeft_9 : decode cX5_worstLeft 9 = .ok (.if_icmp .gt 39, 3) := by decide +kernel
theorem dX5_worstLeft_12 : decode cX5_worstLeft 12 = .ok (.iload_n 1, 1) := by decide +kernel
theorem dX5_worstLeft_13 : decode cX5_worstLeft 13 = .ok (.iload 4, 2) := by decide +kernel
theorem dX5_worstLeft_15 : decode cX5_worstLeft 15 = .ok (.ishr, 1) := by decide +kernel
theorem dX5_worstLeft_16 : decode cX5_worstLeft 16 = .ok (.iconst 1, 1) := by decide +kernel
theorem dX5_worstLeft_17 : decode cX5_worstLeft 17 = .ok (.iand, 1) := by decide +kernel
theorem dX5_worstLeft_18 : decode cX5_worstLeft 18 = .ok (.iconst 1, 1) := by decide +kernel
theorem dX5_worstLeft_19 : decode cX5_worstLeft 19 = .ok (.if_icmp .ne 23, 3) := by decide +kernel
theorem dX5_worstLeft_22 : decode cX5_worstLeft 22 = .ok (.iload_n 3, 1) := by decide +kernel
theorem dX5_worstLeft_23 : decode cX5_worstLeft 23 = .ok (.aload_n 0, 1) := by decide +kernel
theorem dX5_worstLeft_24 : decode cX5_worstLeft 24 = .ok (.iload_n 1, 1) := by decide +kernel
theorem dX5_worstLeft_25 : decode cX5_worstLeft 25 = .ok (.iload_n 2, 1) := by decide +kernel
theorem dX5_worstLeft_26 : decode cX5_worstLeft 26 = .ok (.aload_n 0, 1) := by decide +kernel
theorem dX5_worstLeft_27 : decode cX5_worstLeft 27 = .ok (.getfield 47, 3) := by decide +kernel
theorem dX5_worstLeft_30 : decode cX5_worstLeft 30 = .ok (.iload 4, 2) := by decide +kernel
theorem dX5_worstLeft_32 : decode cX5_worstLeft 32 = .ok (.aaload, 1) := by decide +kernel
theorem dX5_worstLeft_33 : decode cX5_worstLeft 33 = .ok (.iload_n 2, 1) := by decide +kernel
theorem dX5_worstLeft_34 : decode cX5_worstLeft 34 = .ok (.iaload, 1) := by decide +kernel
theorem dX5_worstLeft_35 : decode cX5_worstLeft 35 = .ok (.invokevirtual 235, 3) := by decide +kernel
theorem dX5_worstLeft_38 : decode cX5_worstLeft 38 = .ok (.invokestatic 151, 3) := by decide +kernel
theorem dX5_worstLeft_41 : decode cX5_worstLeft 41 = .ok (.istore_n 3, 1) := by decide +kernel
theorem dX5_worstLeft_42 : decode cX5_worstLeft 42 = .ok (.iinc 4 1, 3) := by decide +kernel
theorem dX5_worstLeft_45 : decode cX5_worstLeft 45 = .ok (.goto (-40), 3) := by decide +kernel
theorem dX5_worstLeft_48 : decode cX5_worstLeft 48 = .ok (.iload_n 3, 1) := by decide +kernel
theorem dX5_worstLeft_49 : decode cX5_worstLeft 49 = .ok (.ireturn, 1) := by decide +kernel
theorem dX5_alike_0 : decode cX5_alike 0 = .ok (.iconst 0, 1) := by decide +kernel
theorem dX5_alike_1 : decode cX5_alike 1 = .ok (.istore 4, 2) := by decide +kernel
theorem dX5_alike_3 : decode cX5_alike 3 = .ok (.iconst 0, 1) := by decide +kernel
theorem dX5_alike_4 : decode cX5_alike 4 = .ok (.istore 5, 2) := by decide +kernel
theorem dX5_alike_6 : decode cX5_alike 6 = .ok (.iload 5, 2) := by decide +kernel
theorem dX5_alike_8 : decode cX5_alike 8 = .ok (.bipush 9, 2) := by decide +kernel
theorem dX5_alike_10 : decode cX5_alike 10 = .ok (.if_icmp .gt 35, 3) := by decide +kernel
theorem dX5_alike_13 : decode cX5_alike 13 = .ok (.iload_n 1, 1) := by decide +kernel
theorem dX5_alike_14 : decode cX5_alike 14 = .ok (.iload 5, 2) := by decide +kernel
theorem dX5_alike_16 : decode cX5_alike 16 = .ok (.ishr, 1) := by decide +kernel
theorem dX5_alike_17 : decode cX5_alike 17 = .ok (.iconst 1, 1) := by decide +kernel
theorem dX5_alike_18 : decode cX5_alike 18 = .ok (.iand, 1) := by decide +kernel
theorem dX5_alike_19 : decode cX5_alike 19 = .ok (.iconst 1, 1) := by decide +kernel
theorem dX5_alike_20 : decode cX5_alike 20 = .ok (.if_icmp .ne 19, 3) := by decide +kernel
theorem dX5_alike_23 : decode cX5_alike 23 = .ok (.aload_n 0, 1) := by decide +kernel
theorem dX5_alike_24 : decode cX5_alike 24 = .ok (.getfield 47, 3) := by decide +kernel
theorem dX5_alike_27 : decode cX5_alike 27 = .ok (.iload 5, 2) := by decide +kernel
theorem dX5_alike_29 : decode cX5_alike 29 = .ok (.aaload, 1) := by decide +kernel
theorem dX5_alike_30 : decode cX5_alike 30 = .ok (.iload_n 2, 1) := by decide +kernel
theorem dX5_alike_31 : decode cX5_alike 31 = .ok (.iaload, 1) := by decide +kernel
theorem dX5_alike_32 : decode cX5_alike 32 = .ok (.iload_n 3, 1) := by decide +kernel
theorem dX5_alike_33 : decode cX5_alike 33 = .ok (.if_icmp .ne 6, 3) := by decide +kernel
theorem dX5_alike_36 : decode cX5_alike 36 = .ok (.iinc 4 1, 3) := by decide +kernel
theorem dX5_alike_39 : decode cX5_alike 39 = .ok (.iinc 5 1, 3) := by decide +kernel
theorem dX5_alike_42 : decode cX5_alike 42 = .ok (.goto (-36), 3) := by decide +kernel
theorem dX5_alike_45 : decode cX5_alike 45 = .ok (.iload 4, 2) := by decide +kernel
theorem dX5_alike_47 : decode cX5_alike 47 = .ok (.ireturn, 1) := by decide +kernel
theorem dX5_keptImages_0 : decode cX5_keptImages 0 = .ok (.iconst 0, 1) := by decide +kernel
theorem dX5_keptImages_1 : decode cX5_keptImages 1 = .ok (.istore_n 1, 1) := by decide +kernel
theorem dX5_keptImages_2 : decode cX5_keptImages 2 = .ok (.iconst 0, 1) := by decide +kernel
theorem dX5_keptImages_3 : decode cX5_keptImages 3 = .ok (.istore_n 2, 1) := by decide +kernel
theorem dX5_keptImages_4 : decode cX5_keptImages 4 = .ok (.iload_n 2, 1) := by decide +kernel
theorem dX5_keptImages_5 : decode cX5_keptImages 5 = .ok (.iconst 2, 1) := by decide +kernel
theorem dX5_keptImages_6 : decode cX5_keptImages 6 = .ok (.if_icmp .ge 29, 3) := by decide +kernel
theorem dX5_keptImages_9 : decode cX5_keptImages 9 = .ok (.iload_n 1, 1) := by decide +kernel
theorem dX5_keptImages_10 : decode cX5_keptImages 10 = .ok (.aload_n 0, 1) := by decide +kernel
theorem dX5_keptImages_11 : decode cX5_keptImages 11 = .ok (.getfield 35, 3) := by decide +kernel
theorem dX5_keptImages_14 : decode cX5_keptImages 14 = .ok (.iload_n 2, 1) := by decide +kernel
theorem dX5_keptImages_15 : decode cX5_keptImages 15 = .ok (.aaload, 1) := by decide +kernel
theorem dX5_keptImages_16 : decode cX5_keptImages 16 = .ok (.getfield 81, 3) := by decide +kernel
theorem dX5_keptImages_19 : decode cX5_keptImages 19 = .ok (.ifCond .eq 7, 3) := by decide +kernel
theorem dX5_keptImages_22 : decode cX5_keptImages 22 = .ok (.iconst 1, 1) := by decide +kernel
theorem dX5_keptImages_23 : decode cX5_keptImages 23 = .ok (.goto 4, 3) := by decide +kernel
theorem dX5_keptImages_26 : decode cX5_keptImages 26 = .ok (.iconst 0, 1) := by decide +kernel
theorem dX5_keptImages_27 : decode cX5_keptImages 27 = .ok (.iadd, 1) := by decide +kernel
theorem dX5_keptImages_28 : decode cX5_keptImages 28 = .ok (.istore_n 1, 1) := by decide +kernel
theorem dX5_keptImages_29 : decode cX5_keptImages 29 = .ok (.iinc 2 1, 3) := by decide +kernel
theorem dX5_keptImages_32 : decode cX5_keptImages 32 = .ok (.goto (-28), 3) := by decide +kernel
theorem dX5_keptImages_35 : decode cX5_keptImages 35 = .ok (.iload_n 1, 1) := by decide +kernel
theorem dX5_keptImages_36 : decode cX5_keptImages 36 = .ok (.ireturn, 1) := by decide +kernel
end
section
/-! THE ABSTRACT MACHINE. Values: an int, a long (unbounded integers, cut to 32 or 64 bits where they are put down), a reference (a place's number). Memory: ints of a place by index, rows of references of a place by index. -/
abbrev AV : Type := Int ⊕ (Int ⊕ Nat)
abbrev Mem : Type := (Nat → Nat → Int) × (Nat → Nat → Nat)
def rI (μ : Mem) (k j : Nat) : Int := μ.1 k j
def rR (μ : Mem) (k j : Nat) : Nat := μ.2 k j
def wI (μ : Mem) (k j : Nat) (v : Int) : Mem := (fun a b => if a = k ∧ b = j then v else μ.1 a b, μ.2)
def wR (μ : Mem) (k j v : Nat) : Mem := (μ.1, fun a b => if a = k ∧ b = j then v else μ.2 a b)
theorem rI_wI (μ : Mem) (k j k' j' : Nat) (v : Int) : rI (wI μ k j v) k' j' = if k' = k ∧ j' = j then v else rI μ k' j' := rfl
theorem rI_wR (μ : Mem) (k j k' j' v : Nat) : rI (wR μ k j v) k' j' = rI μ k' j' := rfl
theorem rR_wI (μ : Mem) (k j k' j' : Nat) (v : Int) : rR (wI μ k j v) k' j' = rR μ k' j' := rfl
theorem rR_wR (μ : Mem) (k j k' j' v : Nat) : rR (wR μ k j v) k' j' = if k' = k ∧ j' = j then v else rR μ k' j' := rfl
abbrev Gh : Type := va_G × (Nat → ClassId) × (Nat → Nat)
def cv (ad : Nat → Nat) : AV → Value
  | .inl x => .int (Int32.ofInt x)
  | .inr (.inl x) => .long (Int64.ofInt x)
  | .inr (.inr k) => .ref (ad k)
/-- the kinds of the places: 0 to 6 objects by their class, 7 int[], 8 byte[], 9 boolean[], 10 Image[], 11 Sheet[], 12 the rows of a ring, 15 the rows of looks; 13 a static row -/
def kdL : List Nat := [5, 1, 12, 7, 7, 7, 7, 7, 1, 12, 7, 7, 7, 7, 7, 2, 7, 7, 7, 4, 8, 10, 0, 1, 12, 7, 7, 7, 7, 7, 2, 7, 7, 7, 0, 1, 12, 7, 7, 7, 7, 7, 2, 7, 7, 7, 11, 3, 7, 3, 7, 3, 7, 3, 7, 15, 7, 7, 7, 7, 7, 7, 7, 7, 7, 7, 6, 7, 7, 9, 7, 7, 7, 7, 7, 7, 7, 7, 7]
def lnL : List Nat := [0, 0, 5, 7, 7, 7, 7, 7, 0, 5, 7, 7, 7, 7, 7, 0, 6, 6, 6, 0, 160, 2, 0, 0, 5, 7, 7, 7, 7, 7, 0, 6, 6, 6, 0, 0, 5, 7, 7, 7, 7, 7, 0, 6, 6, 6, 4, 0, 40, 0, 40, 0, 40, 0, 40, 10, 41, 41, 41, 41, 41, 41, 41, 41, 41, 41, 0, 180, 60, 2, 60, 160, 5, 205, 410, 4, 4, 160, 60]
def kd (k : Nat) : Nat := if k < 79 then kdL.getD k 99 else if k = 100 ∨ k = 101 then 13 else 99
def ln (k : Nat) : Nat := lnL.getD k 0
/-- the static rows LEAST, GREATEST -/
def stv (k j : Nat) : Int := if k = 100 then ([0, 0, 1, 0, 1] : List Int).getD j 0 else ([3, 99, 9, 9, 9] : List Int).getD j 0
/-- the place that a row of references holds -/
def el (μ : Mem) (k j : Nat) : Nat := if kd k = 12 then rR μ k j else if kd k = 10 then k + 1 + 12 * j else if kd k = 11 then k + 1 + 2 * j else k + 1 + j
/-- the fields of a class: 0 an int, 1 a long, 2 a reference to the place so far behind, 3 a boolean -/
def fsp : Nat → List (Nat × Nat)
  | 0 => [(2, 1), (2, 8), (3, 0)]
  | 1 => [(2, 1), (0, 0), (0, 0), (0, 0), (0, 0), (0, 0), (0, 0)]
  | 2 => [(2, 1), (2, 2), (2, 3), (0, 0)]
  | 3 => [(2, 1), (0, 0), (0, 0)]
  | 4 => [(2, 1), (0, 0), (0, 0), (0, 0), (0, 0), (0, 0), (0, 0)]
  | 5 => [(2, 1), (2, 8), (2, 15), (2, 19), (2, 21), (2, 46), (2, 55), (0, 0)]
  | 6 => [(2, 1), (2, 2), (2, 3), (2, 4), (3, 0), (2, 5), (0, 0), (0, 0), (0, 0), (0, 0), (0, 0), (0, 0), (0, 0), (0, 0), (0, 0), (0, 0), (0, 0), (2, 6), (0, 0), (0, 0), (1, 0), (1, 0), (1, 0), (2, 7), (2, 8), (2, 9), (2, 10), (2, 11), (0, 0), (2, 12)]
  | _ => []
def fval (ad : Nat → Nat) (μ : Mem) (k : Nat) (q : Nat × Nat) (j : Nat) : Value := if q.1 = 2 then .ref (ad (k + q.2)) else if q.1 = 1 then .long (Int64.ofInt (rI μ k j)) else .int (Int32.ofInt (rI μ k j))
def flds (ad : Nat → Nat) (μ : Mem) (k : Nat) : Nat → List (Nat × Nat) → List Value
  | _, [] => []
  | j, q :: r => fval ad μ k q j :: flds ad μ k (j + 1) r
def iarr (μ : Mem) (k : Nat) : Nat → Int32 := fun j => Int32.ofInt (rI μ k j)
def rarr (ad : Nat → Nat) (μ : Mem) (k : Nat) : Nat → Option Nat := fun j => some (ad (el μ k j))
def pic (g : Gh) (μ : Mem) (k : Nat) : va_E :=
  if kd k < 7 then .inr (kd k, flds g.2.2 μ k 0 (fsp (kd k)))
  else if kd k = 7 then .inl (g.2.1 0, ln k, .inl (iarr μ k))
  else if kd k = 8 then .inl (g.2.1 1, ln k, .inl (iarr μ k))
  else if kd k = 9 then .inl (g.2.1 2, ln k, .inl (iarr μ k))
  else if kd k = 10 then .inl (g.2.1 3, ln k, .inr (.inr (.inr (.inr (rarr g.2.2 μ k)))))
  else if kd k = 11 then .inl (g.2.1 4, ln k, .inr (.inr (.inr (.inr (rarr g.2.2 μ k)))))
  else .inl (g.2.1 5, ln k, .inr (.inr (.inr (.inr (rarr g.2.2 μ k)))))
def wl (g : Gh) (μ : Mem) : va_W := (List.range 79).map (fun k => (g.2.2 k, pic g μ k))
def tysG (g : Gh) : List (ClassId × FieldType) := [(g.2.1 0, .int), (g.2.1 1, .byte), (g.2.1 2, .boolean), (g.2.1 3, .object RX0), (g.2.1 4, .object RX3), (g.2.1 5, .array .int)]
def inW (g : Gh) : Nat → Prop := fun q => ∃ k, k < 79 ∧ q = g.2.2 k
theorem wl_get (g : Gh) (μ : Mem) {k : Nat} (h : k < 79) : (wl g μ)[k]? = some (g.2.2 k, pic g μ k) := by
  simp [wl, h]
theorem wl_len (g : Gh) (μ : Mem) : (wl g μ).length = 79 := by simp [wl]
theorem wl_set (g : Gh) (μ μ' : Mem) {k : Nat} {e : va_E} (he : e = pic g μ' k) (h : ∀ j, j ≠ k → pic g μ' j = pic g μ j) : (wl g μ).set k (g.2.2 k, e) = wl g μ' := by
  apply List.ext_getElem?
  intro j
  rw [List.getElem?_set]
  by_cases hj : k = j
  · subst hj
    by_cases hk : k < 79
    · rw [if_pos rfl, if_pos (by rw [wl_len]; exact hk), wl_get g μ' hk, he]
    · rw [if_pos rfl, if_neg (by rw [wl_len]; exact hk)]
      exact (List.getElem?_eq_none (by rw [wl_len]; omega)).symm
  · rw [if_neg hj]
    by_cases hk : j < 79
    · rw [wl_get g μ hk, wl_get g μ' hk, h j (fun q => hj q.symm)]
    · rw [List.getElem?_eq_none (by rw [wl_len]; omega), List.getElem?_eq_none (by rw [wl_len]; omega)]
theorem kd_lt {k n : Nat} (h : kd k = n) (hn : n ≠ 13) (hn2 : n ≠ 99) : k < 79 := by
  unfold kd at h
  by_cases q : k < 79
  · exact q
  · rw [if_neg q] at h
    split at h
    · exact absurd h.symm hn
    · exact absurd h.symm hn2
theorem flds_get (ad : Nat → Nat) (μ : Mem) (k : Nat) : ∀ (l : List (Nat × Nat)) (j i : Nat), (flds ad μ k j l)[i]? = (l[i]?).map (fun q => fval ad μ k q (j + i))
  | [], j, i => by simp [flds]
  | q :: r, j, 0 => by simp [flds]
  | q :: r, j, i + 1 => by
    simp only [flds, List.getElem?_cons_succ]
    rw [flds_get ad μ k r (j + 1) i]
    congr 1
    funext z
    congr 1
    omega
theorem flds_len (ad : Nat → Nat) (μ : Mem) (k : Nat) : ∀ (l : List (Nat × Nat)) (j : Nat), (flds ad μ k j l).length = l.length
  | [], j => rfl
  | q :: r, j => by simp [flds, flds_len ad μ k r (j + 1)]
theorem flds_set (ad : Nat → Nat) (μ : Mem) (k : Nat) (l : List (Nat × Nat)) (i : Nat) (v : Int) {so off : Nat} (hl : l[i]? = some (so, off)) (h2 : so ≠ 2) : (flds ad μ k 0 l).set i (if so = 1 then .long (Int64.ofInt v) else .int (Int32.ofInt v)) = flds ad (wI μ k i v) k 0 l := by
  apply List.ext_getElem?
  intro j
  rw [List.getElem?_set, flds_get, flds_get, flds_len]
  by_cases hj : i = j
  · subst hj
    have hlt : i < l.length := (List.getElem?_eq_some_iff.mp hl).1
    rw [if_pos rfl, if_pos hlt, hl]
    simp only [Option.map_some, fval, if_neg h2]
    by_cases h1 : so = 1
    · simp [h1, rI_wI]
    · simp [h1, rI_wI]
  · rw [if_neg hj]
    cases hq : l[j]? with
    | none => rfl
    | some q =>
      simp only [Option.map_some, fval, rI_wI]
      have : ¬ (True ∧ 0 + j = i) := fun z => hj (by omega)
      rw [if_neg this]
theorem flds_ne (ad : Nat → Nat) (μ : Mem) {k k' : Nat} (i : Nat) (v : Int) (h : k' ≠ k) (l : List (Nat × Nat)) : ∀ j, flds ad (wI μ k i v) k' j l = flds ad μ k' j l := by
  induction l with
  | nil => intro j; rfl
  | cons q r ih =>
    intro j
    simp only [flds, ih, fval, rI_wI]
    have : ¬ (k' = k ∧ j = i) := fun z => h z.1
    rw [if_neg this]
theorem iarr_ne (μ : Mem) {k k' : Nat} (i : Nat) (v : Int) (h : k' ≠ k) : iarr (wI μ k i v) k' = iarr μ k' := by
  funext j
  simp only [iarr, rI_wI]
  rw [if_neg (fun z => h z.1)]
theorem iarr_upd (μ : Mem) (k i : Nat) (v : Int) : iarr (wI μ k i v) k = upd (iarr μ k) i (Int32.ofInt v) := by
  funext j
  simp only [iarr, rI_wI, upd]
  by_cases h : j = i <;> simp [h]
theorem el_wI (μ : Mem) (k i k' j : Nat) (v : Int) : el (wI μ k i v) k' j = el μ k' j := rfl
theorem rarr_wI (ad : Nat → Nat) (μ : Mem) (k i k' : Nat) (v : Int) : rarr ad (wI μ k i v) k' = rarr ad μ k' := rfl
theorem pic_wI_ne (g : Gh) (μ : Mem) {k : Nat} (i : Nat) (v : Int) {k' : Nat} (h : k' ≠ k) : pic g (wI μ k i v) k' = pic g μ k' := by
  unfold pic
  rw [flds_ne _ _ _ _ h, iarr_ne _ _ _ h, rarr_wI]
theorem flds_wR (ad : Nat → Nat) (μ : Mem) (k i k' v : Nat) (l : List (Nat × Nat)) : ∀ j, flds ad (wR μ k i v) k' j l = flds ad μ k' j l := by
  induction l with
  | nil => intro j; rfl
  | cons q r ih => intro j; simp only [flds, ih]; rfl
theorem pic_wR_ne (g : Gh) (μ : Mem) {k : Nat} (i v : Nat) {k' : Nat} (h : k' ≠ k) : pic g (wR μ k i v) k' = pic g μ k' := by
  have e : rarr g.2.2 (wR μ k i v) k' = rarr g.2.2 μ k' := by
    funext j
    simp only [rarr, el, rR_wR]
    rw [if_neg (show ¬ (k' = k ∧ j = i) from fun z => h z.1)]
  unfold pic
  rw [flds_wR, e]
  rfl
/-- locals -/
def lg : List (Option AV) → Nat → Option AV
  | [], _ => none
  | a :: _, 0 => a
  | _ :: r, n + 1 => lg r n
def lset : List (Option AV) → Nat → Option AV → List (Option AV)
  | [], _, _ => []
  | _ :: r, 0, v => v :: r
  | a :: r, n + 1, v => a :: lset r n v
def okl (L : List (Option AV)) (i : Nat) : Prop := match i with
  | 0 => True
  | j + 1 => match lg L j with
    | some (.inr (.inl _)) => False
    | _ => True
theorem lg_lt {L : List (Option AV)} {i : Nat} {v : AV} (h : lg L i = some v) : i < L.length := by
  induction L generalizing i with
  | nil => simp [lg] at h
  | cons a r ih => cases i with
    | zero => simp
    | succ n => simp only [lg] at h; simp; exact ih h
theorem lset_len (L : List (Option AV)) (i : Nat) (v : Option AV) : (lset L i v).length = L.length := by
  induction L generalizing i with
  | nil => rfl
  | cons a r ih => cases i with
    | zero => rfl
    | succ n => simp [lset, ih]
theorem lg_lset (L : List (Option AV)) (i j : Nat) (v : Option AV) : lg (lset L i v) j = if j = i ∧ i < L.length then v else lg L j := by
  induction L generalizing i j with
  | nil => simp [lset]
  | cons a r ih => cases i with
    | zero => cases j with
      | zero => simp [lset, lg]
      | succ m => simp [lset, lg]
    | succ n => cases j with
      | zero => simp [lset, lg]
      | succ m => simp [lset, lg, ih]
def lvs (ad : Nat → Nat) (L : List (Option AV)) : List (Nat × Value) := (List.range L.length).filterMap (fun i => (lg L i).map (fun v => (i, cv ad v)))
theorem lvs_mem {ad : Nat → Nat} {L : List (Option AV)} {q : Nat × Value} : q ∈ lvs ad L ↔ ∃ v, lg L q.1 = some v ∧ q.2 = cv ad v := by
  simp only [lvs, List.mem_filterMap, List.mem_range, Option.map_eq_some_iff]
  constructor
  · rintro ⟨i, -, v, h, rfl⟩
    exact ⟨v, h, rfl⟩
  · rintro ⟨v, h, e⟩
    exact ⟨q.1, lg_lt h, v, h, by rw [← e]⟩
theorem lv_mono {ls : Array Slot} {n : Nat} {l l' : List (Nat × Value)} (h : lv_has ls n l) (hs : ∀ q ∈ l', q ∈ l) : lv_has ls n l' := ⟨h.1, h.2.1, fun q hq => h.2.2 q (hs q hq)⟩
theorem cv_cat2 {ad : Nat → Nat} {v : AV} (h : (cv ad v).category = 2) : ∃ x, v = .inr (.inl x) := by
  rcases v with x | x | k
  · simp [cv, Value.category] at h
  · exact ⟨x, rfl⟩
  · simp [cv, Value.category] at h
theorem lvs_store {ad : Nat → Nat} {L : List (Option AV)} {i : Nat} {v : AV} (ho : okl L i) : ∀ q ∈ lvs ad (lset L i (some v)), q ∈ (i, cv ad v) :: (lvs ad L).filter (fun q => !(q.1 == i) && !(q.1 + 1 == i && q.2.category == 2)) := by
  intro q hq
  obtain ⟨w, hw, e⟩ := lvs_mem.mp hq
  rw [lg_lset] at hw
  by_cases h : q.1 = i ∧ i < L.length
  · rw [if_pos h] at hw
    cases hw
    rw [List.mem_cons]
    left
    rw [← h.1, ← e]
  · rw [if_neg h] at hw
    have hlt := lg_lt hw
    have hne : q.1 ≠ i := fun z => h ⟨z, by rw [← z]; exact hlt⟩
    rw [List.mem_cons]
    right
    rw [List.mem_filter]
    refine ⟨lvs_mem.mpr ⟨w, hw, e⟩, ?_⟩
    simp only [Bool.and_eq_true, Bool.not_eq_true', beq_eq_false_iff_ne, Bool.and_eq_false_iff]
    refine ⟨hne, ?_⟩
    by_cases h1 : q.1 + 1 = i
    · right
      rw [e]
      intro z
      obtain ⟨x, rfl⟩ := cv_cat2 z
      subst h1
      simp only [okl, hw] at ho
    · exact Or.inl h1
theorem lvs_store2 {ad : Nat → Nat} {L : List (Option AV)} {i : Nat} {v : AV} (ho : okl L i) : ∀ q ∈ lvs ad (lset (lset L i (some v)) (i + 1) none), q ∈ (i, cv ad v) :: (lvs ad L).filter (fun q => !(q.1 == i) && (!(q.1 == i + 1) && !(q.1 + 1 == i && q.2.category == 2))) := by
  intro q hq
  obtain ⟨w, hw, e⟩ := lvs_mem.mp hq
  rw [lg_lset, lset_len] at hw
  by_cases h : q.1 = i + 1 ∧ i + 1 < L.length
  · rw [if_pos h] at hw; cases hw
  · rw [if_neg h] at hw
    have h3 : lvs ad (lset L i (some v)) = lvs ad (lset L i (some v)) := rfl
    have hq2 : q ∈ lvs ad (lset L i (some v)) := lvs_mem.mpr ⟨w, hw, e⟩
    have hlt := lg_lt hw
    rw [lset_len] at hlt
    have hn : q.1 ≠ i + 1 := fun z => h ⟨z, by rw [← z]; exact hlt⟩
    rcases List.mem_cons.mp (lvs_store ho q hq2) with z | z
    · exact List.mem_cons.mpr (Or.inl z)
    · rw [List.mem_filter] at z
      refine List.mem_cons.mpr (Or.inr (List.mem_filter.mpr ⟨z.1, ?_⟩))
      have z2 := z.2
      simp only [Bool.and_eq_true, Bool.not_eq_true', beq_eq_false_iff_ne] at z2 ⊢
      exact ⟨z2.1, hn, z2.2⟩
end
section
/-! THE STEPS of the abstract machine: what must hold ahead of an instruction so that 'go' holds behind it -/
abbrev TT : Type := List AV → Mem → (List AV → Mem → Prop) → Prop
def InR (a : Int) : Prop := -2147483648 ≤ a ∧ a < 2147483648
def InL (a : Int) : Prop := -9223372036854775808 ≤ a ∧ a < 9223372036854775808
def inb (j : Int) (n : Nat) : Prop := 0 ≤ j ∧ j < n
def c1 : AV → Prop
  | .inr (.inl _) => False
  | _ => True
def wd : List AV → Nat
  | [] => 0
  | .inr (.inl _) :: r => 2 + wd r
  | _ :: r => 1 + wd r
def spl : Nat → List AV → List AV → Option (List AV × List AV)
  | 0, s, acc => some (acc, s)
  | _ + 1, [], _ => none
  | n + 1, v :: s, acc => spl n s (v :: acc)
def cnd (c : Jvm.ClassFile.Cond) (a b : Int) : Prop := match c with
  | .eq => a = b
  | .ne => a ≠ b
  | .lt => a < b
  | .ge => b ≤ a
  | .gt => b < a
  | .le => a ≤ b
def tg (pc : Nat) (off : Int) : Nat := ((pc : Int) + off).toNat
def swT (go : Int → Prop) (x : Int) : Int → List Int → Prop
  | _, [] => True
  | lo, o :: r => (x = lo → go o) ∧ swT go x (lo + 1) r
def swL (go : Int → Prop) (d x : Int) : List (Int × Int) → Prop
  | [] => go d
  | q :: r => (x = q.1 → go q.2) ∧ (x ≠ q.1 → swL go d x r)
section
variable (F : Nat → Option (Nat × Nat × Nat × Nat)) (Cn : Nat → Option AV) (G : Nat → Option (Nat × Bool × TT)) (rk : Nat) (K : List AV → Mem → Prop)
def stp (go : Nat → List (Option AV) → List AV → Mem → Prop) (pc : Nat) (L : List (Option AV)) (stk : List AV) (μ : Mem) (len : Nat) : Instr → Prop
  | .iconst n => len = 1 ∧ go (pc + 1) L (.inl n :: stk) μ
  | .bipush n => len = 2 ∧ -128 ≤ n ∧ n < 128 ∧ go (pc + 2) L (.inl n :: stk) μ
  | .sipush n => len = 3 ∧ -32768 ≤ n ∧ n < 32768 ∧ go (pc + 3) L (.inl n :: stk) μ
  | .lconst n => len = 1 ∧ go (pc + 1) L (.inr (.inl ((n : Nat) : Int)) :: stk) μ
  | .iload_n n => len = 1 ∧ (match lg L (n : Nat) with | some (.inl x) => go (pc + 1) L (.inl x :: stk) μ | _ => False)
  | .iload n => len = 2 ∧ (match lg L n with | some (.inl x) => go (pc + 2) L (.inl x :: stk) μ | _ => False)
  | .lload_n n => len = 1 ∧ (match lg L (n : Nat) with | some (.inr (.inl x)) => go (pc + 1) L (.inr (.inl x) :: stk) μ | _ => False)
  | .lload n => len = 2 ∧ (match lg L n with | some (.inr (.inl x)) => go (pc + 2) L (.inr (.inl x) :: stk) μ | _ => False)
  | .aload_n n => len = 1 ∧ (match lg L (n : Nat) with | some (.inr (.inr x)) => go (pc + 1) L (.inr (.inr x) :: stk) μ | _ => False)
  | .aload n => len = 2 ∧ (match lg L n with | some (.inr (.inr x)) => go (pc + 2) L (.inr (.inr x) :: stk) μ | _ => False)
  | .istore_n n => len = 1 ∧ (n : Nat) < L.length ∧ okl L (n : Nat) ∧ (match stk with | .inl x :: r => go (pc + 1) (lset L (n : Nat) (some (.inl x))) r μ | _ => False)
  | .istore n => len = 2 ∧ n < L.length ∧ okl L n ∧ (match stk with | .inl x :: r => go (pc + 2) (lset L n (some (.inl x))) r μ | _ => False)
  | .lstore_n n => len = 1 ∧ (n : Nat) + 1 < L.length ∧ okl L (n : Nat) ∧ (match stk with | .inr (.inl x) :: r => go (pc + 1) (lset (lset L (n : Nat) (some (.inr (.inl x)))) ((n : Nat) + 1) none) r μ | _ => False)
  | .lstore n => len = 2 ∧ n + 1 < L.length ∧ okl L n ∧ (match stk with | .inr (.inl x) :: r => go (pc + 2) (lset (lset L n (some (.inr (.inl x)))) (n + 1) none) r μ | _ => False)
  | .astore_n n => len = 1 ∧ (n : Nat) < L.length ∧ okl L (n : Nat) ∧ (match stk with | .inr (.inr x) :: r => go (pc + 1) (lset L (n : Nat) (some (.inr (.inr x)))) r μ | _ => False)
  | .astore n => len = 2 ∧ n < L.length ∧ okl L n ∧ (match stk with | .inr (.inr x) :: r => go (pc + 2) (lset L n (some (.inr (.inr x)))) r μ | _ => False)
  | .iinc n c => len = 3 ∧ n < L.length ∧ okl L n ∧ (match lg L n with | some (.inl x) => go (pc + 3) (lset L n (some (.inl (x + c)))) stk μ | _ => False)
  | .iadd => len = 1 ∧ (match stk with | .inl b :: .inl a :: r => go (pc + 1) L (.inl (a + b) :: r) μ | _ => False)
  | .isub => len = 1 ∧ (match stk with | .inl b :: .inl a :: r => go (pc + 1) L (.inl (a - b) :: r) μ | _ => False)
  | .imul => len = 1 ∧ (match stk with | .inl b :: .inl a :: r => go (pc + 1) L (.inl (a * b) :: r) μ | _ => False)
  | .ineg => len = 1 ∧ (match stk with | .inl a :: r => go (pc + 1) L (.inl (-a) :: r) μ | _ => False)
  | .idiv => len = 1 ∧ (match stk with | .inl b :: .inl a :: r => (0 ≤ a ∧ a < 2147483648 ∧ 0 < b ∧ b < 2147483648) ∧ go (pc + 1) L (.inl (a / b) :: r) μ | _ => False)
  | .irem => len = 1 ∧ (match stk with | .inl b :: .inl a :: r => (0 ≤ a ∧ a < 2147483648 ∧ 0 < b ∧ b < 2147483648) ∧ go (pc + 1) L (.inl (a % b) :: r) μ | _ => False)
  | .ladd => len = 1 ∧ (match stk with | .inr (.inl b) :: .inr (.inl a) :: r => go (pc + 1) L (.inr (.inl (a + b)) :: r) μ | _ => False)
  | .lmul => len = 1 ∧ (match stk with | .inr (.inl b) :: .inr (.inl a) :: r => go (pc + 1) L (.inr (.inl (a * b)) :: r) μ | _ => False)
  | .ldiv => len = 1 ∧ (match stk with | .inr (.inl b) :: .inr (.inl a) :: r => (0 ≤ a ∧ a < 9223372036854775808 ∧ 0 < b ∧ b < 9223372036854775808) ∧ go (pc + 1) L (.inr (.inl (a / b)) :: r) μ | _ => False)
  | .lrem => len = 1 ∧ (match stk with | .inr (.inl b) :: .inr (.inl a) :: r => (0 ≤ a ∧ a < 9223372036854775808 ∧ 0 < b ∧ b < 9223372036854775808) ∧ go (pc + 1) L (.inr (.inl (a % b)) :: r) μ | _ => False)
  | .ishl => len = 1 ∧ (match stk with | .inl b :: .inl a :: r => (0 ≤ b ∧ b < 31 ∧ 0 ≤ a ∧ a * 2 ^ b.toNat < 2147483648) ∧ go (pc + 1) L (.inl (a * 2 ^ b.toNat) :: r) μ | _ => False)
  | .ishr => len = 1 ∧ (match stk with | .inl b :: .inl a :: r => (0 ≤ b ∧ b < 32) ∧ go (pc + 1) L (.inl ((Int.bmod a 4294967296) / 2 ^ b.toNat) :: r) μ | _ => False)
  | .iushr => len = 1 ∧ (match stk with | .inl b :: .inl a :: r => (0 < b ∧ b < 32) ∧ go (pc + 1) L (.inl ((a % 4294967296) / 2 ^ b.toNat) :: r) μ | _ => False)
  | .iand => len = 1 ∧ (match stk with | .inl b :: .inl a :: r => (if b = 1 then go (pc + 1) L (.inl (a % 2) :: r) μ else if b = 32767 then go (pc + 1) L (.inl (a % 32768) :: r) μ else False) | _ => False)
  | .ior => len = 1 ∧ (match stk with | .inl b :: .inl a :: r => (0 ≤ a ∧ a < 2147483648 ∧ 0 ≤ b ∧ b < 2147483648) ∧ go (pc + 1) L (.inl (((a.toNat ||| b.toNat : Nat)) : Int) :: r) μ | _ => False)
  | .i2l => len = 1 ∧ (match stk with | .inl a :: r => InR a ∧ go (pc + 1) L (.inr (.inl a) :: r) μ | _ => False)
  | .i2b => len = 1 ∧ (match stk with | .inl a :: r => go (pc + 1) L (.inl (Int.bmod a 256) :: r) μ | _ => False)
  | .i2s => len = 1 ∧ (match stk with | .inl a :: r => go (pc + 1) L (.inl (Int.bmod a 65536) :: r) μ | _ => False)
  | .lcmp => len = 1 ∧ (match stk with | .inr (.inl b) :: .inr (.inl a) :: r => InL a ∧ InL b ∧ (a < b → go (pc + 1) L (.inl (-1) :: r) μ) ∧ (a = b → go (pc + 1) L (.inl 0 :: r) μ) ∧ (b < a → go (pc + 1) L (.inl 1 :: r) μ) | _ => False)
  | .dup => len = 1 ∧ (match stk with | v :: r => c1 v ∧ go (pc + 1) L (v :: v :: r) μ | _ => False)
  | .dup2 => len = 1 ∧ (match stk with | v :: w :: r => c1 v ∧ c1 w ∧ go (pc + 1) L (v :: w :: v :: w :: r) μ | _ => False)
  | .pop => len = 1 ∧ (match stk with | v :: r => c1 v ∧ go (pc + 1) L r μ | _ => False)
  | .ifCond c off => len = 3 ∧ 0 ≤ (pc : Int) + off ∧ (match stk with | .inl a :: r => InR a ∧ (cnd c a 0 → go (tg pc off) L r μ) ∧ (¬ cnd c a 0 → go (pc + 3) L r μ) | _ => False)
  | .if_icmp c off => len = 3 ∧ 0 ≤ (pc : Int) + off ∧ (match stk with | .inl b :: .inl a :: r => InR a ∧ InR b ∧ (cnd c a b → go (tg pc off) L r μ) ∧ (¬ cnd c a b → go (pc + 3) L r μ) | _ => False)
  | .goto off => len = 3 ∧ 0 ≤ (pc : Int) + off ∧ go (tg pc off) L stk μ
  | .tableswitch d lo hi os => (match stk with | .inl a :: r => InR a ∧ (os.toList.all (fun o => decide (0 ≤ (pc : Int) + o)) = true ∧ 0 ≤ (pc : Int) + d ∧ (os.size : Int) = hi - lo + 1) ∧ ((a < lo ∨ hi < a) → go (tg pc d) L r μ) ∧ swT (fun o => go (tg pc o) L r μ) a lo os.toList | _ => False)
  | .lookupswitch d ps => (match stk with | .inl a :: r => InR a ∧ ((ps.toList.zip (ps.toList.drop 1)).all (fun (a, next) => a.1 < next.1) = true ∧ 0 ≤ (pc : Int) + d ∧ ps.toList.all (fun o => decide (0 ≤ (pc : Int) + o.2)) = true) ∧ swL (fun o => go (tg pc o) L r μ) d a ps.toList | _ => False)
  | .ldc i => len = 2 ∧ (match Cn i with | some (.inl v) => go (pc + 2) L (.inl v :: stk) μ | some (.inr (.inr v)) => 110 ≤ v ∧ go (pc + 2) L (.inr (.inr v) :: stk) μ | _ => False)
  | .ldc2_w i => len = 3 ∧ (match Cn i with | some (.inr (.inl v)) => go (pc + 3) L (.inr (.inl v) :: stk) μ | _ => False)
  | .getstatic i => len = 3 ∧ (match Cn i with | some (.inr (.inr v)) => v < 110 ∧ go (pc + 3) L (.inr (.inr v) :: stk) μ | _ => False)
  | .getfield i => len = 3 ∧ (match stk with | .inr (.inr k) :: r => (match F i with | some (ci, j, so, off) => kd k = ci ∧ (if so = 2 then go (pc + 3) L (.inr (.inr (k + off)) :: r) μ else if so = 1 then go (pc + 3) L (.inr (.inl (rI μ k j)) :: r) μ else go (pc + 3) L (.inl (rI μ k j) :: r) μ) | _ => False) | _ => False)
  | .putfield i => len = 3 ∧ (match F i with | some (ci, j, so, _) => (match stk with | .inl v :: .inr (.inr k) :: r => kd k = ci ∧ (so = 0 ∨ (so = 3 ∧ (v = 0 ∨ v = 1))) ∧ go (pc + 3) L r (wI μ k j v) | .inr (.inl v) :: .inr (.inr k) :: r => kd k = ci ∧ so = 1 ∧ go (pc + 3) L r (wI μ k j v) | _ => False) | _ => False)
  | .iaload => len = 1 ∧ (match stk with | .inl j :: .inr (.inr k) :: r => (if kd k = 13 then inb j 5 ∧ go (pc + 1) L (.inl (stv k j.toNat) :: r) μ else kd k = 7 ∧ inb j (ln k) ∧ go (pc + 1) L (.inl (rI μ k j.toNat) :: r) μ) | _ => False)
  | .baload => len = 1 ∧ (match stk with | .inl j :: .inr (.inr k) :: r => (kd k = 8 ∨ kd k = 9) ∧ inb j (ln k) ∧ go (pc + 1) L (.inl (rI μ k j.toNat) :: r) μ | _ => False)
  | .iastore => len = 1 ∧ (match stk with | .inl v :: .inl j :: .inr (.inr k) :: r => kd k = 7 ∧ inb j (ln k) ∧ go (pc + 1) L r (wI μ k j.toNat v) | _ => False)
  | .bastore => len = 1 ∧ (match stk with | .inl v :: .inl j :: .inr (.inr k) :: r => ((kd k = 8 ∧ -128 ≤ v ∧ v < 128) ∨ (kd k = 9 ∧ (v = 0 ∨ v = 1))) ∧ inb j (ln k) ∧ go (pc + 1) L r (wI μ k j.toNat v) | _ => False)
  | .aaload => len = 1 ∧ (match stk with | .inl j :: .inr (.inr k) :: r => (kd k = 12 ∨ kd k = 10 ∨ kd k = 11 ∨ kd k = 15) ∧ inb j (ln k) ∧ go (pc + 1) L (.inr (.inr (el μ k j.toNat)) :: r) μ | _ => False)
  | .aastore => len = 1 ∧ (match stk with | .inr (.inr v) :: .inl j :: .inr (.inr k) :: r => kd k = 12 ∧ inb j (ln k) ∧ kd v = 7 ∧ go (pc + 1) L r (wR μ k j.toNat v) | _ => False)
  | .invokevirtual i => len = 3 ∧ (match G i with | some (n, false, T) => (match spl n stk [] with | some (a, r) => wd r ≤ 8 ∧ T a μ (fun v μ' => go (pc + 3) L (v ++ r) μ') | none => False) | _ => False)
  | .invokestatic i => len = 3 ∧ (match G i with | some (n, true, T) => (match spl n stk [] with | some (a, r) => wd r ≤ 8 ∧ T a μ (fun v μ' => go (pc + 3) L (v ++ r) μ') | none => False) | _ => False)
  | .ireturn => len = 1 ∧ (match stk with | [.inl v] => (rk = 1 ∨ (rk = 2 ∧ (v = 0 ∨ v = 1))) ∧ K [.inl v] μ | _ => False)
  | .lreturn => len = 1 ∧ (match stk with | [.inr (.inl v)] => rk = 3 ∧ K [.inr (.inl v)] μ | _ => False)
  | .return_ => len = 1 ∧ (match stk with | [] => rk = 0 ∧ K [] μ | _ => False)
  | _ => False
/-- n steps from pc on; it stops, with V, ahead of a place in 'stops' -/
def wpc (b : ByteArray) (stops : List Nat) (V : Nat → List (Option AV) → List AV → Mem → Prop) : Nat → Nat → List (Option AV) → List AV → Mem → Prop
  | 0, pc, L, stk, μ => V pc L stk μ
  | n + 1, pc, L, stk, μ => if pc ∈ stops then V pc L stk μ else match decode b pc with
    | .ok (i, len) => stp F Cn G rk K (wpc b stops V n) pc L stk μ len i
    | _ => False
/-- the first step is made in any case -/
def wp1 (b : ByteArray) (stops : List Nat) (V : Nat → List (Option AV) → List AV → Mem → Prop) (n pc : Nat) (L : List (Option AV)) (stk : List AV) (μ : Mem) : Prop := match decode b pc with
  | .ok (i, len) => stp F Cn G rk K (wpc F Cn G rk K b stops V n) pc L stk μ len i
  | _ => False
/-- V is closed under steps -/
def Clos (b : ByteArray) (V : Nat → List (Option AV) → List AV → Mem → Prop) : Prop := ∀ (stops : List Nat) (n pc : Nat) (L : List (Option AV)) (stk : List AV) (μ : Mem), wp1 F Cn G rk K b stops V n pc L stk μ → V pc L stk μ
end
end
section
/-! fields and constants by the places of the pools: (class, field, sort, how far behind) -/
def FL0 : List (Nat × Nat × Nat × Nat × Nat) := [(10, 0, 0, 2, 1), (19, 0, 1, 2, 8)]
def FX0 : Nat → Option (Nat × Nat × Nat × Nat) := fun i => FL0.lookup i
def CL0 : List (Nat × AV) := []
def CX0 : Nat → Option AV := fun i => CL0.lookup i
theorem FX0_10 : FX0 10 = some (0, 0, 2, 1) := rfl
theorem FX0_19 : FX0 19 = some (0, 1, 2, 8) := rfl
def FL1 : List (Nat × Nat × Nat × Nat × Nat) := [(11, 1, 0, 2, 1), (20, 1, 1, 0, 0), (16, 1, 2, 0, 0), (23, 1, 3, 0, 0), (26, 1, 4, 0, 0), (29, 1, 5, 0, 0), (32, 1, 6, 0, 0)]
def FX1 : Nat → Option (Nat × Nat × Nat × Nat) := fun i => FL1.lookup i
def CL1 : List (Nat × AV) := [(73, .inl 999999)]
def CX1 : Nat → Option AV := fun i => CL1.lookup i
theorem FX1_11 : FX1 11 = some (1, 0, 2, 1) := rfl
theorem FX1_20 : FX1 20 = some (1, 1, 0, 0) := rfl
theorem FX1_16 : FX1 16 = some (1, 2, 0, 0) := rfl
theorem FX1_23 : FX1 23 = some (1, 3, 0, 0) := rfl
theorem FX1_26 : FX1 26 = some (1, 4, 0, 0) := rfl
theorem FX1_29 : FX1 29 = some (1, 5, 0, 0) := rfl
theorem FX1_32 : FX1 32 = some (1, 6, 0, 0) := rfl
theorem CX1_73 : CX1 73 = some (.inl 999999) := rfl
def FL2 : List (Nat × Nat × Nat × Nat × Nat) := [(55, 1, 0, 2, 1), (9, 2, 0, 2, 1), (15, 2, 1, 2, 2), (18, 2, 2, 2, 3), (21, 2, 3, 0, 0)]
def FX2 : Nat → Option (Nat × Nat × Nat × Nat) := fun i => FL2.lookup i
def CL2 : List (Nat × AV) := []
def CX2 : Nat → Option AV := fun i => CL2.lookup i
theorem FX2_55 : FX2 55 = some (1, 0, 2, 1) := rfl
theorem FX2_9 : FX2 9 = some (2, 0, 2, 1) := rfl
theorem FX2_15 : FX2 15 = some (2, 1, 2, 2) := rfl
theorem FX2_18 : FX2 18 = some (2, 2, 2, 3) := rfl
theorem FX2_21 : FX2 21 = some (2, 3, 0, 0) := rfl
def FL3 : List (Nat × Nat × Nat × Nat × Nat) := [(9, 3, 0, 2, 1), (15, 3, 1, 0, 0), (19, 3, 2, 0, 0)]
def FX3 : Nat → Option (Nat × Nat × Nat × Nat) := fun i => FL3.lookup i
def CL3 : List (Nat × AV) := []
def CX3 : Nat → Option AV := fun i => CL3.lookup i
theorem FX3_9 : FX3 9 = some (3, 0, 2, 1) := rfl
theorem FX3_15 : FX3 15 = some (3, 1, 0, 0) := rfl
theorem FX3_19 : FX3 19 = some (3, 2, 0, 0) := rfl
def FL4 : List (Nat × Nat × Nat × Nat × Nat) := [(79, 1, 0, 2, 1), (43, 1, 1, 0, 0), (40, 1, 2, 0, 0), (9, 4, 0, 2, 1), (50, 4, 1, 0, 0), (20, 4, 2, 0, 0), (119, 4, 3, 0, 0), (24, 4, 4, 0, 0), (30, 4, 5, 0, 0), (61, 4, 6, 0, 0)]
def FX4 : Nat → Option (Nat × Nat × Nat × Nat) := fun i => FL4.lookup i
def CL4 : List (Nat × AV) := [(83, .inr (.inr 100)), (87, .inr (.inr 101)), (90, .inr (.inr 110)), (96, .inr (.inr 111)), (98, .inr (.inr 112)), (100, .inr (.inr 113)), (102, .inr (.inr 114))]
def CX4 : Nat → Option AV := fun i => CL4.lookup i
theorem FX4_79 : FX4 79 = some (1, 0, 2, 1) := rfl
theorem FX4_43 : FX4 43 = some (1, 1, 0, 0) := rfl
theorem FX4_40 : FX4 40 = some (1, 2, 0, 0) := rfl
theorem FX4_9 : FX4 9 = some (4, 0, 2, 1) := rfl
theorem FX4_50 : FX4 50 = some (4, 1, 0, 0) := rfl
theorem FX4_20 : FX4 20 = some (4, 2, 0, 0) := rfl
theorem FX4_119 : FX4 119 = some (4, 3, 0, 0) := rfl
theorem FX4_24 : FX4 24 = some (4, 4, 0, 0) := rfl
theorem FX4_30 : FX4 30 = some (4, 5, 0, 0) := rfl
theorem FX4_61 : FX4 61 = some (4, 6, 0, 0) := rfl
theorem CX4_83 : CX4 83 = some (.inr (.inr 100)) := rfl
theorem CX4_87 : CX4 87 = some (.inr (.inr 101)) := rfl
theorem CX4_90 : CX4 90 = some (.inr (.inr 110)) := rfl
theorem CX4_96 : CX4 96 = some (.inr (.inr 111)) := rfl
theorem CX4_98 : CX4 98 = some (.inr (.inr 112)) := rfl
theorem CX4_100 : CX4 100 = some (.inr (.inr 113)) := rfl
theorem CX4_102 : CX4 102 = some (.inr (.inr 114)) := rfl
def FL5 : List (Nat × Nat × Nat × Nat × Nat) := [(115, 1, 0, 2, 1), (85, 1, 1, 0, 0), (88, 1, 2, 0, 0), (91, 1, 3, 0, 0), (94, 1, 4, 0, 0), (97, 1, 5, 0, 0), (100, 1, 6, 0, 0), (78, 2, 3, 0, 0), (60, 4, 0, 2, 1), (56, 4, 1, 0, 0), (68, 4, 2, 0, 0), (71, 4, 3, 0, 0), (190, 0, 0, 2, 1), (191, 0, 1, 2, 8), (81, 0, 2, 3, 0), (207, 3, 0, 2, 1), (198, 3, 1, 0, 0), (219, 3, 2, 0, 0), (10, 5, 0, 2, 1), (16, 5, 1, 2, 8), (22, 5, 2, 2, 15), (29, 5, 3, 2, 19), (35, 5, 4, 2, 21), (41, 5, 5, 2, 46), (47, 5, 6, 2, 55), (213, 5, 7, 0, 0)]
def FX5 : Nat → Option (Nat × Nat × Nat × Nat) := fun i => FL5.lookup i
def CL5 : List (Nat × AV) := [(118, .inr (.inr 100)), (122, .inr (.inr 101)), (160, .inr (.inl (-1))), (225, .inr (.inl 10)), (189, .inl 1103515245)]
def CX5 : Nat → Option AV := fun i => CL5.lookup i
theorem FX5_115 : FX5 115 = some (1, 0, 2, 1) := rfl
theorem FX5_85 : FX5 85 = some (1, 1, 0, 0) := rfl
theorem FX5_88 : FX5 88 = some (1, 2, 0, 0) := rfl
theorem FX5_91 : FX5 91 = some (1, 3, 0, 0) := rfl
theorem FX5_94 : FX5 94 = some (1, 4, 0, 0) := rfl
theorem FX5_97 : FX5 97 = some (1, 5, 0, 0) := rfl
theorem FX5_100 : FX5 100 = some (1, 6, 0, 0) := rfl
theorem FX5_78 : FX5 78 = some (2, 3, 0, 0) := rfl
theorem FX5_60 : FX5 60 = some (4, 0, 2, 1) := rfl
theorem FX5_56 : FX5 56 = some (4, 1, 0, 0) := rfl
theorem FX5_68 : FX5 68 = some (4, 2, 0, 0) := rfl
theorem FX5_71 : FX5 71 = some (4, 3, 0, 0) := rfl
theorem FX5_190 : FX5 190 = some (0, 0, 2, 1) := rfl
theorem FX5_191 : FX5 191 = some (0, 1, 2, 8) := rfl
theorem FX5_81 : FX5 81 = some (0, 2, 3, 0) := rfl
theorem FX5_207 : FX5 207 = some (3, 0, 2, 1) := rfl
theorem FX5_198 : FX5 198 = some (3, 1, 0, 0) := rfl
theorem FX5_219 : FX5 219 = some (3, 2, 0, 0) := rfl
theorem FX5_10 : FX5 10 = some (5, 0, 2, 1) := rfl
theorem FX5_16 : FX5 16 = some (5, 1, 2, 8) := rfl
theorem FX5_22 : FX5 22 = some (5, 2, 2, 15) := rfl
theorem FX5_29 : FX5 29 = some (5, 3, 2, 19) := rfl
theorem FX5_35 : FX5 35 = some (5, 4, 2, 21) := rfl
theorem FX5_41 : FX5 41 = some (5, 5, 2, 46) := rfl
theorem FX5_47 : FX5 47 = some (5, 6, 2, 55) := rfl
theorem FX5_213 : FX5 213 = some (5, 7, 0, 0) := rfl
theorem CX5_118 : CX5 118 = some (.inr (.inr 100)) := rfl
theorem CX5_122 : CX5 122 = some (.inr (.inr 101)) := rfl
theorem CX5_160 : CX5 160 = some (.inr (.inl (-1))) := rfl
theorem CX5_225 : CX5 225 = some (.inr (.inl 10)) := rfl
theorem CX5_189 : CX5 189 = some (.inl 1103515245) := rfl
def FL6 : List (Nat × Nat × Nat × Nat × Nat) := [(7, 6, 0, 2, 1), (13, 6, 1, 2, 2), (16, 6, 2, 2, 3), (20, 6, 3, 2, 4), (53, 6, 4, 3, 0), (23, 6, 5, 2, 5), (63, 6, 6, 0, 0), (76, 6, 7, 0, 0), (70, 6, 8, 0, 0), (87, 6, 9, 0, 0), (98, 6, 10, 0, 0), (67, 6, 11, 0, 0), (73, 6, 12, 0, 0), (129, 6, 13, 0, 0), (132, 6, 14, 0, 0), (135, 6, 15, 0, 0), (138, 6, 16, 0, 0), (26, 6, 17, 2, 6), (212, 6, 18, 0, 0), (215, 6, 19, 0, 0), (238, 6, 20, 1, 0), (242, 6, 21, 1, 0), (245, 6, 22, 1, 0), (29, 6, 23, 2, 7), (32, 6, 24, 2, 8), (35, 6, 25, 2, 9), (38, 6, 26, 2, 10), (41, 6, 27, 2, 11), (283, 6, 28, 0, 0), (44, 6, 29, 2, 12)]
def FX6 : Nat → Option (Nat × Nat × Nat × Nat) := fun i => FL6.lookup i
def CL6 : List (Nat × AV) := [(57, .inr (.inl 127)), (90, .inr (.inl 97)), (92, .inr (.inl 122)), (94, .inr (.inl 48)), (96, .inr (.inl 57)), (183, .inr (.inl 6)), (185, .inr (.inl 4)), (190, .inr (.inl 99)), (141, .inl 999999), (198, .inr (.inl 100)), (203, .inr (.inl 200)), (208, .inr (.inl 3)), (210, .inr (.inl 2)), (230, .inl 1000000000), (248, .inr (.inl 10)), (250, .inr (.inl 8)), (252, .inr (.inl (-1))), (262, .inr (.inl 40)), (271, .inl 1103515245), (278, .inr (.inl 20))]
def CX6 : Nat → Option AV := fun i => CL6.lookup i
theorem FX6_7 : FX6 7 = some (6, 0, 2, 1) := rfl
theorem FX6_13 : FX6 13 = some (6, 1, 2, 2) := rfl
theorem FX6_16 : FX6 16 = some (6, 2, 2, 3) := rfl
theorem FX6_20 : FX6 20 = some (6, 3, 2, 4) := rfl
theorem FX6_53 : FX6 53 = some (6, 4, 3, 0) := rfl
theorem FX6_23 : FX6 23 = some (6, 5, 2, 5) := rfl
theorem FX6_63 : FX6 63 = some (6, 6, 0, 0) := rfl
theorem FX6_76 : FX6 76 = some (6, 7, 0, 0) := rfl
theorem FX6_70 : FX6 70 = some (6, 8, 0, 0) := rfl
theorem FX6_87 : FX6 87 = some (6, 9, 0, 0) := rfl
theorem FX6_98 : FX6 98 = some (6, 10, 0, 0) := rfl
theorem FX6_67 : FX6 67 = some (6, 11, 0, 0) := rfl
theorem FX6_73 : FX6 73 = some (6, 12, 0, 0) := rfl
theorem FX6_129 : FX6 129 = some (6, 13, 0, 0) := rfl
theorem FX6_132 : FX6 132 = some (6, 14, 0, 0) := rfl
theorem FX6_135 : FX6 135 = some (6, 15, 0, 0) := rfl
theorem FX6_138 : FX6 138 = some (6, 16, 0, 0) := rfl
theorem FX6_26 : FX6 26 = some (6, 17, 2, 6) := rfl
theorem FX6_212 : FX6 212 = some (6, 18, 0, 0) := rfl
theorem FX6_215 : FX6 215 = some (6, 19, 0, 0) := rfl
theorem FX6_238 : FX6 238 = some (6, 20, 1, 0) := rfl
theorem FX6_242 : FX6 242 = some (6, 21, 1, 0) := rfl
theorem FX6_245 : FX6 245 = some (6, 22, 1, 0) := rfl
theorem FX6_29 : FX6 29 = some (6, 23, 2, 7) := rfl
theorem FX6_32 : FX6 32 = some (6, 24, 2, 8) := rfl
theorem FX6_35 : FX6 35 = some (6, 25, 2, 9) := rfl
theorem FX6_38 : FX6 38 = some (6, 26, 2, 10) := rfl
theorem FX6_41 : FX6 41 = some (6, 27, 2, 11) := rfl
theorem FX6_283 : FX6 283 = some (6, 28, 0, 0) := rfl
theorem FX6_44 : FX6 44 = some (6, 29, 2, 12) := rfl
theorem CX6_57 : CX6 57 = some (.inr (.inl 127)) := rfl
theorem CX6_90 : CX6 90 = some (.inr (.inl 97)) := rfl
theorem CX6_92 : CX6 92 = some (.inr (.inl 122)) := rfl
theorem CX6_94 : CX6 94 = some (.inr (.inl 48)) := rfl
theorem CX6_96 : CX6 96 = some (.inr (.inl 57)) := rfl
theorem CX6_183 : CX6 183 = some (.inr (.inl 6)) := rfl
theorem CX6_185 : CX6 185 = some (.inr (.inl 4)) := rfl
theorem CX6_190 : CX6 190 = some (.inr (.inl 99)) := rfl
theorem CX6_141 : CX6 141 = some (.inl 999999) := rfl
theorem CX6_198 : CX6 198 = some (.inr (.inl 100)) := rfl
theorem CX6_203 : CX6 203 = some (.inr (.inl 200)) := rfl
theorem CX6_208 : CX6 208 = some (.inr (.inl 3)) := rfl
theorem CX6_210 : CX6 210 = some (.inr (.inl 2)) := rfl
theorem CX6_230 : CX6 230 = some (.inl 1000000000) := rfl
theorem CX6_248 : CX6 248 = some (.inr (.inl 10)) := rfl
theorem CX6_250 : CX6 250 = some (.inr (.inl 8)) := rfl
theorem CX6_252 : CX6 252 = some (.inr (.inl (-1))) := rfl
theorem CX6_262 : CX6 262 = some (.inr (.inl 40)) := rfl
theorem CX6_271 : CX6 271 = some (.inl 1103515245) := rfl
theorem CX6_278 : CX6 278 = some (.inr (.inl 20)) := rfl
end
section
/-! the steps, a row each, for simp -/
section
variable (F : Nat → Option (Nat × Nat × Nat × Nat)) (Cn : Nat → Option AV) (G : Nat → Option (Nat × Bool × TT)) (rk : Nat) (K : List AV → Mem → Prop) (go : Nat → List (Option AV) → List AV → Mem → Prop) (pc : Nat) (L : List (Option AV)) (stk : List AV) (μ : Mem) (len : Nat)
theorem stp_iconst (n : Int) : stp F Cn G rk K go pc L stk μ len (.iconst n) = (len = 1 ∧ go (pc + 1) L (.inl n :: stk) μ) := rfl
theorem stp_bipush (n : Int) : stp F Cn G rk K go pc L stk μ len (.bipush n) = (len = 2 ∧ -128 ≤ n ∧ n < 128 ∧ go (pc + 2) L (.inl n :: stk) μ) := rfl
theorem stp_sipush (n : Int) : stp F Cn G rk K go pc L stk μ len (.sipush n) = (len = 3 ∧ -32768 ≤ n ∧ n < 32768 ∧ go (pc + 3) L (.inl n :: stk) μ) := rfl
theorem stp_lconst (n : Fin 2) : stp F Cn G rk K go pc L stk μ len (.lconst n) = (len = 1 ∧ go (pc + 1) L (.inr (.inl ((n : Nat) : Int)) :: stk) μ) := rfl
theorem stp_iload_n (n : Fin 4) : stp F Cn G rk K go pc L stk μ len (.iload_n n) = (len = 1 ∧ (match lg L (n : Nat) with | some (.inl x) => go (pc + 1) L (.inl x :: stk) μ | _ => False)) := rfl
theorem stp_iload (n : Nat) : stp F Cn G rk K go pc L stk μ len (.iload n) = (len = 2 ∧ (match lg L n with | some (.inl x) => go (pc + 2) L (.inl x :: stk) μ | _ => False)) := rfl
theorem stp_lload_n (n : Fin 4) : stp F Cn G rk K go pc L stk μ len (.lload_n n) = (len = 1 ∧ (match lg L (n : Nat) with | some (.inr (.inl x)) => go (pc + 1) L (.inr (.inl x) :: stk) μ | _ => False)) := rfl
theorem stp_lload (n : Nat) : stp F Cn G rk K go pc L stk μ len (.lload n) = (len = 2 ∧ (match lg L n with | some (.inr (.inl x)) => go (pc + 2) L (.inr (.inl x) :: stk) μ | _ => False)) := rfl
theorem stp_aload_n (n : Fin 4) : stp F Cn G rk K go pc L stk μ len (.aload_n n) = (len = 1 ∧ (match lg L (n : Nat) with | some (.inr (.inr x)) => go (pc + 1) L (.inr (.inr x) :: stk) μ | _ => False)) := rfl
theorem stp_aload (n : Nat) : stp F Cn G rk K go pc L stk μ len (.aload n) = (len = 2 ∧ (match lg L n with | some (.inr (.inr x)) => go (pc + 2) L (.inr (.inr x) :: stk) μ | _ => False)) := rfl
theorem stp_istore_n (n : Fin 4) : stp F Cn G rk K go pc L stk μ len (.istore_n n) = (len = 1 ∧ (n : Nat) < L.length ∧ okl L (n : Nat) ∧ (match stk with | .inl x :: r => go (pc + 1) (lset L (n : Nat) (some (.inl x))) r μ | _ => False)) := rfl
theorem stp_istore (n : Nat) : stp F Cn G rk K go pc L stk μ len (.istore n) = (len = 2 ∧ n < L.length ∧ okl L n ∧ (match stk with | .inl x :: r => go (pc + 2) (lset L n (some (.inl x))) r μ | _ => False)) := rfl
theorem stp_lstore_n (n : Fin 4) : stp F Cn G rk K go pc L stk μ len (.lstore_n n) = (len = 1 ∧ (n : Nat) + 1 < L.length ∧ okl L (n : Nat) ∧ (match stk with | .inr (.inl x) :: r => go (pc + 1) (lset (lset L (n : Nat) (some (.inr (.inl x)))) ((n : Nat) + 1) none) r μ | _ => False)) := rfl
theorem stp_lstore (n : Nat) : stp F Cn G rk K go pc L stk μ len (.lstore n) = (len = 2 ∧ n + 1 < L.length ∧ okl L n ∧ (match stk with | .inr (.inl x) :: r => go (pc + 2) (lset (lset L n (some (.inr (.inl x)))) (n + 1) none) r μ | _ => False)) := rfl
theorem stp_astore_n (n : Fin 4) : stp F Cn G rk K go pc L stk μ len (.astore_n n) = (len = 1 ∧ (n : Nat) < L.length ∧ okl L (n : Nat) ∧ (match stk with | .inr (.inr x) :: r => go (pc + 1) (lset L (n : Nat) (some (.inr (.inr x)))) r μ | _ => False)) := rfl
theorem stp_astore (n : Nat) : stp F Cn G rk K go pc L stk μ len (.astore n) = (len = 2 ∧ n < L.length ∧ okl L n ∧ (match stk with | .inr (.inr x) :: r => go (pc + 2) (lset L n (some (.inr (.inr x)))) r μ | _ => False)) := rfl
theorem stp_iinc (n : Nat) (c : Int) : stp F Cn G rk K go pc L stk μ len (.iinc n c) = (len = 3 ∧ n < L.length ∧ okl L n ∧ (match lg L n with | some (.inl x) => go (pc + 3) (lset L n (some (.inl (x + c)))) stk μ | _ => False)) := rfl
theorem stp_iadd  : stp F Cn G rk K go pc L stk μ len .iadd = (len = 1 ∧ (match stk with | .inl b :: .inl a :: r => go (pc + 1) L (.inl (a + b) :: r) μ | _ => False)) := rfl
theorem stp_isub  : stp F Cn G rk K go pc L stk μ len .isub = (len = 1 ∧ (match stk with | .inl b :: .inl a :: r => go (pc + 1) L (.inl (a - b) :: r) μ | _ => False)) := rfl
theorem stp_imul  : stp F Cn G rk K go pc L stk μ len .imul = (len = 1 ∧ (match stk with | .inl b :: .inl a :: r => go (pc + 1) L (.inl (a * b) :: r) μ | _ => False)) := rfl
theorem stp_ineg  : stp F Cn G rk K go pc L stk μ len .ineg = (len = 1 ∧ (match stk with | .inl a :: r => go (pc + 1) L (.inl (-a) :: r) μ | _ => False)) := rfl
theorem stp_idiv  : stp F Cn G rk K go pc L stk μ len .idiv = (len = 1 ∧ (match stk with | .inl b :: .inl a :: r => (0 ≤ a ∧ a < 2147483648 ∧ 0 < b ∧ b < 2147483648) ∧ go (pc + 1) L (.inl (a / b) :: r) μ | _ => False)) := rfl
theorem stp_irem  : stp F Cn G rk K go pc L stk μ len .irem = (len = 1 ∧ (match stk with | .inl b :: .inl a :: r => (0 ≤ a ∧ a < 2147483648 ∧ 0 < b ∧ b < 2147483648) ∧ go (pc + 1) L (.inl (a % b) :: r) μ | _ => False)) := rfl
theorem stp_ladd  : stp F Cn G rk K go pc L stk μ len .ladd = (len = 1 ∧ (match stk with | .inr (.inl b) :: .inr (.inl a) :: r => go (pc + 1) L (.inr (.inl (a + b)) :: r) μ | _ => False)) := rfl
theorem stp_lmul  : stp F Cn G rk K go pc L stk μ len .lmul = (len = 1 ∧ (match stk with | .inr (.inl b) :: .inr (.inl a) :: r => go (pc + 1) L (.inr (.inl (a * b)) :: r) μ | _ => False)) := rfl
theorem stp_ldiv  : stp F Cn G rk K go pc L stk μ len .ldiv = (len = 1 ∧ (match stk with | .inr (.inl b) :: .inr (.inl a) :: r => (0 ≤ a ∧ a < 9223372036854775808 ∧ 0 < b ∧ b < 9223372036854775808) ∧ go (pc + 1) L (.inr (.inl (a / b)) :: r) μ | _ => False)) := rfl
theorem stp_lrem  : stp F Cn G rk K go pc L stk μ len .lrem = (len = 1 ∧ (match stk with | .inr (.inl b) :: .inr (.inl a) :: r => (0 ≤ a ∧ a < 9223372036854775808 ∧ 0 < b ∧ b < 9223372036854775808) ∧ go (pc + 1) L (.inr (.inl (a % b)) :: r) μ | _ => False)) := rfl
theorem stp_ishl  : stp F Cn G rk K go pc L stk μ len .ishl = (len = 1 ∧ (match stk with | .inl b :: .inl a :: r => (0 ≤ b ∧ b < 31 ∧ 0 ≤ a ∧ a * 2 ^ b.toNat < 2147483648) ∧ go (pc + 1) L (.inl (a * 2 ^ b.toNat) :: r) μ | _ => False)) := rfl
theorem stp_ishr  : stp F Cn G rk K go pc L stk μ len .ishr = (len = 1 ∧ (match stk with | .inl b :: .inl a :: r => (0 ≤ b ∧ b < 32) ∧ go (pc + 1) L (.inl ((Int.bmod a 4294967296) / 2 ^ b.toNat) :: r) μ | _ => False)) := rfl
theorem stp_iushr  : stp F Cn G rk K go pc L stk μ len .iushr = (len = 1 ∧ (match stk with | .inl b :: .inl a :: r => (0 < b ∧ b < 32) ∧ go (pc + 1) L (.inl ((a % 4294967296) / 2 ^ b.toNat) :: r) μ | _ => False)) := rfl
theorem stp_iand  : stp F Cn G rk K go pc L stk μ len .iand = (len = 1 ∧ (match stk with | .inl b :: .inl a :: r => (if b = 1 then go (pc + 1) L (.inl (a % 2) :: r) μ else if b = 32767 then go (pc + 1) L (.inl (a % 32768) :: r) μ else False) | _ => False)) := rfl
theorem stp_ior  : stp F Cn G rk K go pc L stk μ len .ior = (len = 1 ∧ (match stk with | .inl b :: .inl a :: r => (0 ≤ a ∧ a < 2147483648 ∧ 0 ≤ b ∧ b < 2147483648) ∧ go (pc + 1) L (.inl (((a.toNat ||| b.toNat : Nat)) : Int) :: r) μ | _ => False)) := rfl
theorem stp_i2l  : stp F Cn G rk K go pc L stk μ len .i2l = (len = 1 ∧ (match stk with | .inl a :: r => InR a ∧ go (pc + 1) L (.inr (.inl a) :: r) μ | _ => False)) := rfl
theorem stp_i2b  : stp F Cn G rk K go pc L stk μ len .i2b = (len = 1 ∧ (match stk with | .inl a :: r => go (pc + 1) L (.inl (Int.bmod a 256) :: r) μ | _ => False)) := rfl
theorem stp_i2s  : stp F Cn G rk K go pc L stk μ len .i2s = (len = 1 ∧ (match stk with | .inl a :: r => go (pc + 1) L (.inl (Int.bmod a 65536) :: r) μ | _ => False)) := rfl
theorem stp_lcmp  : stp F Cn G rk K go pc L stk μ len .lcmp = (len = 1 ∧ (match stk with | .inr (.inl b) :: .inr (.inl a) :: r => InL a ∧ InL b ∧ (a < b → go (pc + 1) L (.inl (-1) :: r) μ) ∧ (a = b → go (pc + 1) L (.inl 0 :: r) μ) ∧ (b < a → go (pc + 1) L (.inl 1 :: r) μ) | _ => False)) := rfl
theorem stp_dup  : stp F Cn G rk K go pc L stk μ len .dup = (len = 1 ∧ (match stk with | v :: r => c1 v ∧ go (pc + 1) L (v :: v :: r) μ | _ => False)) := rfl
theorem stp_dup2  : stp F Cn G rk K go pc L stk μ len .dup2 = (len = 1 ∧ (match stk with | v :: w :: r => c1 v ∧ c1 w ∧ go (pc + 1) L (v :: w :: v :: w :: r) μ | _ => False)) := rfl
theorem stp_pop  : stp F Cn G rk K go pc L stk μ len .pop = (len = 1 ∧ (match stk with | v :: r => c1 v ∧ go (pc + 1) L r μ | _ => False)) := rfl
theorem stp_ifCond (c : Jvm.ClassFile.Cond) (off : Int) : stp F Cn G rk K go pc L stk μ len (.ifCond c off) = (len = 3 ∧ 0 ≤ (pc : Int) + off ∧ (match stk with | .inl a :: r => InR a ∧ (cnd c a 0 → go (tg pc off) L r μ) ∧ (¬ cnd c a 0 → go (pc + 3) L r μ) | _ => False)) := rfl
theorem stp_if_icmp (c : Jvm.ClassFile.Cond) (off : Int) : stp F Cn G rk K go pc L stk μ len (.if_icmp c off) = (len = 3 ∧ 0 ≤ (pc : Int) + off ∧ (match stk with | .inl b :: .inl a :: r => InR a ∧ InR b ∧ (cnd c a b → go (tg pc off) L r μ) ∧ (¬ cnd c a b → go (pc + 3) L r μ) | _ => False)) := rfl
theorem stp_goto (off : Int) : stp F Cn G rk K go pc L stk μ len (.goto off) = (len = 3 ∧ 0 ≤ (pc : Int) + off ∧ go (tg pc off) L stk μ) := rfl
theorem stp_tableswitch (d lo hi : Int) (os : Array Int) : stp F Cn G rk K go pc L stk μ len (.tableswitch d lo hi os) = ((match stk with | .inl a :: r => InR a ∧ (os.toList.all (fun o => decide (0 ≤ (pc : Int) + o)) = true ∧ 0 ≤ (pc : Int) + d ∧ (os.size : Int) = hi - lo + 1) ∧ ((a < lo ∨ hi < a) → go (tg pc d) L r μ) ∧ swT (fun o => go (tg pc o) L r μ) a lo os.toList | _ => False)) := rfl
theorem stp_lookupswitch (d : Int) (ps : Array (Int × Int)) : stp F Cn G rk K go pc L stk μ len (.lookupswitch d ps) = ((match stk with | .inl a :: r => InR a ∧ ((ps.toList.zip (ps.toList.drop 1)).all (fun (a, next) => a.1 < next.1) = true ∧ 0 ≤ (pc : Int) + d ∧ ps.toList.all (fun o => decide (0 ≤ (pc : Int) + o.2)) = true) ∧ swL (fun o => go (tg pc o) L r μ) d a ps.toList | _ => False)) := rfl
theorem stp_ldc (i : Nat) : stp F Cn G rk K go pc L stk μ len (.ldc i) = (len = 2 ∧ (match Cn i with | some (.inl v) => go (pc + 2) L (.inl v :: stk) μ | some (.inr (.inr v)) => 110 ≤ v ∧ go (pc + 2) L (.inr (.inr v) :: stk) μ | _ => False)) := rfl
theorem stp_ldc2_w (i : Nat) : stp F Cn G rk K go pc L stk μ len (.ldc2_w i) = (len = 3 ∧ (match Cn i with | some (.inr (.inl v)) => go (pc + 3) L (.inr (.inl v) :: stk) μ | _ => False)) := rfl
theorem stp_getstatic (i : Nat) : stp F Cn G rk K go pc L stk μ len (.getstatic i) = (len = 3 ∧ (match Cn i with | some (.inr (.inr v)) => v < 110 ∧ go (pc + 3) L (.inr (.inr v) :: stk) μ | _ => False)) := rfl
theorem stp_getfield (i : Nat) : stp F Cn G rk K go pc L stk μ len (.getfield i) = (len = 3 ∧ (match stk with | .inr (.inr k) :: r => (match F i with | some (ci, j, so, off) => kd k = ci ∧ (if so = 2 then go (pc + 3) L (.inr (.inr (k + off)) :: r) μ else if so = 1 then go (pc + 3) L (.inr (.inl (rI μ k j)) :: r) μ else go (pc + 3) L (.inl (rI μ k j) :: r) μ) | _ => False) | _ => False)) := rfl
theorem stp_putfield (i : Nat) : stp F Cn G rk K go pc L stk μ len (.putfield i) = (len = 3 ∧ (match F i with | some (ci, j, so, _) => (match stk with | .inl v :: .inr (.inr k) :: r => kd k = ci ∧ (so = 0 ∨ (so = 3 ∧ (v = 0 ∨ v = 1))) ∧ go (pc + 3) L r (wI μ k j v) | .inr (.inl v) :: .inr (.inr k) :: r => kd k = ci ∧ so = 1 ∧ go (pc + 3) L r (wI μ k j v) | _ => False) | _ => False)) := rfl
theorem stp_iaload  : stp F Cn G rk K go pc L stk μ len .iaload = (len = 1 ∧ (match stk with | .inl j :: .inr (.inr k) :: r => (if kd k = 13 then inb j 5 ∧ go (pc + 1) L (.inl (stv k j.toNat) :: r) μ else kd k = 7 ∧ inb j (ln k) ∧ go (pc + 1) L (.inl (rI μ k j.toNat) :: r) μ) | _ => False)) := rfl
theorem stp_baload  : stp F Cn G rk K go pc L stk μ len .baload = (len = 1 ∧ (match stk with | .inl j :: .inr (.inr k) :: r => (kd k = 8 ∨ kd k = 9) ∧ inb j (ln k) ∧ go (pc + 1) L (.inl (rI μ k j.toNat) :: r) μ | _ => False)) := rfl
theorem stp_iastore  : stp F Cn G rk K go pc L stk μ len .iastore = (len = 1 ∧ (match stk with | .inl v :: .inl j :: .inr (.inr k) :: r => kd k = 7 ∧ inb j (ln k) ∧ go (pc + 1) L r (wI μ k j.toNat v) | _ => False)) := rfl
theorem stp_bastore  : stp F Cn G rk K go pc L stk μ len .bastore = (len = 1 ∧ (match stk with | .inl v :: .inl j :: .inr (.inr k) :: r => ((kd k = 8 ∧ -128 ≤ v ∧ v < 128) ∨ (kd k = 9 ∧ (v = 0 ∨ v = 1))) ∧ inb j (ln k) ∧ go (pc + 1) L r (wI μ k j.toNat v) | _ => False)) := rfl
theorem stp_aaload  : stp F Cn G rk K go pc L stk μ len .aaload = (len = 1 ∧ (match stk with | .inl j :: .inr (.inr k) :: r => (kd k = 12 ∨ kd k = 10 ∨ kd k = 11 ∨ kd k = 15) ∧ inb j (ln k) ∧ go (pc + 1) L (.inr (.inr (el μ k j.toNat)) :: r) μ | _ => False)) := rfl
theorem stp_aastore  : stp F Cn G rk K go pc L stk μ len .aastore = (len = 1 ∧ (match stk with | .inr (.inr v) :: .inl j :: .inr (.inr k) :: r => kd k = 12 ∧ inb j (ln k) ∧ kd v = 7 ∧ go (pc + 1) L r (wR μ k j.toNat v) | _ => False)) := rfl
theorem stp_invokevirtual (i : Nat) : stp F Cn G rk K go pc L stk μ len (.invokevirtual i) = (len = 3 ∧ (match G i with | some (n, false, T) => (match spl n stk [] with | some (a, r) => wd r ≤ 8 ∧ T a μ (fun v μ' => go (pc + 3) L (v ++ r) μ') | none => False) | _ => False)) := rfl
theorem stp_invokestatic (i : Nat) : stp F Cn G rk K go pc L stk μ len (.invokestatic i) = (len = 3 ∧ (match G i with | some (n, true, T) => (match spl n stk [] with | some (a, r) => wd r ≤ 8 ∧ T a μ (fun v μ' => go (pc + 3) L (v ++ r) μ') | none => False) | _ => False)) := rfl
theorem stp_ireturn  : stp F Cn G rk K go pc L stk μ len .ireturn = (len = 1 ∧ (match stk with | [.inl v] => (rk = 1 ∨ (rk = 2 ∧ (v = 0 ∨ v = 1))) ∧ K [.inl v] μ | _ => False)) := rfl
theorem stp_lreturn  : stp F Cn G rk K go pc L stk μ len .lreturn = (len = 1 ∧ (match stk with | [.inr (.inl v)] => rk = 3 ∧ K [.inr (.inl v)] μ | _ => False)) := rfl
theorem stp_return_  : stp F Cn G rk K go pc L stk μ len .return_ = (len = 1 ∧ (match stk with | [] => rk = 0 ∧ K [] μ | _ => False)) := rfl
end
theorem f4_0 : ((0 : Fin 4) : Nat) = 0 := rfl
theorem f4_1 : ((1 : Fin 4) : Nat) = 1 := rfl
theorem f4_2 : ((2 : Fin 4) : Nat) = 2 := rfl
theorem f4_3 : ((3 : Fin 4) : Nat) = 3 := rfl
theorem f2_0 : ((0 : Fin 2) : Nat) = 0 := rfl
theorem f2_1 : ((1 : Fin 2) : Nat) = 1 := rfl
section
variable (F : Nat → Option (Nat × Nat × Nat × Nat)) (Cn : Nat → Option AV) (G : Nat → Option (Nat × Bool × TT)) (rk : Nat) (K : List AV → Mem → Prop) (b : ByteArray) (stops : List Nat) (V : Nat → List (Option AV) → List AV → Mem → Prop) (n pc : Nat) (L : List (Option AV)) (stk : List AV) (μ : Mem)
theorem wpc_z : wpc F Cn G rk K b stops V 0 pc L stk μ = V pc L stk μ := rfl
theorem wpc_s : wpc F Cn G rk K b stops V (n + 1) pc L stk μ = (if pc ∈ stops then V pc L stk μ else match decode b pc with
    | .ok (i, len) => stp F Cn G rk K (wpc F Cn G rk K b stops V n) pc L stk μ len i
    | _ => False) := rfl
end
end
section
/-! numbers: the machine's ints as cuts of unbounded ones -/
/-- the tables' words that stay over calls -/
def gtb : List Jvm.Cond := lw_tbl.filter goodWord
theorem gtb_in : ∀ w ∈ gtb, w ∈ lw_tbl := fun w h => (List.mem_filter.mp h).1
theorem gtb_good : GoodIn gtb gtb := fun w hw => ⟨hw, good_of_word (List.mem_filter.mp hw).2⟩
theorem gtb_law : GoodIn lw_tbl gtb := fun w hw => ⟨gtb_in w hw, good_of_word (List.mem_filter.mp hw).2⟩
/-- a word of the tables by its place -/
theorem mg {w : Jvm.Cond} (i : Nat) (h : tables_1[i]? = some w) (hg : goodWord w = true) : w ∈ gtb := List.mem_filter.mpr ⟨List.mem_append_right _ (List.mem_of_getElem? h), hg⟩
/-- 'selects' of a private method -/
theorem mgs {w : Jvm.Cond} (i : Nat) (h : (k2_sels lw_privs)[i]? = some w) (hg : goodWord w = true) : w ∈ gtb := List.mem_filter.mpr ⟨List.mem_append_left _ (List.mem_of_getElem? h), hg⟩
theorem n_toI {a : Int} (h : InR a) : (Int32.ofInt a).toInt = a := Int32.toInt_ofInt_of_le (by have := h.1; omega) (by have := h.2; omega)
theorem n_toL {a : Int} (h : InL a) : (Int64.ofInt a).toInt = a := Int64.toInt_ofInt_of_le (by have := h.1; omega) (by have := h.2; omega)
theorem n_lt {a b : Int} (ha : InR a) (hb : InR b) : Int32.ofInt a < Int32.ofInt b ↔ a < b := by rw [Int32.lt_iff_toInt_lt, n_toI ha, n_toI hb]
theorem n_le {a b : Int} (ha : InR a) (hb : InR b) : Int32.ofInt a ≤ Int32.ofInt b ↔ a ≤ b := by rw [Int32.le_iff_toInt_le, n_toI ha, n_toI hb]
theorem n_eq {a b : Int} (ha : InR a) (hb : InR b) : Int32.ofInt a = Int32.ofInt b ↔ a = b := by rw [← Int32.toInt_inj, n_toI ha, n_toI hb]
theorem n_0 : (0 : Int32) = Int32.ofInt 0 := rfl
theorem InR0 : InR 0 := by unfold InR; omega
theorem n_nI {a : Int} (h : 0 ≤ a) : Int32.ofInt a = nI a.toNat := by
  unfold nI
  rw [← Int32.ofInt_eq_ofNat, Int.toNat_of_nonneg h]
theorem n_lN {a : Int} (h : 0 ≤ a) : Int64.ofInt a = lN a.toNat := by
  unfold lN
  rw [← Int64.ofInt_eq_ofNat, Int.toNat_of_nonneg h]
theorem n_nIof (n : Nat) : nI n = Int32.ofInt (n : Int) := by unfold nI; rw [Int32.ofInt_eq_ofNat]
theorem n_lNof (n : Nat) : lN n = Int64.ofInt (n : Int) := by unfold lN; rw [Int64.ofInt_eq_ofNat]
theorem n_cl {j : Int} (h : InR j) : (Int32.ofInt j).toNatClampNeg = j.toNat := by
  show (Int32.ofInt j).toInt.toNat = _
  rw [n_toI h]
theorem n_inb {j : Int} {n : Nat} (hn : n < 2147483648) (h : inb j n) : InR j := by
  unfold inb at h; unfold InR; omega
theorem n_in {j : Int} {n : Nat} (hn : n < 2147483648) (h : inb j n) : vp_in (Int32.ofInt j) n := by
  rw [vp_in_iff, n_toI (n_inb hn h)]
  exact h
theorem n_div {a b : Int} (ha : 0 ≤ a) (ha2 : a < 2147483648) (hb : 0 < b) (hb2 : b < 2147483648) : Int32.ofInt a / Int32.ofInt b = Int32.ofInt (a / b) := by
  obtain ⟨n, rfl⟩ := Int.eq_ofNat_of_zero_le ha
  obtain ⟨k, rfl⟩ := Int.eq_ofNat_of_zero_le (Int.le_of_lt hb)
  rw [← n_nIof, ← n_nIof, pk_div (by omega) (by omega) (by omega), n_nIof]
  rfl
theorem n_rem {a b : Int} (ha : 0 ≤ a) (ha2 : a < 2147483648) (hb : 0 < b) (hb2 : b < 2147483648) : Int32.ofInt a - Int32.ofInt a / Int32.ofInt b * Int32.ofInt b = Int32.ofInt (a % b) := by
  obtain ⟨n, rfl⟩ := Int.eq_ofNat_of_zero_le ha
  obtain ⟨k, rfl⟩ := Int.eq_ofNat_of_zero_le (Int.le_of_lt hb)
  rw [← n_nIof, ← n_nIof, pk_rem (by omega) (by omega) (by omega), n_nIof]
  rfl
theorem n_ldiv {a b : Int} (ha : 0 ≤ a) (ha2 : a < 9223372036854775808) (hb : 0 < b) (hb2 : b < 9223372036854775808) : Int64.ofInt a / Int64.ofInt b = Int64.ofInt (a / b) := by
  obtain ⟨n, rfl⟩ := Int.eq_ofNat_of_zero_le ha
  obtain ⟨k, rfl⟩ := Int.eq_ofNat_of_zero_le (Int.le_of_lt hb)
  rw [← n_lNof, ← n_lNof, pk_lDiv (by omega) (by omega) (by omega), n_lNof]
  rfl
theorem n_lrem {a b : Int} (ha : 0 ≤ a) (ha2 : a < 9223372036854775808) (hb : 0 < b) (hb2 : b < 9223372036854775808) : Int64.ofInt a - Int64.ofInt a / Int64.ofInt b * Int64.ofInt b = Int64.ofInt (a % b) := by
  obtain ⟨n, rfl⟩ := Int.eq_ofNat_of_zero_le ha
  obtain ⟨k, rfl⟩ := Int.eq_ofNat_of_zero_le (Int.le_of_lt hb)
  rw [← n_lNof, ← n_lNof, pk_lRem (by omega) (by omega) (by omega), n_lNof]
  rfl
theorem sh_l : ∀ n, n < 32 → ((nI n &&& 31).toBitVec.smod 32).toNat = n := by decide +kernel
theorem sh_u : ∀ n, n < 32 → (((nI n).toUInt32 &&& Int32.toUInt32 31).toBitVec % 32).toNat = n := by decide +kernel
theorem n_bits (a : Int) : (Int32.ofInt a).toBitVec.toNat = (a % 4294967296).toNat := by
  rw [Int32.toBitVec_ofInt, BitVec.toNat_ofInt]
  rfl
theorem n_shl {a b : Int} (hb : 0 ≤ b) (hb2 : b < 31) (ha : 0 ≤ a) (h : a * 2 ^ b.toNat < 2147483648) : Int32.ofInt a <<< (Int32.ofInt b &&& 31) = Int32.ofInt (a * 2 ^ b.toNat) := by
  obtain ⟨n, rfl⟩ := Int.eq_ofNat_of_zero_le ha
  obtain ⟨k, rfl⟩ := Int.eq_ofNat_of_zero_le hb
  rw [Int.toNat_natCast] at h ⊢
  have h' : n * 2 ^ k < 2147483648 := by
    have e : ((n * 2 ^ k : Nat) : Int) = (n : Int) * 2 ^ k := by
      rw [Int.natCast_mul, Int.natCast_pow]
      first | done | rfl
    omega
  rw [← n_nIof, ← n_nIof, pk_shlN _ k (sh_l k (by omega)) (by omega), n_nIof]
  congr 1
theorem n_shr {a b : Int} (hb : 0 ≤ b) (hb2 : b < 32) : Int32.ofInt a >>> (Int32.ofInt b &&& 31) = Int32.ofInt (Int.bmod a 4294967296 / 2 ^ b.toNat) := by
  obtain ⟨k, rfl⟩ := Int.eq_ofNat_of_zero_le hb
  rw [← Int32.ofInt_toInt (Int32.ofInt a >>> (Int32.ofInt (k : Int) &&& 31))]
  rw [← n_nIof, pk_shr _ _ k (sh_l k (by omega)), Int32.toInt_ofInt, Int.toNat_natCast, Int.shiftRight_eq_div_pow]
  rfl
theorem n_ushr {a b : Int} (hb : 0 < b) (hb2 : b < 32) : ((Int32.ofInt a).toUInt32 >>> ((Int32.ofInt b).toUInt32 &&& Int32.toUInt32 31)).toInt32 = Int32.ofInt ((a % 4294967296) / 2 ^ b.toNat) := by
  obtain ⟨k, rfl⟩ := Int.eq_ofNat_of_zero_le (Int.le_of_lt hb)
  apply Int32.toBitVec_inj.mp
  apply BitVec.eq_of_toNat_eq
  rw [← n_nIof, pk_ushr _ _ k (sh_u k (by omega)), n_bits, n_bits, Int.toNat_natCast]
  obtain ⟨z, hz⟩ := Int.eq_ofNat_of_zero_le (Int.emod_nonneg a (show (4294967296 : Int) ≠ 0 by omega))
  have hlt : a % 4294967296 < 4294967296 := Int.emod_lt_of_pos a (by omega)
  rw [hz, Int.toNat_natCast]
  have e : ((z : Int) / 2 ^ k) = ((z / 2 ^ k : Nat) : Int) := by rw [Int.natCast_ediv, Int.natCast_pow]; rfl
  rw [e]
  have h2 : z / 2 ^ k ≤ z := Nat.div_le_self _ _
  rw [Int.emod_eq_of_lt (Int.natCast_nonneg _) (by have := Int.ofNat_le.mpr h2; omega), Int.toNat_natCast]
theorem n_and {a : Int} {b : Int32} (k : Nat) (hk : k ≤ 31) (hb : b.toBitVec.toNat = 2 ^ k - 1) : Int32.ofInt a &&& b = Int32.ofInt (a % (2 ^ k : Nat)) := by
  rw [pk_and _ k hb, n_bits, n_nIof]
  congr 1
  have h0 := Int.emod_nonneg a (show (4294967296 : Int) ≠ 0 by omega)
  rw [Int.natCast_emod, Int.toNat_of_nonneg h0]
  refine Int.emod_emod_of_dvd a ?_
  have : (4294967296 : Int) = ((2 ^ k : Nat) : Int) * ((2 ^ (32 - k) : Nat) : Int) := by
    rw [← Int.natCast_mul, ← Nat.pow_add, show k + (32 - k) = 32 by omega]
    rfl
  rw [this]
  exact Int.dvd_mul_right _ _
theorem n_or {a b : Int} (ha : 0 ≤ a) (ha2 : a < 2147483648) (hb : 0 ≤ b) (hb2 : b < 2147483648) : Int32.ofInt a ||| Int32.ofInt b = Int32.ofInt ((a.toNat ||| b.toNat : Nat) : Int) := by
  obtain ⟨n, rfl⟩ := Int.eq_ofNat_of_zero_le ha
  obtain ⟨k, rfl⟩ := Int.eq_ofNat_of_zero_le hb
  rw [Int.toNat_natCast, Int.toNat_natCast]
  apply Int32.toBitVec_inj.mp
  apply BitVec.eq_of_toNat_eq
  have h3 : n ||| k < 2 ^ 31 := Nat.or_lt_two_pow (by omega) (by omega)
  rw [Int32.toBitVec_or, BitVec.toNat_or, n_bits, n_bits, n_bits, Int.emod_eq_of_lt (by omega) (by omega), Int.emod_eq_of_lt (by omega) (by omega), Int.emod_eq_of_lt (by omega) (by omega), Int.toNat_natCast, Int.toNat_natCast, Int.toNat_natCast]
theorem n_i2l {a : Int} (h : InR a) : (Int32.ofInt a).toInt64 = Int64.ofInt a := by
  rw [← Int64.ofInt_int32ToInt, n_toI h]
theorem n_i2b (a : Int) : (Int32.ofInt a).toInt8.toInt32 = Int32.ofInt (Int.bmod a 256) := by
  rw [Int32.toInt8_ofInt, ← Int32.ofInt_int8ToInt, Int8.toInt_ofInt]
  first | done | rfl
theorem n_i2s (a : Int) : (Int32.ofInt a).toInt16.toInt32 = Int32.ofInt (Int.bmod a 65536) := by
  rw [Int32.toInt16_ofInt, ← Int32.ofInt_int16ToInt, Int16.toInt_ofInt]
  first | done | rfl
theorem n_bi {n : Int} (h1 : -128 ≤ n) (h2 : n < 128) : (Int8.ofInt n).toInt32 = Int32.ofInt n := by
  rw [← Int32.ofInt_int8ToInt, Int8.toInt_ofInt_of_le (by omega) (by omega)]
theorem n_si {n : Int} (h1 : -32768 ≤ n) (h2 : n < 32768) : (Int16.ofInt n).toInt32 = Int32.ofInt n := by
  rw [← Int32.ofInt_int16ToInt, Int16.toInt_ofInt_of_le (by omega) (by omega)]
theorem n_nb {v : Int} (h1 : -128 ≤ v) (h2 : v < 128) : vp_nar .byte (Int32.ofInt v) = Int32.ofInt v := by
  rw [vp_nar_byte, n_i2b]
  congr 1
  rw [Int.bmod_eq_of_le] <;> omega
theorem n_nz {v : Int} (h : v = 0 ∨ v = 1) : narrow .boolean (.int (Int32.ofInt v)) = .int (Int32.ofInt v) := by
  rcases h with rfl | rfl <;> decide +kernel
theorem n_fz {v : Int} (h : v = 0 ∨ v = 1) : fits .boolean (.int (Int32.ofInt v)) = true := by
  rcases h with rfl | rfl <;> decide +kernel
theorem n_vz {v : Int} (h : v = 0 ∨ v = 1) : vp_nar .boolean (Int32.ofInt v) = Int32.ofInt v := by
  unfold vp_nar
  rw [n_nz h]
end
section
/-! THE CONTEXT of a walk, and what a walk's place means over the machine -/
/-- the rows of rows: their class, and that of what they hold -/
def II (g : Gh) (U : State) : Prop := ∃ kA kI comp, U.vm.classes[g.2.1 5]? = some kA ∧ kA.kind = .array (g.2.1 0) (.array .int) ∧ U.vm.classes[g.2.1 0]? = some kI ∧ kI.kind = .array comp .int
def skix (i : Nat) : Nat := [90, 96, 98, 100, 102].getD i 0
def stx (i : Nat) : String := ["plain", "greedy", "meek", "fair", "word"].getD i ""
def sln : List Nat := [5, 6, 4, 4, 4]
def sby : List (List Int32) := [[112, 108, 97, 105, 110], [103, 114, 101, 101, 100, 121], [109, 101, 101, 107], [102, 97, 105, 114], [119, 111, 114, 100]]
/-- the links to private members of a nest mate -/
def NS (U : State) : Prop := va_Nw (.fieldLinkNest "RingWord$Tape" 83 "RingWord" "LEAST" "[I" "RingWord") U ∧ va_Nw (.fieldLinkNest "RingWord$Tape" 87 "RingWord" "GREATEST" "[I" "RingWord") U ∧ ∀ q ∈ ([("RingWord$Tape", 111), ("RingWord$Ring", 45), ("RingWord$Sheet", 22)] : List (String × Nat)), va_Nw (.methodLinkNest q.1 q.2 ⟨"RingWord", "isOutside", "(III)Z"⟩ "RingWord") U
theorem NS.warm {s U : State} (hW : s.WarmedH U.vm) (h : NS s) : NS U := ⟨h.1.warmF hW, h.2.1.warmF hW, fun q hq => (h.2.2 q hq).warmM hW⟩
theorem NS.same {s U : State} (hv : U.vm = s.vm) (h : NS s) : NS U := ⟨va_Nw.same rfl hv.symm h.1, va_Nw.same rfl hv.symm h.2.1, fun q hq => va_Nw.same rfl hv.symm (h.2.2 q hq)⟩
/-- what never changes: the static rows, the String constants -/
def ST (g : Gh) (A : Nat → Prop) (U : State) (H : Heap) : Prop :=
  (va_Z "RingWord" "LEAST" "[I" (.ref (g.2.2 100)) A U H ∧ va_T .int (g.2.2 100) 5 (fun j => .int (Int32.ofInt (stv 100 j))) A U H) ∧
  (va_Z "RingWord" "GREATEST" "[I" (.ref (g.2.2 101)) A U H ∧ va_T .int (g.2.2 101) 5 (fun j => .int (Int32.ofInt (stv 101 j))) A U H) ∧
  II g U ∧ (∃ adV : Nat → Nat, vk_S 5 sln sby (fun i => g.2.2 (110 + i)) adV A U H) ∧ (∀ i, i < 5 → vk_R "RingWord$Tape" (skix i) (stx i) (g.2.2 (110 + i)) U) ∧
  va_Z "java/lang/String" "COMPACT_STRINGS" "Z" (.int 1) A U H ∧ va_Zq "jdk/internal/util/Preconditions" "SIOOBE_FORMATTER" "Ljava/util/function/BiFunction;" A U H ∧ NS U
theorem II.moved {g : Gh} {u U : State} (hvm : u.vm.Alike U.vm) (h : II g u) : II g U := by
  obtain ⟨kA, kI, comp, h1, h2, h3, h4⟩ := h
  obtain ⟨kA', g1, g2⟩ := hvm.2.2 _ _ h1
  obtain ⟨kI', g3, g4⟩ := hvm.2.2 _ _ h3
  exact ⟨kA', kI', comp, g1, by rw [g2]; exact h2, g3, by rw [g4]; exact h4⟩
theorem ST.warm {g : Gh} {A : Nat → Prop} {u U : State} {H : Heap} (hW : u.WarmedH U.vm) (h : ST g A u H) : ST g A U H := by
  obtain ⟨⟨a1, a2⟩, ⟨b1, b2⟩, c1, ⟨adV, d1⟩, e1, f1, f2, n1⟩ := h
  have hvm := hW.alike
  exact ⟨⟨a1.moved hvm, a2.moved hvm⟩, ⟨b1.moved hvm, b2.moved hvm⟩, c1.moved hvm, ⟨adV, d1.moved hvm⟩, fun i hi => (e1 i hi).warm hW, f1.moved hvm, f2.moved hvm, n1.warm hW⟩
theorem ST.same {g : Gh} {A : Nat → Prop} {u U : State} {H : Heap} (hv : U.vm = u.vm) (h : ST g A u H) : ST g A U H := by
  obtain ⟨⟨a1, a2⟩, ⟨b1, b2⟩, c1, ⟨adV, d1⟩, e1, f1, f2, n1⟩ := h
  have hvm : u.vm.Alike U.vm := by rw [hv]; exact Vm.Alike.refl _
  exact ⟨⟨a1.moved hvm, a2.moved hvm⟩, ⟨b1.moved hvm, b2.moved hvm⟩, c1.moved hvm, ⟨adV, d1.moved hvm⟩, fun i hi => (e1 i hi).same hv, f1.moved hvm, f2.moved hvm, n1.same hv⟩
theorem ST.kept {g : Gh} {A : Nat → Prop} {U : State} {H H1 : Heap} (h : ST g A U H) (hq : ∀ a : Nat, a < H.size → ¬ A a → H1[a]? = H[a]?) : ST g A U H1 := by
  obtain ⟨⟨a1, a2⟩, ⟨b1, b2⟩, c1, ⟨adV, d1⟩, e1, f1, f2, n1⟩ := h
  exact ⟨⟨a1.kept hq, a2.kept hq⟩, ⟨b1.kept hq, b2.kept hq⟩, c1, ⟨adV, d1.kept hq⟩, e1, f1.kept hq, f2.kept hq, n1⟩
theorem ST.narrow {g : Gh} {A B : Nat → Prop} {U : State} {H : Heap} (h : ST g A U H) (hAB : ∀ q, B q → A q) : ST g B U H := by
  obtain ⟨⟨a1, a2⟩, ⟨b1, b2⟩, c1, ⟨adV, d1⟩, e1, f1, f2, n1⟩ := h
  exact ⟨⟨a1.narrow hAB, a2.narrow hAB⟩, ⟨b1.narrow hAB, b2.narrow hAB⟩, c1, ⟨adV, d1.narrow hAB⟩, e1, f1.narrow hAB, f2.narrow hAB, n1⟩
def Inj (g : Gh) : Prop := ∀ i j, i < 79 → j < 79 → g.2.2 i = g.2.2 j → i = j
/-- what holds all along a walk -/
def CF (p : Program) (R : Room) (s : State) (m : MethodId) (args : Array Value) (c : Code) (cc : ByteArray) (nL : Nat) (own : String) (g : Gh) (A : Nat → Prop) (cells slots d : Nat) : Prop :=
  CallFix p m c cc nL s args gtb own ∧ va_K g.1 vwCl (tysG g) s ∧ Inj g ∧ ST g A s s.heap ∧ (∀ q, inW g q → A q) ∧ cells ≤ R.cells ∧ slots ≤ R.slots ∧ d ≤ R.frames ∧ 36 * d ≤ R.locals
/-- what a place of a walk means -/
def VV (p : Program) (l : Launch) (e : Env) (R : Room) (s : State) (m : MethodId) (args : Array Value) (below : List Frame) (meth : Method) (c : Code) (nL : Nat) (g : Gh) (A : Nat → Prop) (cells slots : Nat) (Q : State → Prop) (pc : Nat) (L : List (Option AV)) (stk : List AV) (μ : Mem) : Prop :=
  L.length = nL → ∀ (H : Heap) (locs : List Loc) (ls : Array Slot), va_P g.1 vwCl (wl g μ) H → va_S A s.heap H locs → lv_has ls nL (lvs g.2.2 L) → W p l e R s m args below meth c H locs cells slots Q (F0 m pc ls (stk.map (cv g.2.2)))
theorem wl_D {g : Gh} (hi : Inj g) {A : Nat → Prop} (hA : ∀ q, inW g q → A q) (μ : Mem) : va_D A (wl g μ) := by
  have key : ∀ (i : Nat) (p : Nat × va_E), (wl g μ)[i]? = some p → i < 79 ∧ p.1 = g.2.2 i := by
    intro i p h
    have hlt : i < 79 := by
      have := (List.getElem?_eq_some_iff.mp h).1
      rw [wl_len] at this
      exact this
    rw [wl_get g μ hlt] at h
    cases h
    exact ⟨hlt, rfl⟩
  refine ⟨fun i j p q h1 h2 e => ?_, fun k q h => ?_⟩
  · obtain ⟨a1, a2⟩ := key i p h1
    obtain ⟨b1, b2⟩ := key j q h2
    exact hi i j a1 b1 (by rw [← a2, ← b2, e])
  · obtain ⟨a1, a2⟩ := key k q h
    exact hA _ ⟨k, a1, a2⟩
/-- a field that a class' code names by a place of its pool -/
def FOK (own : String) (i : Nat) (q : Nat × Nat × Nat × Nat) : Prop := ∃ (C : String) (T : u_T) (N : Nat) (ty0 : Nat → FieldType), vwCl[q.1]? = some (C, T, N) ∧ q.1 < 7 ∧ q.2.1 < N ∧ (∀ w ∈ u_ws C T N, w ∈ gtb) ∧ (∀ k, k < N → parseFieldDescriptor (T k).2.2.1 = some (ty0 k)) ∧ (∀ a, a < N → ∀ b, b < N → a ≠ b → (T a).2.1 ≠ (T b).2.1) ∧ Jvm.Cond.fieldLink own i (T q.2.1).1 (T q.2.1).2.1 (T q.2.1).2.2.1 ∈ gtb ∧ (fsp q.1)[q.2.1]? = some (q.2.2.1, q.2.2.2) ∧ (q.2.2.1 ≠ 2 → (T q.2.1).2.2.2 = false ∧ parseFieldDescriptor (T q.2.1).2.2.1 = some (if q.2.2.1 = 1 then .long else if q.2.2.1 = 0 then .int else .boolean) ∧ q.2.2.1 < 4)
/-- a constant, a static row, a String that a class' code names by a place of its pool -/
def COK (own : String) (i : Nat) (v : AV) : Prop := match v with
  | .inl x => Jvm.Cond.constant own i (Int32.ofInt x) ∈ gtb
  | .inr (.inl x) => Jvm.Cond.constantLong own i (Int64.ofInt x) ∈ gtb
  | .inr (.inr k) => (k = 100 ∧ (Jvm.Cond.fieldLink own i "RingWord" "LEAST" "[I" ∈ gtb ∨ (own = "RingWord$Tape" ∧ i = 83))) ∨ (k = 101 ∧ (Jvm.Cond.fieldLink own i "RingWord" "GREATEST" "[I" ∈ gtb ∨ (own = "RingWord$Tape" ∧ i = 87))) ∨ (∃ j, j < 5 ∧ k = 110 + j ∧ own = "RingWord$Tape" ∧ i = skix j)
/-- a call that a class' code makes by a place of its pool -/
def CallOK (l : Launch) (d : Nat) (own : String) (i n : Nat) (st : Bool) (T : TT) : Prop := ∀ ⦃p : Program⦄ ⦃e : Env⦄ ⦃R : Room⦄ ⦃s : State⦄ ⦃m : MethodId⦄ ⦃args : Array Value⦄ ⦃below : List Frame⦄ ⦃meth : Method⦄ ⦃c : Code⦄ ⦃cc : ByteArray⦄ ⦃nL : Nat⦄ ⦃g : Gh⦄ ⦃A : Nat → Prop⦄ ⦃cells slots : Nat⦄ ⦃Q : State → Prop⦄,
  CF p R s m args c cc nL own g A cells slots d → ∀ (pc : Nat) (L : List (Option AV)) (as rest : List AV) (μ : Mem) (K : List AV → Mem → Prop), as.length = n → wd rest ≤ 8 → decode cc pc = .ok ((if st = true then .invokestatic i else .invokevirtual i), 3) → T as μ K →
    (∀ (r : List AV) (μ' : Mem), K r μ' → VV p l e R s m args below meth c nL g A cells slots Q (pc + 3) L (r ++ rest) μ') → VV p l e R s m args below meth c nL g A cells slots Q pc L (as.reverse ++ rest) μ
end
section
/-! EACH STEP over the machine -/
theorem lvl {ad : Nat → Nat} {ls : Array Slot} {nL : Nat} {L : List (Option AV)} (hv : lv_has ls nL (lvs ad L)) {i : Nat} {v : AV} (h : lg L i = some v) : ls[i]? = some (.val (cv ad v)) := hv.2.2 (i, cv ad v) (lvs_mem.mpr ⟨v, h, rfl⟩)
theorem ln_lt (k : Nat) : ln k < 2147483648 := by
  by_cases h : k < 79
  · have : ∀ k, k < 79 → ln k < 2147483648 := by decide +kernel
    exact this k h
  · unfold ln
    rw [List.getD_eq_getElem?_getD, List.getElem?_eq_none (by show 79 ≤ k; omega)]
    simp
theorem kd13 {k : Nat} (h : kd k = 13) : k = 100 ∨ k = 101 := by
  unfold kd at h
  by_cases q : k < 79
  · rw [if_pos q] at h
    have : ∀ k, k < 79 → kdL.getD k 99 ≠ 13 := by decide +kernel
    exact absurd h (this k q)
  · rw [if_neg q] at h
    split at h
    · assumption
    · cases h
theorem pic_obj (g : Gh) (μ : Mem) {k ci : Nat} (h : kd k = ci) (h7 : ci < 7) : pic g μ k = .inr (ci, flds g.2.2 μ k 0 (fsp ci)) := by
  unfold pic
  rw [h, if_pos h7]
theorem pic_7 (g : Gh) (μ : Mem) {k : Nat} (h : kd k = 7) : pic g μ k = .inl (g.2.1 0, ln k, .inl (iarr μ k)) := by simp [pic, h]
theorem pic_8 (g : Gh) (μ : Mem) {k : Nat} (h : kd k = 8) : pic g μ k = .inl (g.2.1 1, ln k, .inl (iarr μ k)) := by simp [pic, h]
theorem pic_9 (g : Gh) (μ : Mem) {k : Nat} (h : kd k = 9) : pic g μ k = .inl (g.2.1 2, ln k, .inl (iarr μ k)) := by simp [pic, h]
theorem pic_10 (g : Gh) (μ : Mem) {k : Nat} (h : kd k = 10) : pic g μ k = .inl (g.2.1 3, ln k, .inr (.inr (.inr (.inr (rarr g.2.2 μ k))))) := by simp [pic, h]
theorem pic_11 (g : Gh) (μ : Mem) {k : Nat} (h : kd k = 11) : pic g μ k = .inl (g.2.1 4, ln k, .inr (.inr (.inr (.inr (rarr g.2.2 μ k))))) := by simp [pic, h]
theorem pic_12 (g : Gh) (μ : Mem) {k : Nat} (h : kd k = 12 ∨ kd k = 15) : pic g μ k = .inl (g.2.1 5, ln k, .inr (.inr (.inr (.inr (rarr g.2.2 μ k))))) := by
  rcases h with h | h <;> simp [pic, h]
theorem spl_ok : ∀ (n : Nat) (stk acc a r : List AV), spl n stk acc = some (a, r) → acc.reverse ++ stk = a.reverse ++ r ∧ a.length = acc.length + n
  | 0, stk, acc, a, r, h => by
    simp only [spl, Option.some.injEq, Prod.mk.injEq] at h
    obtain ⟨rfl, rfl⟩ := h
    exact ⟨rfl, by omega⟩
  | n + 1, [], acc, a, r, h => by simp [spl] at h
  | n + 1, v :: s, acc, a, r, h => by
    simp only [spl] at h
    obtain ⟨h1, h2⟩ := spl_ok n s (v :: acc) a r h
    refine ⟨?_, by simp at h2; omega⟩
    rw [← h1]
    simp
theorem swT_ok {go : Int → Prop} {x : Int} : ∀ (os : List Int) (lo : Int), swT go x lo os → ∀ (i : Nat) (o : Int), os[i]? = some o → x = lo + i → go o
  | [], lo, _, i, o, h, _ => by simp at h
  | q :: r, lo, hs, 0, o, h, e => by
    simp at h
    subst h
    exact hs.1 (by omega)
  | q :: r, lo, hs, i + 1, o, h, e => by
    rw [List.getElem?_cons_succ] at h
    exact swT_ok r (lo + 1) hs.2 i o h (by omega)
theorem swL_ok {go : Int → Prop} {d x : Int} : ∀ (ps : List (Int × Int)), swL go d x ps → go (Op.lookupswitch.offset ps d x)
  | [], h => h
  | (a, o) :: r, h => by
    rw [Op.lookupswitch.offset_cons]
    by_cases e : a = x
    · rw [if_pos e]; exact h.1 e.symm
    · rw [if_neg e]; exact swL_ok r (h.2 (fun z => e z.symm))
theorem sw_in {ps : List (Int × Int)} {d x : Int} {P : Int → Prop} (hd : P d) (h : ∀ q ∈ ps, P q.2) : P (Op.lookupswitch.offset ps d x) := by
  induction ps with
  | nil => exact hd
  | cons q r ih =>
    obtain ⟨a, o⟩ := q
    rw [Op.lookupswitch.offset_cons]
    by_cases e : a = x
    · rw [if_pos e]; exact h (a, o) List.mem_cons_self
    · rw [if_neg e]; exact ih (fun q hq => h q (List.mem_cons_of_mem _ hq))
theorem tg_ok {pc : Nat} {off : Int} (h : 0 ≤ (pc : Int) + off) : (pc : Int) + off = ((tg pc off : Nat) : Int) := (Int.toNat_of_nonneg h).symm
theorem c1_ok {ad : Nat → Nat} {v : AV} (h : c1 v) : (cv ad v).category = 1 := by
  rcases v with x | x | k
  · rfl
  · exact h.elim
  · rfl
theorem wd_ok (ad : Nat → Nat) : ∀ (r : List AV), ((r.map (cv ad)).map fun v => v.category).sum = wd r
  | [] => rfl
  | .inl x :: r => by rw [List.map_cons, List.map_cons, List.sum_cons, wd_ok ad r]; rfl
  | .inr (.inl x) :: r => by rw [List.map_cons, List.map_cons, List.sum_cons, wd_ok ad r]; rfl
  | .inr (.inr x) :: r => by rw [List.map_cons, List.map_cons, List.sum_cons, wd_ok ad r]; rfl
section
variable {p : Program} {l : Launch} {e : Env} {R : Room} {s : State} {m : MethodId} {args : Array Value} {below : List Frame} {meth : Method} {c : Code} {H : Heap} {locs : List Loc} {cells slots : Nat} {Q : State → Prop}
variable {cc : ByteArray} {pc : Nat} {ls : Array Slot} {rest : List Value} {D : va_G} {cl : List vw_C} {A : Nat → Prop} {a : Nat} {tys : List (ClassId × FieldType)} {ws : va_W} {H0 : Heap}
theorem va_aldA (hexec : p.tables.exec = Jvm.exec) (hb : c.code = cc) (hK : va_K D cl tys s) (hP : va_P D cl ws H) (q0 t0 : Nat) {cA : ClassId} {n : Nat} {f : Nat → Option Nat} (ha : ws[q0]? = some (a, .inl (cA, n, .inr (.inr (.inr (.inr f)))))) (ht : tys[t0]? = some (cA, .array .int)) {i : Int32} (hin : vp_in i n) (hdg : decode cc pc = .ok (.aaload, 1))
    (kk : W p l e R s m args below meth c H locs cells slots Q (F0 m (pc + 1) ls (va_rf (f i.toNatClampNeg) :: rest))) : W p l e R s m args below meth c H locs cells slots Q (F0 m pc ls (.int i :: .ref a :: rest)) := by
  have hlt : i.toNatClampNeg < n := Nat.not_le.mp fun q => hin (Or.inr q)
  exact W.aald (v := va_rf (f i.toNatClampNeg)) (ty := .array .int) hexec hb (hP q0 _ ha) ((hK.2 t0 _ ht).1 n (fun j => va_rf (f j))) rfl (fun q => by cases q) (by show ¬ (i < 0 ∨ (arrV _ _ _).slots.size ≤ _); rw [arrV_size]; exact hin) (by show (arrV _ _ _).slots[_]? = _; rw [arrV_read _ _ hlt]) rfl rfl hdg kk
theorem va_asgA (vm : Vm) (x : ClassId) : vm.assignable x x = true := by
  have h : ∀ n, vm.assignableAux (n + 1) x x = true := fun n => by simp only [Vm.assignableAux, beq_self_eq_true, Bool.true_or]
  exact h 255
theorem va_astA {g : Gh} (hI : II g s) (hexec : p.tables.exec = Jvm.exec) (hb : c.code = cc) (hP : va_P D cl ws H) (hD : va_D A ws) (hS : va_S A H0 H locs) (q0 qk : Nat) {n v n2 : Nat} {f2 : Nat → Int32} {f : Nat → Option Nat} (ha : ws[q0]? = some (a, .inl (g.2.1 5, n, .inr (.inr (.inr (.inr f)))))) (hv : ws[qk]? = some (v, .inl (g.2.1 0, n2, .inl f2))) {i : Int32} (hin : vp_in i n) (hdg : decode cc pc = .ok (.aastore, 1))
    (kk : ∀ (H1 : Heap) (locs1 : List Loc), va_P D cl (ws.set q0 (a, .inl (g.2.1 5, n, .inr (.inr (.inr (.inr (va_up f i.toNatClampNeg (some v)))))))) H1 → va_D A (ws.set q0 (a, .inl (g.2.1 5, n, .inr (.inr (.inr (.inr (va_up f i.toNatClampNeg (some v)))))))) → va_S A H0 H1 locs1 → W p l e R s m args below meth c H1 locs1 cells slots Q (F0 m (pc + 1) ls rest)) : W p l e R s m args below meth c H locs cells slots Q (F0 m pc ls (.ref v :: .int i :: .ref a :: rest)) := by
  have hlt : i.toNatClampNeg < n := Nat.not_le.mp fun q => hin (Or.inr q)
  have h0 : ¬ i < 0 := fun q => hin (Or.inl q)
  obtain ⟨kA, kI, comp, k1, k2, k3, k4⟩ := hI
  have hvc := hP qk _ hv
  refine W.aast hexec hb (hP q0 _ ha) (fun q h => by cases h) (fun h => by cases h) k1 k2 rfl k3 ⟨h0, by show _ < (arrV _ _ _).slots.size; rw [arrV_size]; exact hlt⟩ hvc (fun q h => by cases h) k3 (va_asgA _ _) rfl rfl hdg fun H1 e z oq => ?_
  refine kk H1 _ (hP.set hD ha ?_ oq) (hD.set ha) (hS.put z oq (hD.2 q0 _ ha))
  show H1[a]? = some (vp_cell _ _)
  rw [e]
  rw [vp_cell_q, vp_cell_q, arrV_store]
  congr 2
  funext q
  by_cases hq : q = i.toNatClampNeg
  · subst hq
    simp [updV, va_up, va_rf]
  · simp [updV, va_up, hq]
end
end
section
section
variable {p : Program} {l : Launch} {e : Env} {R : Room} {s : State} {m : MethodId} {args : Array Value} {below : List Frame} {meth : Method} {c : Code} {cells slots : Nat} {Q : State → Prop}
variable {cc : ByteArray} {A : Nat → Prop} {g : Gh} {nL d : Nat} {own : String}
variable {F : Nat → Option (Nat × Nat × Nat × Nat)} {Cn : Nat → Option AV} {G : Nat → Option (Nat × Bool × TT)} {rk : Nat} {K : List AV → Mem → Prop} {go : Nat → List (Option AV) → List AV → Mem → Prop}
variable {pc : Nat} {L : List (Option AV)} {stk : List AV} {μ : Mem} {len : Nat}
/-- getfield -/
theorem s_get (C : CF p R s m args c cc nL own g A cells slots d) (hF : ∀ i q, F i = some q → FOK own i q) (hgo : ∀ pc L stk μ, go pc L stk μ → VV p l e R s m args below meth c nL g A cells slots Q pc L stk μ) {i : Nat} (hd : decode cc pc = .ok (.getfield i, len)) (h : stp F Cn G rk K go pc L stk μ len (.getfield i)) : VV p l e R s m args below meth c nL g A cells slots Q pc L stk μ := by
  intro hl H locs ls hP hS hv
  obtain ⟨⟨hx, hb, hml, hown, hts⟩, hK, hi, hST, hA, hc1, hc2, hd1, hd2⟩ := C
  obtain ⟨rfl, h⟩ := h
  split at h
  · rename_i k r
    split at h
    · rename_i ci j so off hq
      obtain ⟨hk, h⟩ := h
      obtain ⟨CC, T, N, ty0, f1, f2, f3, f4, f5, f6, f7, f8, f9⟩ := hF _ _ hq
      dsimp only at f1 f2 f3 f7 f8 f9
      have hk79 : k < 79 := kd_lt hk (by omega) (by omega)
      have he := wl_get g μ hk79
      rw [pic_obj g μ hk f2] at he
      have hfl := flds_get g.2.2 μ k (fsp ci) 0 j
      rw [f8, Nat.zero_add] at hfl
      refine va_get hx hb hts f4 hown hK hP k he f1 j f3 (hts _ f7) (fun _ z => z) hfl hd ?_
      dsimp only [fval]
      by_cases e2 : so = 2
      · rw [if_pos e2] at h
        rw [if_pos e2]
        exact hgo _ _ _ _ h hl H locs ls hP hS hv
      · rw [if_neg e2] at h
        rw [if_neg e2]
        by_cases e1 : so = 1
        · rw [if_pos e1] at h
          rw [if_pos e1]
          exact hgo _ _ _ _ h hl H locs ls hP hS hv
        · rw [if_neg e1] at h
          rw [if_neg e1]
          exact hgo _ _ _ _ h hl H locs ls hP hS hv
    · exact h.elim
  · exact h.elim
/-- putfield -/
theorem s_put (C : CF p R s m args c cc nL own g A cells slots d) (hF : ∀ i q, F i = some q → FOK own i q) (hgo : ∀ pc L stk μ, go pc L stk μ → VV p l e R s m args below meth c nL g A cells slots Q pc L stk μ) {i : Nat} (hd : decode cc pc = .ok (.putfield i, len)) (h : stp F Cn G rk K go pc L stk μ len (.putfield i)) : VV p l e R s m args below meth c nL g A cells slots Q pc L stk μ := by
  intro hl H locs ls hP hS hv
  obtain ⟨⟨hx, hb, hml, hown, hts⟩, hK, hi, hST, hA, hc1, hc2, hd1, hd2⟩ := C
  have hD := wl_D hi hA μ
  obtain ⟨rfl, h⟩ := h
  split at h
  · rename_i ci j so off hq
    obtain ⟨CC, T, N, ty0, f1, f2, f3, f4, f5, f6, f7, f8, f9⟩ := hF _ _ hq
    dsimp only at f1 f2 f3 f7 f8 f9
    have key : ∀ (k : Nat) (x : Int) (r : List AV), kd k = ci → so ≠ 2 → narrow (if so = 1 then .long else if so = 0 then .int else .boolean) (if so = 1 then .long (Int64.ofInt x) else .int (Int32.ofInt x)) = (if so = 1 then .long (Int64.ofInt x) else .int (Int32.ofInt x)) → fits (if so = 1 then .long else if so = 0 then .int else .boolean) (if so = 1 then .long (Int64.ofInt x) else .int (Int32.ofInt x)) = true → go (pc + 3) L r (wI μ k j x) → W p l e R s m args below meth c H locs cells slots Q (F0 m pc ls ((if so = 1 then .long (Int64.ofInt x) else .int (Int32.ofInt x)) :: .ref (g.2.2 k) :: r.map (cv g.2.2))) := by
      intro k x r hk hso hn hft h
      have hk79 : k < 79 := kd_lt hk (by omega) (by omega)
      have he := wl_get g μ hk79
      rw [pic_obj g μ hk f2] at he
      obtain ⟨g1, g2, g3⟩ := f9 hso
      refine va_put hx hb hts f4 ty0 f5 f6 hown hK hP hD hS k he f1 j f3 (hts _ f7) (fun _ z => z) g1 g2 hn hft (by rw [flds_len]; exact (List.getElem?_eq_some_iff.mp f8).1) hd (fun H1 locs1 hP1 hD1 hS1 => ?_)
      rw [flds_set g.2.2 μ k (fsp ci) j x f8 hso, wl_set g μ (wI μ k j x) (pic_obj g _ hk f2).symm (fun j' hj' => pic_wI_ne g μ _ _ hj')] at hP1
      exact hgo _ _ _ _ h hl H1 locs1 ls hP1 hS1 hv
    split at h
    · rename_i x k r
      obtain ⟨hk, hso, h⟩ := h
      have h1 : so ≠ 1 := by rcases hso with z | z <;> omega
      have := key k x r hk (by rcases hso with z | z <;> omega) (by
        rw [if_neg h1, if_neg h1]
        rcases hso with z | ⟨z, z2⟩
        · rw [if_pos z]; rfl
        · rw [if_neg (by omega)]; exact n_nz z2) (by
        rw [if_neg h1, if_neg h1]
        rcases hso with z | ⟨z, z2⟩
        · rw [if_pos z]; rfl
        · rw [if_neg (by omega)]; exact n_fz z2) h
      rw [if_neg h1] at this
      exact this
    · rename_i x k r
      obtain ⟨hk, hso, h⟩ := h
      have := key k x r hk (by omega) (by rw [if_pos hso, if_pos hso]; rfl) (by rw [if_pos hso, if_pos hso]; rfl) h
      rw [if_pos hso] at this
      exact this
    · exact h.elim
  · exact h.elim
/-- rows -/
theorem s_arr (C : CF p R s m args c cc nL own g A cells slots d) (hgo : ∀ pc L stk μ, go pc L stk μ → VV p l e R s m args below meth c nL g A cells slots Q pc L stk μ) {i : Instr} (hi' : i = .iaload ∨ i = .baload ∨ i = .iastore ∨ i = .bastore ∨ i = .aaload ∨ i = .aastore) (hd : decode cc pc = .ok (i, len)) (h : stp F Cn G rk K go pc L stk μ len i) : VV p l e R s m args below meth c nL g A cells slots Q pc L stk μ := by
  intro hl H locs ls hP hS hv
  obtain ⟨⟨hx, hb, hml, hown, hts⟩, hK, hi, hST, hA, hc1, hc2, hd1, hd2⟩ := C
  have hD := wl_D hi hA μ
  rcases hi' with rfl | rfl | rfl | rfl | rfl | rfl
  · obtain ⟨rfl, h⟩ := h
    split at h
    · rename_i j k r
      by_cases h13 : kd k = 13
      · rw [if_pos h13] at h
        obtain ⟨h1, h2⟩ := h
        have hin := n_in (by omega) h1
        have hcl := n_cl (n_inb (by omega) h1)
        rcases kd13 h13 with rfl | rfl
        · exact va_ti hx hb hST.1.2 hS hin (by rw [hcl]; rfl) hd (hgo _ _ _ _ h2 hl H locs ls hP hS hv)
        · exact va_ti hx hb hST.2.1.2 hS hin (by rw [hcl]; rfl) hd (hgo _ _ _ _ h2 hl H locs ls hP hS hv)
      · rw [if_neg h13] at h
        obtain ⟨h0, h1, h2⟩ := h
        have he := wl_get g μ (kd_lt h0 (by omega) (by omega))
        rw [pic_7 g μ h0] at he
        refine va_iald hx hb hK hP k 0 he rfl (n_in (ln_lt k) h1) hd ?_
        rw [n_cl (n_inb (ln_lt k) h1)]
        exact hgo _ _ _ _ h2 hl H locs ls hP hS hv
    · exact h.elim
  · obtain ⟨rfl, h⟩ := h
    split at h
    · rename_i j k r
      obtain ⟨h0, h1, h2⟩ := h
      rcases h0 with h0 | h0
      · have he := wl_get g μ (kd_lt h0 (by omega) (by omega))
        rw [pic_8 g μ h0] at he
        refine va_bald hx hb hK hP k 1 he rfl (n_in (ln_lt k) h1) hd ?_
        rw [n_cl (n_inb (ln_lt k) h1)]
        exact hgo _ _ _ _ h2 hl H locs ls hP hS hv
      · have he := wl_get g μ (kd_lt h0 (by omega) (by omega))
        rw [pic_9 g μ h0] at he
        refine va_zald hx hb hK hP k 2 he rfl (n_in (ln_lt k) h1) hd ?_
        rw [n_cl (n_inb (ln_lt k) h1)]
        exact hgo _ _ _ _ h2 hl H locs ls hP hS hv
    · exact h.elim
  · obtain ⟨rfl, h⟩ := h
    split at h
    · rename_i x j k r
      obtain ⟨h0, h1, h2⟩ := h
      have he := wl_get g μ (kd_lt h0 (by omega) (by omega))
      rw [pic_7 g μ h0] at he
      refine va_iast hx hb hK hP hD hS k 0 he rfl (n_in (ln_lt k) h1) hd (fun H1 locs1 hP1 hD1 hS1 => ?_)
      rw [n_cl (n_inb (ln_lt k) h1), ← iarr_upd, wl_set g μ (wI μ k j.toNat x) (pic_7 g _ h0).symm (fun j' hj' => pic_wI_ne g μ _ _ hj')] at hP1
      exact hgo _ _ _ _ h2 hl H1 locs1 ls hP1 hS1 hv
    · exact h.elim
  · obtain ⟨rfl, h⟩ := h
    split at h
    · rename_i x j k r
      obtain ⟨h0, h1, h2⟩ := h
      rcases h0 with ⟨h0, x1, x2⟩ | ⟨h0, x1⟩
      · have he := wl_get g μ (kd_lt h0 (by omega) (by omega))
        rw [pic_8 g μ h0] at he
        refine va_bast hx hb hK hP hD hS k 1 he rfl (n_in (ln_lt k) h1) hd (fun H1 locs1 hP1 hD1 hS1 => ?_)
        rw [n_nb x1 x2, n_cl (n_inb (ln_lt k) h1), ← iarr_upd, wl_set g μ (wI μ k j.toNat x) (pic_8 g _ h0).symm (fun j' hj' => pic_wI_ne g μ _ _ hj')] at hP1
        exact hgo _ _ _ _ h2 hl H1 locs1 ls hP1 hS1 hv
      · have he := wl_get g μ (kd_lt h0 (by omega) (by omega))
        rw [pic_9 g μ h0] at he
        refine va_zast hx hb hK hP hD hS k 2 he rfl (n_in (ln_lt k) h1) hd (fun H1 locs1 hP1 hD1 hS1 => ?_)
        rw [n_vz x1, n_cl (n_inb (ln_lt k) h1), ← iarr_upd, wl_set g μ (wI μ k j.toNat x) (pic_9 g _ h0).symm (fun j' hj' => pic_wI_ne g μ _ _ hj')] at hP1
        exact hgo _ _ _ _ h2 hl H1 locs1 ls hP1 hS1 hv
    · exact h.elim
  · obtain ⟨rfl, h⟩ := h
    split at h
    · rename_i j k r
      obtain ⟨h0, h1, h2⟩ := h
      have hin := n_in (ln_lt k) h1
      have hcl := n_cl (n_inb (ln_lt k) h1)
      have hk79 : k < 79 := by rcases h0 with h0 | h0 | h0 | h0 <;> exact kd_lt h0 (by omega) (by omega)
      have he := wl_get g μ hk79
      have fin : W p l e R s m args below meth c H locs cells slots Q (F0 m (pc + 1) ls (va_rf (rarr g.2.2 μ k (Int32.ofInt j).toNatClampNeg) :: r.map (cv g.2.2))) := by
        rw [hcl]
        exact hgo _ _ _ _ h2 hl H locs ls hP hS hv
      rcases h0 with h0 | h0 | h0 | h0
      · rw [pic_12 g μ (Or.inl h0)] at he
        exact va_aldA hx hb hK hP k 5 he rfl hin hd fin
      · rw [pic_10 g μ h0] at he
        exact va_aldq hx hb hK hP k 3 he rfl hin hd fin
      · rw [pic_11 g μ h0] at he
        exact va_aldq hx hb hK hP k 4 he rfl hin hd fin
      · rw [pic_12 g μ (Or.inr h0)] at he
        exact va_aldA hx hb hK hP k 5 he rfl hin hd fin
    · exact h.elim
  · obtain ⟨rfl, h⟩ := h
    split at h
    · rename_i v j k r
      obtain ⟨h0, h1, h3, h2⟩ := h
      have he := wl_get g μ (kd_lt h0 (by omega) (by omega))
      have hv2 := wl_get g μ (kd_lt h3 (by omega) (by omega))
      rw [pic_12 g μ (Or.inl h0)] at he
      rw [pic_7 g μ h3] at hv2
      refine va_astA hST.2.2.1 hx hb hP hD hS k v he hv2 (n_in (ln_lt k) h1) hd (fun H1 locs1 hP1 hD1 hS1 => ?_)
      have e1 : va_up (rarr g.2.2 μ k) j.toNat (some (g.2.2 v)) = rarr g.2.2 (wR μ k j.toNat v) k := by
        funext q
        simp only [va_up, rarr, el, if_pos h0, rR_wR]
        by_cases hq : q = j.toNat <;> simp [hq]
      rw [n_cl (n_inb (ln_lt k) h1), e1, wl_set g μ (wR μ k j.toNat v) (pic_12 g _ (Or.inl h0)).symm (fun j' hj' => pic_wR_ne g μ _ _ hj')] at hP1
      exact hgo _ _ _ _ h2 hl H1 locs1 ls hP1 hS1 hv
    · exact h.elim
end
end
section
section
variable {p : Program} {l : Launch} {e : Env} {R : Room} {s : State} {m : MethodId} {args : Array Value} {below : List Frame} {meth : Method} {c : Code} {cells slots : Nat} {Q : State → Prop}
variable {cc : ByteArray} {A : Nat → Prop} {g : Gh} {nL d : Nat} {own : String}
variable {F : Nat → Option (Nat × Nat × Nat × Nat)} {Cn : Nat → Option AV} {G : Nat → Option (Nat × Bool × TT)} {rk : Nat} {K : List AV → Mem → Prop} {go : Nat → List (Option AV) → List AV → Mem → Prop}
variable {pc : Nat} {L : List (Option AV)} {stk : List AV} {μ : Mem} {len : Nat}
theorem s_if (C : CF p R s m args c cc nL own g A cells slots d) (hgo : ∀ pc L stk μ, go pc L stk μ → VV p l e R s m args below meth c nL g A cells slots Q pc L stk μ) {cn : Jvm.ClassFile.Cond} {off : Int} (hd : decode cc pc = .ok (.ifCond cn off, len)) (h : stp F Cn G rk K go pc L stk μ len (.ifCond cn off)) : VV p l e R s m args below meth c nL g A cells slots Q pc L stk μ := by
  intro hl H locs ls hP hS hv
  obtain ⟨⟨hx, hb, hml, hown, hts⟩, hK, hi, hST, hA, hc1, hc2, hd1, hd2⟩ := C
  obtain ⟨rfl, ho, h⟩ := h
  split at h
  · rename_i a r
    obtain ⟨ha, h1, h2⟩ := h
    have k1 : cnd cn a 0 → W p l e R s m args below meth c H locs cells slots Q (F0 m (tg pc off) ls (r.map (cv g.2.2))) := fun z => hgo _ _ _ _ (h1 z) hl H locs ls hP hS hv
    have k2 : ¬ cnd cn a 0 → W p l e R s m args below meth c H locs cells slots Q (F0 m (pc + 3) ls (r.map (cv g.2.2))) := fun z => hgo _ _ _ _ (h2 z) hl H locs ls hP hS hv
    have ht := tg_ok ho
    have e1 := n_eq ha InR0
    have e2 := n_lt ha InR0
    have e3 := n_lt InR0 ha
    have e4 := n_le ha InR0
    have e5 := n_le InR0 ha
    cases cn with
    | eq => exact lv_if_eq hx hb hd ht (fun z => k1 (e1.mp z)) (fun z => k2 (fun q => z (e1.mpr q)))
    | ne => exact lv_if_ne hx hb hd ht (fun z => k1 (fun q => z (e1.mpr q))) (fun z => k2 (fun q => q (e1.mp z)))
    | lt => exact lv_if_lt hx hb hd ht (fun z => k1 (e2.mp z)) (fun z => k2 (fun q => z (e2.mpr q)))
    | ge => exact lv_if_ge hx hb hd ht (fun z => k1 (e5.mp z)) (fun z => k2 (fun q => z (e5.mpr q)))
    | gt => exact lv_if_gt hx hb hd ht (fun z => k1 (e3.mp z)) (fun z => k2 (fun q => z (e3.mpr q)))
    | le => exact lv_if_le hx hb hd ht (fun z => k1 (e4.mp z)) (fun z => k2 (fun q => z (e4.mpr q)))
  · exact h.elim
theorem s_icmp (C : CF p R s m args c cc nL own g A cells slots d) (hgo : ∀ pc L stk μ, go pc L stk μ → VV p l e R s m args below meth c nL g A cells slots Q pc L stk μ) {cn : Jvm.ClassFile.Cond} {off : Int} (hd : decode cc pc = .ok (.if_icmp cn off, len)) (h : stp F Cn G rk K go pc L stk μ len (.if_icmp cn off)) : VV p l e R s m args below meth c nL g A cells slots Q pc L stk μ := by
  intro hl H locs ls hP hS hv
  obtain ⟨⟨hx, hb, hml, hown, hts⟩, hK, hi, hST, hA, hc1, hc2, hd1, hd2⟩ := C
  obtain ⟨rfl, ho, h⟩ := h
  split at h
  · rename_i b a r
    obtain ⟨ha, hb', h1, h2⟩ := h
    have k1 : cnd cn a b → W p l e R s m args below meth c H locs cells slots Q (F0 m (tg pc off) ls (r.map (cv g.2.2))) := fun z => hgo _ _ _ _ (h1 z) hl H locs ls hP hS hv
    have k2 : ¬ cnd cn a b → W p l e R s m args below meth c H locs cells slots Q (F0 m (pc + 3) ls (r.map (cv g.2.2))) := fun z => hgo _ _ _ _ (h2 z) hl H locs ls hP hS hv
    have ht := tg_ok ho
    have e1 := n_eq ha hb'
    have e2 := n_lt ha hb'
    have e3 := n_lt hb' ha
    have e4 := n_le ha hb'
    have e5 := n_le hb' ha
    cases cn with
    | eq => exact lv_icmp_eq hx hb hd ht (fun z => k1 (e1.mp z)) (fun z => k2 (fun q => z (e1.mpr q)))
    | ne => exact lv_icmp_ne hx hb hd ht (fun z => k1 (fun q => z (e1.mpr q))) (fun z => k2 (fun q => q (e1.mp z)))
    | lt => exact lv_icmp_lt hx hb hd ht (fun z => k1 (e2.mp z)) (fun z => k2 (fun q => z (e2.mpr q)))
    | ge => exact lv_icmp_ge hx hb hd ht (fun z => k1 (e5.mp z)) (fun z => k2 (fun q => z (e5.mpr q)))
    | gt => exact lv_icmp_gt hx hb hd ht (fun z => k1 (e3.mp z)) (fun z => k2 (fun q => z (e3.mpr q)))
    | le => exact lv_icmp_le hx hb hd ht (fun z => k1 (e4.mp z)) (fun z => k2 (fun q => z (e4.mpr q)))
  · exact h.elim
theorem s_sw (C : CF p R s m args c cc nL own g A cells slots d) (hgo : ∀ pc L stk μ, go pc L stk μ → VV p l e R s m args below meth c nL g A cells slots Q pc L stk μ) {df lo hi : Int} {os : Array Int} (hd : decode cc pc = .ok (.tableswitch df lo hi os, len)) (h : stp F Cn G rk K go pc L stk μ len (.tableswitch df lo hi os)) : VV p l e R s m args below meth c nL g A cells slots Q pc L stk μ := by
  intro hl H locs ls hP hS hv
  obtain ⟨⟨hx, hb, hml, hown, hts⟩, hK, hij, hST, hA, hc1, hc2, hd1, hd2⟩ := C
  rw [stp_tableswitch] at h
  split at h
  · rename_i a r
    obtain ⟨ha, ⟨h1, h2, h3⟩, h4, h5⟩ := h
    by_cases ho : a < lo ∨ hi < a
    · exact lv_tableOut hx hb hd (by rw [n_toI ha]; exact ho) (tg_ok h2) (hgo _ _ _ _ (h4 ho) hl H locs ls hP hS hv)
    · have hlt : (a - lo).toNat < os.size := by omega
      have hget : os.toList[(a - lo).toNat]? = some os[(a - lo).toNat] := by rw [Array.getElem?_toList]; exact Array.getElem?_eq_getElem hlt
      have hmem : os[(a - lo).toNat] ∈ os.toList := List.mem_of_getElem? hget
      have h0 : 0 ≤ (pc : Int) + os[(a - lo).toNat] := of_decide_eq_true (List.all_eq_true.mp h1 _ hmem)
      exact lv_tableIn hx hb hd (by rw [n_toI ha]; omega) (by rw [n_toI ha]; omega) (by rw [n_toI ha]; exact Array.getElem?_eq_getElem hlt) (tg_ok h0) (hgo _ _ _ _ (swT_ok _ _ h5 _ _ hget (by omega)) hl H locs ls hP hS hv)
  · exact h.elim
theorem s_lsw (C : CF p R s m args c cc nL own g A cells slots d) (hgo : ∀ pc L stk μ, go pc L stk μ → VV p l e R s m args below meth c nL g A cells slots Q pc L stk μ) {df : Int} {ps : Array (Int × Int)} (hd : decode cc pc = .ok (.lookupswitch df ps, len)) (h : stp F Cn G rk K go pc L stk μ len (.lookupswitch df ps)) : VV p l e R s m args below meth c nL g A cells slots Q pc L stk μ := by
  intro hl H locs ls hP hS hv
  obtain ⟨⟨hx, hb, hml, hown, hts⟩, hK, hi, hST, hA, hc1, hc2, hd1, hd2⟩ := C
  rw [stp_lookupswitch] at h
  split at h
  · rename_i a r
    obtain ⟨ha, ⟨h1, h2, h3⟩, h4⟩ := h
    have h0 : 0 ≤ (pc : Int) + Op.lookupswitch.offset ps.toList df a := sw_in (P := fun o => 0 ≤ (pc : Int) + o) h2 (fun q hq => of_decide_eq_true (List.all_eq_true.mp h3 q hq))
    exact lv_lookup hx hb hd h1 (by rw [n_toI ha]) (tg_ok h0) (hgo _ _ _ _ (swL_ok _ h4) hl H locs ls hP hS hv)
  · exact h.elim
theorem s_cst (C : CF p R s m args c cc nL own g A cells slots d) (hC : ∀ i v, Cn i = some v → COK own i v) (hgo : ∀ pc L stk μ, go pc L stk μ → VV p l e R s m args below meth c nL g A cells slots Q pc L stk μ) {i : Instr} {ix : Nat} (hi' : i = .ldc ix ∨ i = .ldc2_w ix ∨ i = .getstatic ix) (hd : decode cc pc = .ok (i, len)) (h : stp F Cn G rk K go pc L stk μ len i) : VV p l e R s m args below meth c nL g A cells slots Q pc L stk μ := by
  intro hl H locs ls hP hS hv
  obtain ⟨⟨hx, hb, hml, hown, hts⟩, hK, hi, hST, hA, hc1, hc2, hd1, hd2⟩ := C
  rcases hi' with rfl | rfl | rfl
  · obtain ⟨rfl, h⟩ := h
    split at h
    · rename_i x hq
      exact lv_ldc hx hb hown (hts _ (hC _ _ hq)) hd (hgo _ _ _ _ h hl H locs ls hP hS hv)
    · rename_i k hq
      obtain ⟨hk, h⟩ := h
      rcases hC _ _ hq with ⟨e, z⟩ | ⟨e, z⟩ | ⟨j, hj, rfl, rfl, rfl⟩
      · omega
      · omega
      · exact va_ldcS hx hb hown (hST.2.2.2.2.1 j hj) hd (hgo _ _ _ _ h hl H locs ls hP hS hv)
    · exact h.elim
  · obtain ⟨rfl, h⟩ := h
    split at h
    · rename_i x hq
      exact lv_ldc2 hx hb hown (hts _ (hC _ _ hq)) hd (hgo _ _ _ _ h hl H locs ls hP hS hv)
    · exact h.elim
  · obtain ⟨rfl, h⟩ := h
    split at h
    · rename_i k hq
      obtain ⟨hk, h⟩ := h
      have fin : ∀ kk, k = kk → W p l e R s m args below meth c H locs cells slots Q (F0 m (pc + 3) ls (.ref (g.2.2 kk) :: stk.map (cv g.2.2))) := fun kk e => by subst e; exact hgo _ _ _ _ h hl H locs ls hP hS hv
      rcases hC _ _ hq with ⟨e, z⟩ | ⟨e, z⟩ | ⟨j, hj, e, rfl, rfl⟩
      · rcases z with z | z
        · exact va_gets hx hb hST.1.1 hS hown (hts _ z) (fun _ w => w) hd (fin _ e)
        · obtain ⟨rfl, rfl⟩ := z
          exact va_getsN hx hb hST.1.1 hS hown (va_Nw.use rfl hST.2.2.2.2.2.2.2.1) (fun _ w => w) hd (fin _ e)
      · rcases z with z | z
        · exact va_gets hx hb hST.2.1.1 hS hown (hts _ z) (fun _ w => w) hd (fin _ e)
        · obtain ⟨rfl, rfl⟩ := z
          exact va_getsN hx hb hST.2.1.1 hS hown (va_Nw.use rfl hST.2.2.2.2.2.2.2.2.1) (fun _ w => w) hd (fin _ e)
      · omega
    · exact h.elim
end
end
section
section
variable {p : Program} {l : Launch} {e : Env} {R : Room} {s : State} {m : MethodId} {args : Array Value} {below : List Frame} {meth : Method} {c : Code} {cells slots : Nat} {Q : State → Prop}
variable {cc : ByteArray} {A : Nat → Prop} {g : Gh} {nL d : Nat} {own : String}
variable {F : Nat → Option (Nat × Nat × Nat × Nat)} {Cn : Nat → Option AV} {G : Nat → Option (Nat × Bool × TT)} {rk : Nat} {K : List AV → Mem → Prop} {go : Nat → List (Option AV) → List AV → Mem → Prop}
variable {pc : Nat} {L : List (Option AV)} {stk : List AV} {μ : Mem} {len : Nat}
theorem s_loc (C : CF p R s m args c cc nL own g A cells slots d) (hgo : ∀ pc L stk μ, go pc L stk μ → VV p l e R s m args below meth c nL g A cells slots Q pc L stk μ) {i : Instr} (hd : decode cc pc = .ok (i, len)) (h : stp F Cn G rk K go pc L stk μ len i) (hi' : (∃ n, i = .iload_n n ∨ i = .lload_n n ∨ i = .aload_n n ∨ i = .istore_n n ∨ i = .lstore_n n ∨ i = .astore_n n) ∨ (∃ n, i = .iload n ∨ i = .lload n ∨ i = .aload n ∨ i = .istore n ∨ i = .lstore n ∨ i = .astore n) ∨ ∃ n k, i = .iinc n k) : VV p l e R s m args below meth c nL g A cells slots Q pc L stk μ := by
  intro hl H locs ls hP hS hv
  obtain ⟨⟨hx, hb, hml, hown, hts⟩, hK, hi, hST, hA, hc1, hc2, hd1, hd2⟩ := C
  have st1 : ∀ {i : Nat} {v : AV} {L' : List (Option AV)} {pc' : Nat} {r : List AV}, okl L i → L' = lset L i (some v) → go pc' L' r μ → ∀ ls', lv_has ls' nL ((i, cv g.2.2 v) :: (lvs g.2.2 L).filter (fun q => !(q.1 == i) && !(q.1 + 1 == i && q.2.category == 2))) → W p l e R s m args below meth c H locs cells slots Q (F0 m pc' ls' (r.map (cv g.2.2))) := by
    intro i v L' pc' r h2 e h ls' h'
    subst e
    exact hgo _ _ _ _ h (by rw [lset_len]; exact hl) H locs ls' hP hS (lv_mono h' (lvs_store h2))
  have st2 : ∀ {i : Nat} {v : AV} {pc' : Nat} {r : List AV}, okl L i → go pc' (lset (lset L i (some v)) (i + 1) none) r μ → ∀ ls', lv_has ls' nL ((i, cv g.2.2 v) :: (lvs g.2.2 L).filter (fun q => !(q.1 == i) && (!(q.1 == i + 1) && !(q.1 + 1 == i && q.2.category == 2)))) → W p l e R s m args below meth c H locs cells slots Q (F0 m pc' ls' (r.map (cv g.2.2))) := by
    intro i v pc' r h2 h ls' h'
    exact hgo _ _ _ _ h (by rw [lset_len, lset_len]; exact hl) H locs ls' hP hS (lv_mono h' (lvs_store2 h2))
  rcases hi' with ⟨n, rfl | rfl | rfl | rfl | rfl | rfl⟩ | ⟨n, rfl | rfl | rfl | rfl | rfl | rfl⟩ | ⟨n, k, rfl⟩
  · obtain ⟨rfl, h⟩ := h
    split at h
    · rename_i x hq
      exact lv_iload_n hx hb hd rfl (lvl hv hq) (hgo _ _ _ _ h hl H locs ls hP hS hv)
    · exact h.elim
  · obtain ⟨rfl, h⟩ := h
    split at h
    · rename_i x hq
      exact lv_lload_n hx hb hd rfl (lvl hv hq) (hgo _ _ _ _ h hl H locs ls hP hS hv)
    · exact h.elim
  · obtain ⟨rfl, h⟩ := h
    split at h
    · rename_i x hq
      exact lv_aload_n hx hb hd rfl (lvl hv hq) (hgo _ _ _ _ h hl H locs ls hP hS hv)
    · exact h.elim
  · obtain ⟨rfl, h1, h2, h⟩ := h
    split at h
    · exact lv_istore_n hx hb hd rfl hv (by rw [← hl]; exact h1) rfl (st1 h2 rfl h)
    · exact h.elim
  · obtain ⟨rfl, h1, h2, h⟩ := h
    split at h
    · exact lv_lstore_n hx hb hd rfl hv (by rw [← hl]; exact h1) rfl (st2 h2 h)
    · exact h.elim
  · obtain ⟨rfl, h1, h2, h⟩ := h
    split at h
    · exact lv_astore_n hx hb hd rfl hv (by rw [← hl]; exact h1) rfl (st1 h2 rfl h)
    · exact h.elim
  · obtain ⟨rfl, h⟩ := h
    split at h
    · rename_i x hq
      exact lv_iload hx hb hd (lvl hv hq) (hgo _ _ _ _ h hl H locs ls hP hS hv)
    · exact h.elim
  · obtain ⟨rfl, h⟩ := h
    split at h
    · rename_i x hq
      exact lv_lload hx hb hd (lvl hv hq) (hgo _ _ _ _ h hl H locs ls hP hS hv)
    · exact h.elim
  · obtain ⟨rfl, h⟩ := h
    split at h
    · rename_i x hq
      exact lv_aload hx hb hd (lvl hv hq) (hgo _ _ _ _ h hl H locs ls hP hS hv)
    · exact h.elim
  · obtain ⟨rfl, h1, h2, h⟩ := h
    split at h
    · exact lv_istore hx hb hd hv (by rw [← hl]; exact h1) rfl (st1 h2 rfl h)
    · exact h.elim
  · obtain ⟨rfl, h1, h2, h⟩ := h
    split at h
    · exact lv_lstore hx hb hd hv (by rw [← hl]; exact h1) rfl (st2 h2 h)
    · exact h.elim
  · obtain ⟨rfl, h1, h2, h⟩ := h
    split at h
    · exact lv_astore hx hb hd hv (by rw [← hl]; exact h1) rfl (st1 h2 rfl h)
    · exact h.elim
  · obtain ⟨rfl, h1, h2, h⟩ := h
    split at h
    · rename_i x hq
      obtain ⟨k', hk'⟩ := List.getElem?_of_mem (lvs_mem.mpr ⟨_, hq, rfl⟩ : (n, cv g.2.2 (.inl x)) ∈ lvs g.2.2 L)
      exact lv_iinc hx hb hd hv hk' (by rw [← Int32.ofInt_add]) (by rw [← hl]; exact h1) rfl (st1 h2 rfl h)
    · exact h.elim
/-- all steps but returns and calls -/
theorem s_op (C : CF p R s m args c cc nL own g A cells slots d) (hgo : ∀ pc L stk μ, go pc L stk μ → VV p l e R s m args below meth c nL g A cells slots Q pc L stk μ) {i : Instr} (hd : decode cc pc = .ok (i, len)) (h : stp F Cn G rk K go pc L stk μ len i) (hi' : (∃ n, i = .iconst n ∨ i = .bipush n ∨ i = .sipush n) ∨ (∃ n, i = .lconst n) ∨ (∃ off, i = .goto off) ∨ i = .iadd ∨ i = .isub ∨ i = .imul ∨ i = .ineg ∨ i = .idiv ∨ i = .irem ∨ i = .ladd ∨ i = .lmul ∨ i = .ldiv ∨ i = .lrem ∨ i = .ishl ∨ i = .ishr ∨ i = .iushr ∨ i = .iand ∨ i = .ior ∨ i = .i2l ∨ i = .i2b ∨ i = .i2s ∨ i = .lcmp ∨ i = .dup ∨ i = .dup2 ∨ i = .pop) : VV p l e R s m args below meth c nL g A cells slots Q pc L stk μ := by
  intro hl H locs ls hP hS hv
  obtain ⟨⟨hx, hb, hml, hown, hts⟩, hK, hi, hST, hA, hc1, hc2, hd1, hd2⟩ := C
  have fin : ∀ {pc' : Nat} {st' : List AV}, go pc' L st' μ → W p l e R s m args below meth c H locs cells slots Q (F0 m pc' ls (st'.map (cv g.2.2))) := fun h => hgo _ _ _ _ h hl H locs ls hP hS hv
  rcases hi' with ⟨n, rfl | rfl | rfl⟩ | ⟨n, rfl⟩ | ⟨off, rfl⟩ | rfl | rfl | rfl | rfl | rfl | rfl | rfl | rfl | rfl | rfl | rfl | rfl | rfl | rfl | rfl | rfl | rfl | rfl | rfl | rfl | rfl | rfl
  · obtain ⟨rfl, h⟩ := h
    exact lv_iconst hx hb hd rfl (fin h)
  · obtain ⟨rfl, h1, h2, h⟩ := h
    exact lv_bipush hx hb hd (n_bi h1 h2) (fin h)
  · obtain ⟨rfl, h1, h2, h⟩ := h
    exact lv_sipush hx hb hd (n_si h1 h2) (fin h)
  · obtain ⟨rfl, h⟩ := h
    exact lv_lconst hx hb hd (by rw [← Int64.ofInt_eq_ofNat]) (fin h)
  · obtain ⟨rfl, ho, h⟩ := h
    exact lv_goto hx hb hd (tg_ok ho) (fin h)
  · obtain ⟨rfl, h⟩ := h
    split at h
    · refine lv_iadd hx hb hd ?_
      rw [← Int32.ofInt_add]
      exact fin h
    · exact h.elim
  · obtain ⟨rfl, h⟩ := h
    split at h
    · refine lv_isub hx hb hd ?_
      rw [← Int32.ofInt_sub]
      exact fin h
    · exact h.elim
  · obtain ⟨rfl, h⟩ := h
    split at h
    · refine lv_imul hx hb hd ?_
      rw [← Int32.ofInt_mul]
      exact fin h
    · exact h.elim
  · obtain ⟨rfl, h⟩ := h
    split at h
    · refine lv_ineg hx hb hd ?_
      rw [← Int32.ofInt_neg]
      exact fin h
    · exact h.elim
  · obtain ⟨rfl, h⟩ := h
    split at h
    · obtain ⟨⟨h1, h2, h3, h4⟩, h⟩ := h
      refine lv_idiv hx hb hd (by rw [n_0, n_eq ⟨by omega, by omega⟩ InR0]; omega) ?_
      rw [n_div h1 h2 h3 h4]
      exact fin h
    · exact h.elim
  · obtain ⟨rfl, h⟩ := h
    split at h
    · obtain ⟨⟨h1, h2, h3, h4⟩, h⟩ := h
      refine lv_irem hx hb hd (by rw [n_0, n_eq ⟨by omega, by omega⟩ InR0]; omega) ?_
      rw [n_rem h1 h2 h3 h4]
      exact fin h
    · exact h.elim
  · obtain ⟨rfl, h⟩ := h
    split at h
    · refine lv_ladd hx hb hd ?_
      rw [← Int64.ofInt_add]
      exact fin h
    · exact h.elim
  · obtain ⟨rfl, h⟩ := h
    split at h
    · refine lv_lmul hx hb hd ?_
      rw [← Int64.ofInt_mul]
      exact fin h
    · exact h.elim
  · obtain ⟨rfl, h⟩ := h
    split at h
    · obtain ⟨⟨h1, h2, h3, h4⟩, h⟩ := h
      refine lv_ldiv hx hb hd (fun z => ?_) ?_
      · have := congrArg Int64.toInt z
        rw [n_toL ⟨by omega, by omega⟩] at this
        have e0 : (0 : Int64).toInt = 0 := by decide
        omega
      rw [n_ldiv h1 h2 h3 h4]
      exact fin h
    · exact h.elim
  · obtain ⟨rfl, h⟩ := h
    split at h
    · obtain ⟨⟨h1, h2, h3, h4⟩, h⟩ := h
      refine lv_lrem hx hb hd (fun z => ?_) ?_
      · have := congrArg Int64.toInt z
        rw [n_toL ⟨by omega, by omega⟩] at this
        have e0 : (0 : Int64).toInt = 0 := by decide
        omega
      rw [n_lrem h1 h2 h3 h4]
      exact fin h
    · exact h.elim
  · obtain ⟨rfl, h⟩ := h
    split at h
    · obtain ⟨⟨h1, h2, h3, h4⟩, h⟩ := h
      refine lv_ishl hx hb hd ?_
      rw [n_shl h1 h2 h3 h4]
      exact fin h
    · exact h.elim
  · obtain ⟨rfl, h⟩ := h
    split at h
    · obtain ⟨⟨h1, h2⟩, h⟩ := h
      refine lv_ishr hx hb hd ?_
      rw [n_shr h1 h2]
      exact fin h
    · exact h.elim
  · obtain ⟨rfl, h⟩ := h
    split at h
    · obtain ⟨⟨h1, h2⟩, h⟩ := h
      exact lv_iushr hx hb hd (n_ushr h1 h2) (fin h)
    · exact h.elim
  · obtain ⟨rfl, h⟩ := h
    split at h
    · rename_i b a r
      refine lv_iand hx hb hd ?_
      by_cases e1 : b = 1
      · rw [if_pos e1] at h
        subst e1
        rw [n_and 1 (by omega) (by decide)]
        exact fin h
      · rw [if_neg e1] at h
        by_cases e2 : b = 32767
        · rw [if_pos e2] at h
          subst e2
          rw [n_and 15 (by omega) (by decide)]
          exact fin h
        · rw [if_neg e2] at h
          exact h.elim
    · exact h.elim
  · obtain ⟨rfl, h⟩ := h
    split at h
    · obtain ⟨⟨h1, h2, h3, h4⟩, h⟩ := h
      refine lv_ior hx hb hd ?_
      rw [n_or h1 h2 h3 h4]
      exact fin h
    · exact h.elim
  · obtain ⟨rfl, h⟩ := h
    split at h
    · obtain ⟨h1, h⟩ := h
      exact lv_i2l hx hb hd (n_i2l h1) (fin h)
    · exact h.elim
  · obtain ⟨rfl, h⟩ := h
    split at h
    · exact lv_i2b hx hb hd (n_i2b _) (fin h)
    · exact h.elim
  · obtain ⟨rfl, h⟩ := h
    split at h
    · exact lv_i2s hx hb hd (n_i2s _) (fin h)
    · exact h.elim
  · obtain ⟨rfl, h⟩ := h
    split at h
    · rename_i b a r
      obtain ⟨h1, h2, h3, h4, h5⟩ := h
      refine W.lcmp hx hb hd ?_
      have q1 := n_toL h1
      have q2 := n_toL h2
      have lt1 : Int64.ofInt b < Int64.ofInt a ↔ b < a := by rw [Int64.lt_iff_toInt_lt, q1, q2]
      have eq1 : Int64.ofInt a = Int64.ofInt b ↔ a = b := by rw [← Int64.toInt_inj, q1, q2]
      unfold lg_cmp
      by_cases e1 : b < a
      · rw [if_pos (lt1.mpr e1)]
        exact fin (h5 e1)
      · rw [if_neg (fun z => e1 (lt1.mp z))]
        by_cases e2 : a = b
        · rw [if_pos (eq1.mpr e2)]
          exact fin (h4 e2)
        · rw [if_neg (fun z => e2 (eq1.mp z))]
          exact fin (h3 (by omega))
    · exact h.elim
  · obtain ⟨rfl, h⟩ := h
    split at h
    · exact lv_dup hx hb hd (c1_ok h.1) (fin h.2)
    · exact h.elim
  · obtain ⟨rfl, h⟩ := h
    split at h
    · exact lv_dup2_11 hx hb hd (c1_ok h.1) (c1_ok h.2.1) (fin h.2.2)
    · exact h.elim
  · obtain ⟨rfl, h⟩ := h
    split at h
    · exact lv_pop hx hb hd (c1_ok h.1) (fin h.2)
    · exact h.elim
end
end
section
section
variable {p : Program} {l : Launch} {e : Env} {R : Room} {s : State} {m : MethodId} {args : Array Value} {below : List Frame} {meth : Method} {c : Code} {cells slots : Nat} {Q : State → Prop}
variable {cc : ByteArray} {A : Nat → Prop} {g : Gh} {nL d : Nat} {own : String}
variable {F : Nat → Option (Nat × Nat × Nat × Nat)} {Cn : Nat → Option AV} {G : Nat → Option (Nat × Bool × TT)} {rk : Nat} {K : List AV → Mem → Prop}
theorem stp_sound {go : Nat → List (Option AV) → List AV → Mem → Prop} {pc : Nat} {L : List (Option AV)} {stk : List AV} {μ : Mem} {len : Nat} (C : CF p R s m args c cc nL own g A cells slots d) (hF : ∀ i q, F i = some q → FOK own i q) (hC : ∀ i v, Cn i = some v → COK own i v) (hG : ∀ i n b T, G i = some (n, b, T) → CallOK l d own i n b T)
    (hret : ∀ (go : Nat → List (Option AV) → List AV → Mem → Prop) pc L stk μ len i, (i = .ireturn ∨ i = .lreturn ∨ i = .return_) → decode cc pc = .ok (i, len) → stp F Cn G rk K go pc L stk μ len i → VV p l e R s m args below meth c nL g A cells slots Q pc L stk μ)
    (hgo : ∀ pc L stk μ, go pc L stk μ → VV p l e R s m args below meth c nL g A cells slots Q pc L stk μ) {i : Instr} (hd : decode cc pc = .ok (i, len)) (h : stp F Cn G rk K go pc L stk μ len i) : VV p l e R s m args below meth c nL g A cells slots Q pc L stk μ := by
  cases i with
  | iconst n => exact s_op C hgo hd h (by simp)
  | bipush n => exact s_op C hgo hd h (by simp)
  | sipush n => exact s_op C hgo hd h (by simp)
  | lconst n => exact s_op C hgo hd h (by simp)
  | goto off => exact s_op C hgo hd h (by simp)
  | iadd => exact s_op C hgo hd h (by simp)
  | isub => exact s_op C hgo hd h (by simp)
  | imul => exact s_op C hgo hd h (by simp)
  | ineg => exact s_op C hgo hd h (by simp)
  | idiv => exact s_op C hgo hd h (by simp)
  | irem => exact s_op C hgo hd h (by simp)
  | ladd => exact s_op C hgo hd h (by simp)
  | lmul => exact s_op C hgo hd h (by simp)
  | ldiv => exact s_op C hgo hd h (by simp)
  | lrem => exact s_op C hgo hd h (by simp)
  | ishl => exact s_op C hgo hd h (by simp)
  | ishr => exact s_op C hgo hd h (by simp)
  | iushr => exact s_op C hgo hd h (by simp)
  | iand => exact s_op C hgo hd h (by simp)
  | ior => exact s_op C hgo hd h (by simp)
  | i2l => exact s_op C hgo hd h (by simp)
  | i2b => exact s_op C hgo hd h (by simp)
  | i2s => exact s_op C hgo hd h (by simp)
  | lcmp => exact s_op C hgo hd h (by simp)
  | dup => exact s_op C hgo hd h (by simp)
  | dup2 => exact s_op C hgo hd h (by simp)
  | pop => exact s_op C hgo hd h (by simp)
  | iload_n n => exact s_loc C hgo hd h (by simp)
  | lload_n n => exact s_loc C hgo hd h (by simp)
  | aload_n n => exact s_loc C hgo hd h (by simp)
  | istore_n n => exact s_loc C hgo hd h (by simp)
  | lstore_n n => exact s_loc C hgo hd h (by simp)
  | astore_n n => exact s_loc C hgo hd h (by simp)
  | iload n => exact s_loc C hgo hd h (by simp)
  | lload n => exact s_loc C hgo hd h (by simp)
  | aload n => exact s_loc C hgo hd h (by simp)
  | istore n => exact s_loc C hgo hd h (by simp)
  | lstore n => exact s_loc C hgo hd h (by simp)
  | astore n => exact s_loc C hgo hd h (by simp)
  | iinc n k => exact s_loc C hgo hd h (by simp)
  | ifCond cn off => exact s_if C hgo hd h
  | if_icmp cn off => exact s_icmp C hgo hd h
  | tableswitch a b c os => exact s_sw C hgo hd h
  | lookupswitch a ps => exact s_lsw C hgo hd h
  | ldc i => exact s_cst C hC hgo (Or.inl rfl) hd h
  | ldc2_w i => exact s_cst C hC hgo (Or.inr (Or.inl rfl)) hd h
  | getstatic i => exact s_cst C hC hgo (Or.inr (Or.inr rfl)) hd h
  | getfield i => exact s_get C hF hgo hd h
  | putfield i => exact s_put C hF hgo hd h
  | iaload => exact s_arr C hgo (by simp) hd h
  | baload => exact s_arr C hgo (by simp) hd h
  | iastore => exact s_arr C hgo (by simp) hd h
  | bastore => exact s_arr C hgo (by simp) hd h
  | aaload => exact s_arr C hgo (by simp) hd h
  | aastore => exact s_arr C hgo (by simp) hd h
  | ireturn => exact hret go pc L stk μ len _ (by simp) hd h
  | lreturn => exact hret go pc L stk μ len _ (by simp) hd h
  | return_ => exact hret go pc L stk μ len _ (by simp) hd h
  | invokevirtual i =>
    obtain ⟨rfl, h⟩ := h
    split at h
    · rename_i n T hq
      split at h
      · rename_i a r hs
        obtain ⟨h1, h2⟩ := spl_ok _ _ _ _ _ hs
        have e1 : stk = a.reverse ++ r := h1
        rw [e1]
        exact hG _ _ _ _ hq C pc L a r μ _ (by simpa using h2) h.1 hd h.2 (fun r' μ' z => hgo _ _ _ _ z)
      · exact h.elim
    · exact h.elim
  | invokestatic i =>
    obtain ⟨rfl, h⟩ := h
    split at h
    · rename_i n T hq
      split at h
      · rename_i a r hs
        obtain ⟨h1, h2⟩ := spl_ok _ _ _ _ _ hs
        have e1 : stk = a.reverse ++ r := h1
        rw [e1]
        exact hG _ _ _ _ hq C pc L a r μ _ (by simpa using h2) h.1 hd h.2 (fun r' μ' z => hgo _ _ _ _ z)
      · exact h.elim
    · exact h.elim
  | _ => exact False.elim h
theorem clos_sound (C : CF p R s m args c cc nL own g A cells slots d) (hF : ∀ i q, F i = some q → FOK own i q) (hC : ∀ i v, Cn i = some v → COK own i v) (hG : ∀ i n b T, G i = some (n, b, T) → CallOK l d own i n b T)
    (hret : ∀ (go : Nat → List (Option AV) → List AV → Mem → Prop) pc L stk μ len i, (i = .ireturn ∨ i = .lreturn ∨ i = .return_) → decode cc pc = .ok (i, len) → stp F Cn G rk K go pc L stk μ len i → VV p l e R s m args below meth c nL g A cells slots Q pc L stk μ) : Clos F Cn G rk K cc (VV p l e R s m args below meth c nL g A cells slots Q) := by
  intro stops
  have key : ∀ n pc L stk μ, wpc F Cn G rk K cc stops (VV p l e R s m args below meth c nL g A cells slots Q) n pc L stk μ → VV p l e R s m args below meth c nL g A cells slots Q pc L stk μ := by
    intro n
    induction n with
    | zero => intro pc L stk μ h; exact h
    | succ n ih =>
      intro pc L stk μ h
      rw [wpc_s] at h
      by_cases hs : pc ∈ stops
      · rw [if_pos hs] at h; exact h
      · rw [if_neg hs] at h
        cases hd : decode cc pc with
        | error z => rw [hd] at h; exact h.elim
        | ok q =>
          obtain ⟨i, len⟩ := q
          rw [hd] at h
          exact stp_sound C hF hC hG hret ih hd h
  intro n pc L stk μ h
  unfold wp1 at h
  cases hd : decode cc pc with
  | error z => rw [hd] at h; exact h.elim
  | ok q =>
    obtain ⟨i, len⟩ := q
    rw [hd] at h
    exact stp_sound C hF hC hG hret (key n) hd h
end
/-! CONTRACTS -/
def rmd (d : Nat) : Room := { frames := d, cells := 0, slots := 0, locals := 36 * d }
def PreM (g : Gh) (μ : Mem) (avs : List AV) : Array Value → State → Prop := va_Pc (avs.map (cv g.2.2)) (fun U => va_P g.1 vwCl (wl g μ) U.heap ∧ va_K g.1 vwCl (tysG g) U ∧ Inj g ∧ ST g (inW g) U U.heap)
def QM (g : Gh) (K : List AV → Mem → Prop) : Array Value → State → Outcome → State → Prop := fun _ st oc t => (∃ (r : List AV) (μ' : Mem), oc = .returned ((r.map (cv g.2.2)).head?) ∧ r.length ≤ 1 ∧ K r μ' ∧ va_P g.1 vwCl (wl g μ') t.heap) ∧ va_F (inW g) st t
def Good (l : Launch) (d : Nat) (y : MethodName) (cc : ByteArray) (nL : Nat) (ret : Option FieldType) (T : TT) : Prop := ∀ (g : Gh) (μ : Mem) (avs : List AV) (K : List AV → Mem → Prop), T avs μ K → Met l y (Jvm.Cond.code y cc nL ret :: gtb) (rmd d) (PreM g μ avs) (QM g K) 0 0 (inW g)
def entl : List AV → List (Option AV)
  | [] => []
  | .inr (.inl x) :: r => some (.inr (.inl x)) :: none :: entl r
  | .inl x :: r => some (.inl x) :: entl r
  | .inr (.inr x) :: r => some (.inr (.inr x)) :: entl r
def ent (avs : List AV) (n : Nat) : List (Option AV) := entl avs ++ List.replicate (n - (entl avs).length) none
def retOK (rk : Nat) (ret : Option FieldType) : Prop := (rk = 0 ∧ ret = none) ∨ (rk = 1 ∧ ret = some .int) ∨ (rk = 2 ∧ ret = some .boolean) ∨ (rk = 3 ∧ ret = some .long)
theorem lg_app_none (a : List (Option AV)) (n i : Nat) {v : AV} (h : lg (a ++ List.replicate n none) i = some v) : lg a i = some v := by
  induction a generalizing i with
  | nil =>
    exfalso
    induction n generalizing i with
    | zero => simp [lg] at h
    | succ n ih => cases i with
      | zero => simp [lg, List.replicate_succ] at h
      | succ k => simp only [List.nil_append, List.replicate_succ, lg] at h; exact ih k (by simpa using h)
  | cons x r ih => cases i with
    | zero => simpa [lg] using h
    | succ k => simp only [List.cons_append, lg] at h ⊢; exact ih k h
theorem lg_entl (ad : Nat → Nat) : ∀ (avs : List AV) (b i : Nat) {v : AV}, lg (entl avs) i = some v → (b + i, cv ad v) ∈ lv_args b (avs.map (cv ad))
  | [], b, i, v, h => by simp [entl, lg] at h
  | .inl x :: r, b, i, v, h => by
    cases i with
    | zero => simp only [entl, lg, Option.some.injEq] at h; subst h; simp [lv_args]
    | succ k =>
      simp only [entl, lg] at h
      have := lg_entl ad r (b + 1) k h
      simp only [List.map_cons, lv_args, cv, Value.category]
      refine List.mem_cons_of_mem _ ?_
      rw [show b + (k + 1) = b + 1 + k by omega]
      exact this
  | .inr (.inr x) :: r, b, i, v, h => by
    cases i with
    | zero => simp only [entl, lg, Option.some.injEq] at h; subst h; simp [lv_args]
    | succ k =>
      simp only [entl, lg] at h
      have := lg_entl ad r (b + 1) k h
      simp only [List.map_cons, lv_args, cv, Value.category]
      refine List.mem_cons_of_mem _ ?_
      rw [show b + (k + 1) = b + 1 + k by omega]
      exact this
  | .inr (.inl x) :: r, b, i, v, h => by
    cases i with
    | zero => simp only [entl, lg, Option.some.injEq] at h; subst h; simp [lv_args]
    | succ k => cases k with
      | zero => simp [entl, lg] at h
      | succ k =>
        simp only [entl, lg] at h
        have := lg_entl ad r (b + 2) k h
        simp only [List.map_cons, lv_args, cv, Value.category]
        refine List.mem_cons_of_mem _ ?_
        rw [show b + (k + 1 + 1) = b + 2 + k by omega]
        exact this
theorem entl_len (ad : Nat → Nat) : ∀ (avs : List AV), (lg_sl (avs.map (cv ad))).length = (entl avs).length
  | [] => rfl
  | .inl x :: r => by have := entl_len ad r; simp [lg_sl, cv, Value.category, entl] at this ⊢; omega
  | .inr (.inr x) :: r => by have := entl_len ad r; simp [lg_sl, cv, Value.category, entl] at this ⊢; omega
  | .inr (.inl x) :: r => by have := entl_len ad r; simp [lg_sl, cv, Value.category, entl] at this ⊢; omega
end
section
/-- a method's contract out of a walk of the abstract machine -/
theorem Good.mk {l : Launch} {d : Nat} {y : MethodName} {cc : ByteArray} {nL : Nat} {ret : Option FieldType} {T : TT} {own : String} {F : Nat → Option (Nat × Nat × Nat × Nat)} {Cn : Nat → Option AV} {G : Nat → Option (Nat × Bool × TT)} (rk : Nat)
    (hy : plainName y.cls = true) (ho : y.cls = own) (hrk : retOK rk ret) (hF : ∀ i q, F i = some q → FOK own i q) (hC : ∀ i v, Cn i = some v → COK own i v) (hG : ∀ i n b T, G i = some (n, b, T) → CallOK l d own i n b T) (hlen : ∀ avs μ K, T avs μ K → (entl avs).length ≤ nL)
    (body : ∀ (avs : List AV) (μ : Mem) (K : List AV → Mem → Prop) (V : Nat → List (Option AV) → List AV → Mem → Prop), Clos F Cn G rk K cc V → T avs μ K → V 0 (ent avs nL) [] μ) : Good l d y cc nL ret T := by
  intro g μ avs K hT
  refine Met.ofW (cc := cc) (maxL := nL) (ret := ret) hy rfl ?_
  intro p e s m args below meth c s₁ B hml hv
  obtain ⟨rfl, hP, hK, hi, hST⟩ := hv
  have hts0 := atoms_spec (ws := Jvm.Cond.code y cc nL ret :: gtb) B.pre
  have hown : s.vm.findClass own = some m.cls := ho ▸ findClass_of_methodNamed B.named
  have hr := B.returns
  have hlocks := B.notSynchronized
  have C : CF p (headSpec (Jvm.Cond.code y cc nL ret :: gtb) (rmd d)).room s m (avs.map (cv g.2.2)).toArray c cc nL own g (inW g) 0 0 d := ⟨⟨B.exec, B.bytes, hml, hown, fun w hw => hts0 w (List.mem_cons_of_mem _ hw)⟩, hK, hi, hST, fun _ h => h, Nat.zero_le _, Nat.zero_le _, Nat.le_refl d, Nat.le_refl (36 * d)⟩
  have hclos : Clos F Cn G rk K cc (VV p l e (headSpec (Jvm.Cond.code y cc nL ret :: gtb) (rmd d)).room s m (avs.map (cv g.2.2)).toArray below meth c nL g (inW g) 0 0 (MQ below (QM g K) (avs.map (cv g.2.2)).toArray s 0 0 (inW g))) := by
    refine clos_sound C hF hC hG ?_
    intro go pc L stk μ' len i hi' hd h hl H locs ls hP hS hv
    have fin : ∀ (r : List AV), r.length ≤ 1 → K r μ' → ∀ t : State, t.heap = H → s.WarmedH t.vm → QM g K (avs.map (cv g.2.2)).toArray s (.returned ((r.map (cv g.2.2)).head?)) t := fun r h1 h2 t ht hW => ⟨⟨r, μ', rfl, h1, h2, by rw [ht]; exact hP⟩, hS.F ht⟩
    rcases hi' with rfl | rfl | rfl
    · obtain ⟨rfl, h⟩ := h
      split at h
      · rename_i v
        obtain ⟨h1, h2⟩ := h
        rcases h1 with h1 | ⟨h1, h3⟩
        · have hr' : meth.sig.returnType = some .int := by
            rw [hr]
            rcases hrk with z | z | z | z
            · omega
            · exact z.2
            · omega
            · omega
          exact W.iret B.exec B.bytes hr' (fin [.inl v] (by simp) h2) hS.2.2 hd
        · have hr' : meth.sig.returnType = some .boolean := by
            rw [hr]
            rcases hrk with z | z | z | z
            · omega
            · omega
            · exact z.2
            · omega
          exact W.zret B.exec B.bytes hr' (n_nz h3) (fin [.inl v] (by simp) h2) hS.2.2 hd
      · exact h.elim
    · obtain ⟨rfl, h⟩ := h
      split at h
      · rename_i v
        obtain ⟨h1, h2⟩ := h
        have hr' : meth.sig.returnType = some .long := by
          rw [hr]
          rcases hrk with z | z | z | z
          · omega
          · omega
          · omega
          · exact z.2
        exact W.lret B.exec B.bytes hr' (fin [.inr (.inl v)] (by simp) h2) hS.2.2 hd
      · exact h.elim
    · obtain ⟨rfl, h⟩ := h
      split at h
      · obtain ⟨h1, h2⟩ := h
        have hr' : meth.sig.returnType = none := by
          rw [hr]
          rcases hrk with z | z | z | z
          · exact z.2
          · omega
          · omega
          · omega
        exact W.vret B.exec B.bytes hr' (fin [] (by simp) h2) hS.2.2 hd
      · exact h.elim
  have hV := body avs μ K _ hclos hT
  have hl0 := hlen avs μ K hT
  have hl := lv_entry (avs.map (cv g.2.2)) (n := nL) (by rw [entl_len]; exact hl0)
  rw [lg_entry_eq]
  refine hV (by simp [ent]; omega) s.heap [] _ hP va_S.rf (lv_mono hl (fun q hq => ?_))
  obtain ⟨v, h1, h2⟩ := lvs_mem.mp hq
  have := lg_entl g.2.2 avs 0 q.1 (lg_app_none _ _ _ h1)
  rw [Nat.zero_add, ← h2] at this
  exact this
section
variable {p : Program} {l : Launch} {e : Env} {R : Room} {s : State} {m : MethodId} {args : Array Value} {below : List Frame} {meth : Method} {c : Code} {cells slots : Nat} {Q : State → Prop} {H : Heap} {locs : List Loc}
variable {A : Nat → Prop} {g : Gh} {K : List AV → Mem → Prop} {pc : Nat} {ls : Array Slot} {rest st0 : List Value} {a : Array Value} {H0 : Heap}
theorem callQ (hr : va_Run p l e R s m args below meth c H locs cells slots 0 0 (F0 m pc ls st0) rest (QM g K a) (inW g)) (hS : va_S A H0 H locs) (hA : ∀ q, inW g q → A q)
    (kk : ∀ (r : List AV) (μ' : Mem) (H1 : Heap) (locs1 : List Loc), K r μ' → va_P g.1 vwCl (wl g μ') H1 → va_S A H0 H1 locs1 → W p l e R s m args below meth c H1 locs1 cells slots Q (F0 m (pc + 3) ls (r.map (cv g.2.2) ++ rest))) : W p l e R s m args below meth c H locs cells slots Q (F0 m pc ls st0) := by
  intro T hT X
  obtain ⟨v, st₀, t, T', L, h0, X', hL, e1, e2, ⟨⟨r, μ', hv, hlen, hK, hP⟩, hz, hk⟩, st⟩ := hr T hT X
  have hv2 : v = (r.map (cv g.2.2)).head? := by injection hv
  rw [h0] at hz hk
  obtain ⟨t2, a1, b1⟩ := kk r μ' T'.heap (locs ++ L) hK (by rw [e1]; exact hP)
    ⟨Nat.le_trans hS.1 (by rw [e1]; exact hz), fun q h1 h2 => by rw [e1, hk q (Nat.lt_of_lt_of_le h1 hS.1) (fun z => h2 (hA q z))]; exact hS.2.1 q h1 h2, fun q hq => by
      rcases List.mem_append.mp hq with h | h
      · exact hS.2.2 q h
      · exact hA _ (hL q h)⟩ T' rfl X'
  refine ⟨t2, st t2 ?_, b1⟩
  have e3 : v.toList = r.map (cv g.2.2) := by
    rw [hv2]
    match r, hlen with
    | [], _ => rfl
    | [x], _ => rfl
    | x :: y :: z, h => simp at h
  rw [e3]
  exact a1
theorem PreM.blind {μ : Mem} {avs : List AV} : FrameBlind (PreM g μ avs) := by
  intro a U g' mk h
  obtain ⟨q0, qP, qK, qI, qS⟩ := h
  exact ⟨q0, qP, va_K.moved (u := U) (U := U.calling g' mk a) (Vm.Alike.refl U.vm) qK, qI, ST.same (u := U) (U := U.calling g' mk a) rfl qS⟩
theorem PreM.of {μ : Mem} {avs : List AV} (hK : va_K g.1 vwCl (tysG g) s) (hi : Inj g) (hST : ST g A s s.heap) (hA : ∀ q, inW g q → A q) (hP : va_P g.1 vwCl (wl g μ) H) (hS : va_S A s.heap H locs) : ∀ U : State, U.heap = H → s.WarmedH U.vm → PreM g μ avs (avs.map (cv g.2.2)).toArray U := by
  intro U hU hW
  refine ⟨rfl, by rw [hU]; exact hP, va_K.moved hW.alike hK, hi, ?_⟩
  rw [hU]
  exact ST.warm hW ((hST.kept (fun a h1 h2 => hS.2.1 a h1 h2)).narrow hA)
end
end
section
/-- a virtual call -/
theorem CallOK.V {l : Launch} {d d' : Nat} {own : String} {i n nL' : Nat} {y : MethodName} {cc' : ByteArray} {ret' : Option FieldType} {T : TT} {ci N : Nat} {C : String} {TT' : u_T} (hM : Good l d' y cc' nL' ret' T) (hd : d' + 1 ≤ d) (hn : nL' ≤ 17) (hci : vwCl[ci]? = some (C, TT', N)) (h7 : ci < 7)
    (hrec : ∀ a μ K, T a μ K → ∃ k r, a = .inr (.inr k) :: r ∧ kd k = ci)
    (w1 : Jvm.Cond.methodLink own i y ∈ gtb) (w2 : Jvm.Cond.instanceMethod y ∈ gtb) (w3 : Jvm.Cond.selects C y y ∈ gtb) (w4 : Jvm.Cond.initialized C ∈ gtb) (w5 : Jvm.Cond.code y cc' nL' ret' ∈ gtb)
    (hy : y.cls = C ∧ y.cls ≠ "java/lang/invoke/MethodHandle" ∧ y.cls ≠ "java/lang/invoke/VarHandle" ∧ (parseMethodDescriptor y.desc).map (fun d => d.parameters.length) = some n) : CallOK l d own i (n + 1) false T := by
  intro p e R s m args below meth c cc nL g A cells slots Q CC pc L as rest μ K hlen hwd hdec hT kk hl H locs ls hP hS hv
  obtain ⟨⟨hx, hb, hml, hown, hts⟩, hK, hi, hST, hA, hc1, hc2, hd1, hd2⟩ := CC
  obtain ⟨k, r, rfl, hk⟩ := hrec _ _ _ hT
  have hr : r.length = n := by simpa using hlen
  have hdec' : decode cc pc = .ok (.invokevirtual i, 3) := hdec
  have hGI : GoodIn gtb (wsV own i C y (Jvm.Cond.code y cc' nL' ret' :: gtb)) := by
    intro w hw
    unfold wsV at hw
    have : w ∈ gtb := by
      rcases List.mem_append.mp hw with h | h
      · simp only [List.mem_cons, List.not_mem_nil, or_false] at h
        rcases h with rfl | rfl | rfl | rfl <;> assumption
      · rcases List.mem_cons.mp h with rfl | h
        · exact w5
        · exact h
    exact gtb_good w this
  have he := wl_get g μ (kd_lt hk (by omega) (by omega))
  rw [pic_obj g μ hk h7] at he
  have hrun := va_runV (l := l) (e := e) (R := R) (below := below) (meth := meth) (locs := locs) (cells := cells) (slots := slots) (As := r.map (cv g.2.2)) (rest := rest.map (cv g.2.2)) (b := g.2.2 k) (g := F0 m pc ls (((.inr (.inr k) :: r).reverse ++ rest).map (cv g.2.2))) (H := H) ⟨hx, hb, hml, hown, hts⟩ (hM g μ (.inr (.inr k) :: r) K hT) (cwV n hts hGI rfl rfl rfl hy ⟨Nat.le_trans hd hd1, by show 8 + (nL' + 11) + 36 * d' ≤ R.locals; omega⟩) ⟨PreM.blind, va_recv hK hP hci he, PreM.of hK hi hST hA hP hS⟩ rfl (by simpa using hr) hv.1 (by simp [cv]) (lv_room (by rw [wd_ok]; exact hwd)) hdec' ⟨hc1, hc2⟩
  refine callQ hrun hS hA (fun r' μ' H1 locs1 h1 h2 h3 => ?_)
  have := kk r' μ' h1 hl H1 locs1 ls h2 h3 hv
  rw [List.map_append] at this
  exact this
/-- a static call -/
theorem CallOK.S {l : Launch} {d d' : Nat} {own : String} {i n nL' : Nat} {y : MethodName} {cc' : ByteArray} {ret' : Option FieldType} {T : TT} (hM : Good l d' y cc' nL' ret' T) (hd : d' + 1 ≤ d) (hn : nL' ≤ 17)
    (w1 : Jvm.Cond.methodLink own i y ∈ gtb) (w2 : Jvm.Cond.static y ∈ gtb) (w4 : Jvm.Cond.initialized y.cls ∈ gtb) (w5 : Jvm.Cond.code y cc' nL' ret' ∈ gtb)
    (hy : y.cls ≠ "java/lang/invoke/MethodHandle" ∧ y.cls ≠ "java/lang/invoke/VarHandle" ∧ (parseMethodDescriptor y.desc).map (fun d => d.parameters.length) = some n) : CallOK l d own i n true T := by
  intro p e R s m args below meth c cc nL g A cells slots Q CC pc L as rest μ K hlen hwd hdec hT kk hl H locs ls hP hS hv
  obtain ⟨⟨hx, hb, hml, hown, hts⟩, hK, hi, hST, hA, hc1, hc2, hd1, hd2⟩ := CC
  have hdec' : decode cc pc = .ok (.invokestatic i, 3) := hdec
  have hGI : GoodIn gtb (va_wsS own i y (Jvm.Cond.code y cc' nL' ret' :: gtb)) := by
    intro w hw
    unfold va_wsS at hw
    have : w ∈ gtb := by
      rcases List.mem_append.mp hw with h | h
      · simp only [List.mem_cons, List.not_mem_nil, or_false] at h
        rcases h with rfl | rfl | rfl <;> assumption
      · rcases List.mem_cons.mp h with rfl | h
        · exact w5
        · exact h
    exact gtb_good w this
  have hrun := va_runS (l := l) (e := e) (R := R) (below := below) (meth := meth) (locs := locs) (cells := cells) (slots := slots) (As := as.map (cv g.2.2)) (rest := rest.map (cv g.2.2)) (g := F0 m pc ls ((as.reverse ++ rest).map (cv g.2.2))) (H := H) ⟨hx, hb, hml, hown, hts⟩ (hM g μ as K hT) (va_cwS n hts hGI rfl rfl rfl hy ⟨Nat.le_trans hd hd1, by show 8 + (nL' + 11) + 36 * d' ≤ R.locals; omega⟩) ⟨PreM.blind, PreM.of hK hi hST hA hP hS⟩ rfl (by simpa using hlen) hv.1 (by simp) (lv_room (by rw [wd_ok]; exact hwd)) hdec' ⟨hc1, hc2⟩
  refine callQ hrun hS hA (fun r' μ' H1 locs1 h1 h2 h3 => ?_)
  have := kk r' μ' h1 hl H1 locs1 ls h2 h3 hv
  rw [List.map_append] at this
  exact this
/-- a static call of a private method of a nest mate -/
theorem CallOK.N {l : Launch} {d d' : Nat} {own : String} {i n nL' : Nat} {cc' : ByteArray} {ret' : Option FieldType} {T : TT} (hM : Good l d' yX5_isOutside cc' nL' ret' T) (hd : d' + 1 ≤ d) (hn : nL' ≤ 17)
    (w1 : (own, i) ∈ ([("RingWord$Tape", 111), ("RingWord$Ring", 45), ("RingWord$Sheet", 22)] : List (String × Nat))) (w2 : Jvm.Cond.static yX5_isOutside ∈ gtb) (w4 : Jvm.Cond.initialized yX5_isOutside.cls ∈ gtb) (w5 : Jvm.Cond.code yX5_isOutside cc' nL' ret' ∈ gtb)
    (hy : yX5_isOutside.cls ≠ "java/lang/invoke/MethodHandle" ∧ yX5_isOutside.cls ≠ "java/lang/invoke/VarHandle" ∧ (parseMethodDescriptor yX5_isOutside.desc).map (fun d => d.parameters.length) = some n) : CallOK l d own i n true T := by
  intro p e R s m args below meth c cc nL g A cells slots Q CC pc L as rest μ K hlen hwd hdec hT kk hl H locs ls hP hS hv
  obtain ⟨⟨hx, hb, hml, hown, hts⟩, hK, hi, hST, hA, hc1, hc2, hd1, hd2⟩ := CC
  have hdec' : decode cc pc = .ok (.invokestatic i, 3) := hdec
  have hGI : GoodIn gtb (Jvm.Cond.code yX5_isOutside cc' nL' ret' :: gtb) := by
    intro w hw
    rcases List.mem_cons.mp hw with rfl | h
    · exact gtb_good _ w5
    · exact gtb_good _ h
  have hrun := va_runSN (l := l) (e := e) (R := R) (below := below) (meth := meth) (locs := locs) (cells := cells) (slots := slots) (As := as.map (cv g.2.2)) (rest := rest.map (cv g.2.2)) (g := F0 m pc ls ((as.reverse ++ rest).map (cv g.2.2))) (H := H) ⟨hx, hb, hml, hown, hts⟩ (hM g μ as K hT) ⟨va_cnB n hts hGI rfl rfl rfl (hST.2.2.2.2.2.2.2.2.2 _ w1) (hts _ w4) hy ⟨Nat.le_trans hd hd1, by show 8 + (nL' + 11) + 36 * d' ≤ R.locals; omega⟩, hts _ w2, trivial⟩ ⟨PreM.blind, PreM.of hK hi hST hA hP hS⟩ rfl (by simpa using hlen) hv.1 (by simp) (lv_room (by rw [wd_ok]; exact hwd)) hdec' ⟨hc1, hc2⟩
  refine callQ hrun hS hA (fun r' μ' H1 locs1 h1 h2 h3 => ?_)
  have := kk r' μ' h1 hl H1 locs1 ls h2 h3 hv
  rw [List.map_append] at this
  exact this
/-- Math.min, Math.max -/
def T_min : TT := fun a μ K => match a with
  | [.inl x, .inl y] => InR x ∧ InR y ∧ K [.inl (min x y)] μ
  | _ => False
def T_max : TT := fun a μ K => match a with
  | [.inl x, .inl y] => InR x ∧ InR y ∧ K [.inl (max x y)] μ
  | _ => False
theorem CallOK.min {l : Launch} {d : Nat} {own : String} {i : Nat} (hd : 1 ≤ d) (w1 : Jvm.Cond.methodLink own i Lib.Math.min.name ∈ gtb) (w2 : Jvm.Cond.static Lib.Math.min.name ∈ gtb) (w4 : Jvm.Cond.initialized "java/lang/Math" ∈ gtb) (w5 : Jvm.Cond.code Lib.Math.min.name Lib.Math.min.code 2 (some .int) ∈ gtb) : CallOK l d own i 2 true T_min := by
  intro p e R s m args below meth c cc nL g A cells slots Q CC pc L as rest μ K hlen hwd hdec hT kk hl H locs ls hP hS hv
  obtain ⟨⟨hx, hb, hml, hown, hts⟩, hK, hi, hST, hA, hc1, hc2, hd1, hd2⟩ := CC
  have hdec' : decode cc pc = .ok (.invokestatic i, 3) := hdec
  unfold T_min at hT
  split at hT
  · rename_i x y
    obtain ⟨h1, h2, h3⟩ := hT
    have hw := wd_ok g.2.2 rest
    refine va_mmin (rest := rest.map (cv g.2.2)) hx hb (hml.trans hv.1.symm) hown (hts _ w1) (hts _ w2) (hts _ w4) (hts _ w5) (by omega) (by rw [hw]; omega) hc1 hc2 hdec' ?_
    have := kk _ _ h3 hl H locs ls hP hS hv
    have e1 : (if Int32.ofInt y < Int32.ofInt x then Int32.ofInt y else Int32.ofInt x) = Int32.ofInt (Min.min x y) := by
      by_cases q : y < x
      · rw [if_pos ((n_lt h2 h1).mpr q)]; congr 1; omega
      · rw [if_neg (fun z => q ((n_lt h2 h1).mp z))]; congr 1; omega
    rw [e1]
    exact this
  · exact hT.elim
theorem CallOK.max {l : Launch} {d : Nat} {own : String} {i : Nat} (hd : 1 ≤ d) (w1 : Jvm.Cond.methodLink own i Lib.Math.max.name ∈ gtb) (w2 : Jvm.Cond.static Lib.Math.max.name ∈ gtb) (w4 : Jvm.Cond.initialized "java/lang/Math" ∈ gtb) (w5 : Jvm.Cond.code Lib.Math.max.name Lib.Math.max.code 2 (some .int) ∈ gtb) : CallOK l d own i 2 true T_max := by
  intro p e R s m args below meth c cc nL g A cells slots Q CC pc L as rest μ K hlen hwd hdec hT kk hl H locs ls hP hS hv
  obtain ⟨⟨hx, hb, hml, hown, hts⟩, hK, hi, hST, hA, hc1, hc2, hd1, hd2⟩ := CC
  have hdec' : decode cc pc = .ok (.invokestatic i, 3) := hdec
  unfold T_max at hT
  split at hT
  · rename_i x y
    obtain ⟨h1, h2, h3⟩ := hT
    have hw := wd_ok g.2.2 rest
    refine va_mmax (rest := rest.map (cv g.2.2)) hx hb (hml.trans hv.1.symm) hown (hts _ w1) (hts _ w2) (hts _ w4) (hts _ w5) (by omega) (by rw [hw]; omega) hc1 hc2 hdec' ?_
    have := kk _ _ h3 hl H locs ls hP hS hv
    have e1 : (if Int32.ofInt x < Int32.ofInt y then Int32.ofInt y else Int32.ofInt x) = Int32.ofInt (Max.max x y) := by
      by_cases q : x < y
      · rw [if_pos ((n_lt h1 h2).mpr q)]; congr 1; omega
      · rw [if_neg (fun z => q ((n_lt h1 h2).mp z))]; congr 1; omega
    rw [e1]
    exact this
  · exact hT.elim
/-- System.arraycopy of int rows -/
def wC (μ : Mem) (k0 sp k1 dp n : Nat) : Mem := (fun a b => if a = k1 ∧ dp ≤ b ∧ b < dp + n then μ.1 k0 (sp + (b - dp)) else μ.1 a b, μ.2)
theorem rI_wC (μ : Mem) (k0 sp k1 dp n a b : Nat) : rI (wC μ k0 sp k1 dp n) a b = if a = k1 ∧ dp ≤ b ∧ b < dp + n then rI μ k0 (sp + (b - dp)) else rI μ a b := rfl
theorem rR_wC (μ : Mem) (k0 sp k1 dp n a b : Nat) : rR (wC μ k0 sp k1 dp n) a b = rR μ a b := rfl
def T_copy : TT := fun a μ K => match a with
  | [.inr (.inr k0), .inl sp, .inr (.inr k1), .inl dp, .inl n] => kd k0 = 7 ∧ kd k1 = 7 ∧ (0 ≤ sp ∧ 0 ≤ dp ∧ 0 ≤ n) ∧ sp + n ≤ ln k0 ∧ dp + n ≤ ln k1 ∧ K [] (wC μ k0 sp.toNat k1 dp.toNat n.toNat)
  | _ => False
theorem pic_wC_ne (g : Gh) (μ : Mem) (k0 sp : Nat) {k1 : Nat} (dp n : Nat) {k' : Nat} (h : k' ≠ k1) : pic g (wC μ k0 sp k1 dp n) k' = pic g μ k' := by
  have e1 : ∀ b, rI (wC μ k0 sp k1 dp n) k' b = rI μ k' b := fun b => by rw [rI_wC, if_neg (fun z => h z.1)]
  have e2 : iarr (wC μ k0 sp k1 dp n) k' = iarr μ k' := by funext j; simp only [iarr, e1]
  have e3 : ∀ (l : List (Nat × Nat)) (j : Nat), flds g.2.2 (wC μ k0 sp k1 dp n) k' j l = flds g.2.2 μ k' j l := by
    intro l
    induction l with
    | nil => intro j; rfl
    | cons q r ih => intro j; simp only [flds, ih, fval, e1]
  unfold pic
  rw [e2, e3]
  rfl
theorem CallOK.copy {l : Launch} {d : Nat} {own : String} {i : Nat} (hd : 1 ≤ d) (w1 : Jvm.Cond.methodLink own i arraycopyName ∈ gtb) (w2 : Jvm.Cond.native arraycopyName ∈ gtb) (w3 : Jvm.Cond.static arraycopyName ∈ gtb) (w4 : Jvm.Cond.initialized "java/lang/System" ∈ gtb) : CallOK l d own i 5 true T_copy := by
  intro p e R s m args below meth c cc nL g A cells slots Q CC pc L as rest μ K hlen hwd hdec hT kk hl H locs ls hP hS hv
  obtain ⟨⟨hx, hb, hml, hown, hts⟩, hK, hi, hST, hA, hc1, hc2, hd1, hd2⟩ := CC
  have hdec' : decode cc pc = .ok (.invokestatic i, 3) := hdec
  have hD := wl_D hi hA μ
  unfold T_copy at hT
  split at hT
  · rename_i k0 sp k1 dp n
    obtain ⟨q0, q1, ⟨h1, h2, h3⟩, h4, h5, h6⟩ := hT
    have b0 := ln_lt k0
    have b1 := ln_lt k1
    have hw := wd_ok g.2.2 rest
    have he0 := wl_get g μ (kd_lt q0 (by omega) (by omega))
    have he1 := wl_get g μ (kd_lt q1 (by omega) (by omega))
    rw [pic_7 g μ q0] at he0
    rw [pic_7 g μ q1] at he1
    have r1 : InR sp := ⟨by omega, by omega⟩
    have r2 : InR dp := ⟨by omega, by omega⟩
    have r3 : InR n := ⟨by omega, by omega⟩
    have hnf : nativeFrameWords "java/lang/System" "arraycopy" 5 ≤ 12 := by decide +kernel
    have z1 : ¬ Int32.ofInt sp < 0 := by rw [n_0, n_lt r1 InR0]; omega
    have z2 : ¬ Int32.ofInt dp < 0 := by rw [n_0, n_lt r2 InR0]; omega
    have z3 : ¬ Int32.ofInt n < 0 := by rw [n_0, n_lt r3 InR0]; omega
    have z4 : (Int32.ofInt sp).toNatClampNeg + (Int32.ofInt n).toNatClampNeg ≤ ln k0 := by rw [n_cl r1, n_cl r3]; omega
    have z5 : (Int32.ofInt dp).toNatClampNeg + (Int32.ofInt n).toNatClampNeg ≤ ln k1 := by rw [n_cl r2, n_cl r3]; omega
    refine va_copyi (ty := .int) (rest := rest.map (cv g.2.2)) hx hb (hml.trans hv.1.symm) hown (hts _ w1) (hts _ w2) (hts _ w3) (hts _ w4) hK hP hD hS k0 k1 0 0 he0 he1 rfl rfl rfl z1 z2 z3 z4 z5 (fun _ _ => rfl) (by omega) (by rw [hw]; omega) hdec' (fun H1 locs1 hP1 hD1 hS1 => ?_)
    have e1 : va_cpy (iarr μ k0) (iarr μ k1) sp.toNat dp.toNat n.toNat = iarr (wC μ k0 sp.toNat k1 dp.toNat n.toNat) k1 := by
      funext j
      simp only [va_cpy, iarr, rI_wC]
      by_cases q : dp.toNat ≤ j ∧ j < dp.toNat + n.toNat
      · rw [if_pos q, if_pos ⟨trivial, q⟩]
      · rw [if_neg q, if_neg (fun z => q z.2)]
    rw [n_cl r1, n_cl r2, n_cl r3, e1, wl_set g μ (wC μ k0 sp.toNat k1 dp.toNat n.toNat) (pic_7 g _ q1).symm (fun j' hj' => pic_wC_ne g μ _ _ _ _ hj')] at hP1
    exact kk _ _ h6 hl H1 locs1 ls hP1 hS1 hv
  · exact hT.elim
end
section
/-! the tables hold what the steps ask -/
theorem lk_mem {β : Type} {l : List (Nat × β)} {i : Nat} {q : β} (h : l.lookup i = some q) : (i, q) ∈ l := by
  induction l with
  | nil => simp [List.lookup] at h
  | cons a r ih =>
    obtain ⟨k, v⟩ := a
    rw [List.lookup_cons] at h
    by_cases e : i == k
    · rw [e] at h
      simp only [beq_iff_eq] at e
      subst e
      simp only [Option.some.injEq] at h
      subst h
      exact List.mem_cons_self
    · simp only [Bool.not_eq_true] at e
      rw [e] at h
      exact List.mem_cons_of_mem _ (ih h)
theorem inG0 : ∀ w ∈ u_ws RX0 TX0 3, w ∈ gtb := by
  have h : ((u_ws RX0 TX0 3).all (fun w => decide (w ∈ lw_tbl) && goodWord w)) = true := by decide +kernel
  intro w hw
  have := List.all_eq_true.mp h w hw
  simp only [Bool.and_eq_true, decide_eq_true_eq] at this
  exact List.mem_filter.mpr this
theorem fok0 {own : String} {i j so off : Nat} (hj : j < 3) (hl : Jvm.Cond.fieldLink own i (TX0 j).1 (TX0 j).2.1 (TX0 j).2.2.1 ∈ gtb) (hs : (fsp 0)[j]? = some (so, off)) (ht : so ≠ 2 → (TX0 j).2.2.2 = false ∧ parseFieldDescriptor (TX0 j).2.2.1 = some (if so = 1 then .long else if so = 0 then .int else .boolean) ∧ so < 4) : FOK own i (0, j, so, off) := ⟨RX0, TX0, 3, tyX0, rfl, (show 0 < 7 by decide), hj, inG0, tyX0_ok, nmX0, hl, hs, ht⟩
theorem inG1 : ∀ w ∈ u_ws RX1 TX1 7, w ∈ gtb := by
  have h : ((u_ws RX1 TX1 7).all (fun w => decide (w ∈ lw_tbl) && goodWord w)) = true := by decide +kernel
  intro w hw
  have := List.all_eq_true.mp h w hw
  simp only [Bool.and_eq_true, decide_eq_true_eq] at this
  exact List.mem_filter.mpr this
theorem fok1 {own : String} {i j so off : Nat} (hj : j < 7) (hl : Jvm.Cond.fieldLink own i (TX1 j).1 (TX1 j).2.1 (TX1 j).2.2.1 ∈ gtb) (hs : (fsp 1)[j]? = some (so, off)) (ht : so ≠ 2 → (TX1 j).2.2.2 = false ∧ parseFieldDescriptor (TX1 j).2.2.1 = some (if so = 1 then .long else if so = 0 then .int else .boolean) ∧ so < 4) : FOK own i (1, j, so, off) := ⟨RX1, TX1, 7, tyX1, rfl, (show 1 < 7 by decide), hj, inG1, tyX1_ok, nmX1, hl, hs, ht⟩
theorem inG2 : ∀ w ∈ u_ws RX2 TX2 4, w ∈ gtb := by
  have h : ((u_ws RX2 TX2 4).all (fun w => decide (w ∈ lw_tbl) && goodWord w)) = true := by decide +kernel
  intro w hw
  have := List.all_eq_true.mp h w hw
  simp only [Bool.and_eq_true, decide_eq_true_eq] at this
  exact List.mem_filter.mpr this
theorem fok2 {own : String} {i j so off : Nat} (hj : j < 4) (hl : Jvm.Cond.fieldLink own i (TX2 j).1 (TX2 j).2.1 (TX2 j).2.2.1 ∈ gtb) (hs : (fsp 2)[j]? = some (so, off)) (ht : so ≠ 2 → (TX2 j).2.2.2 = false ∧ parseFieldDescriptor (TX2 j).2.2.1 = some (if so = 1 then .long else if so = 0 then .int else .boolean) ∧ so < 4) : FOK own i (2, j, so, off) := ⟨RX2, TX2, 4, tyX2, rfl, (show 2 < 7 by decide), hj, inG2, tyX2_ok, nmX2, hl, hs, ht⟩
theorem inG3 : ∀ w ∈ u_ws RX3 TX3 3, w ∈ gtb := by
  have h : ((u_ws RX3 TX3 3).all (fun w => decide (w ∈ lw_tbl) && goodWord w)) = true := by decide +kernel
  intro w hw
  have := List.all_eq_true.mp h w hw
  simp only [Bool.and_eq_true, decide_eq_true_eq] at this
  exact List.mem_filter.mpr this
theorem fok3 {own : String} {i j so off : Nat} (hj : j < 3) (hl : Jvm.Cond.fieldLink own i (TX3 j).1 (TX3 j).2.1 (TX3 j).2.2.1 ∈ gtb) (hs : (fsp 3)[j]? = some (so, off)) (ht : so ≠ 2 → (TX3 j).2.2.2 = false ∧ parseFieldDescriptor (TX3 j).2.2.1 = some (if so = 1 then .long else if so = 0 then .int else .boolean) ∧ so < 4) : FOK own i (3, j, so, off) := ⟨RX3, TX3, 3, tyX3, rfl, (show 3 < 7 by decide), hj, inG3, tyX3_ok, nmX3, hl, hs, ht⟩
theorem inG4 : ∀ w ∈ u_ws RX4 TX4 7, w ∈ gtb := by
  have h : ((u_ws RX4 TX4 7).all (fun w => decide (w ∈ lw_tbl) && goodWord w)) = true := by decide +kernel
  intro w hw
  have := List.all_eq_true.mp h w hw
  simp only [Bool.and_eq_true, decide_eq_true_eq] at this
  exact List.mem_filter.mpr this
theorem fok4 {own : String} {i j so off : Nat} (hj : j < 7) (hl : Jvm.Cond.fieldLink own i (TX4 j).1 (TX4 j).2.1 (TX4 j).2.2.1 ∈ gtb) (hs : (fsp 4)[j]? = some (so, off)) (ht : so ≠ 2 → (TX4 j).2.2.2 = false ∧ parseFieldDescriptor (TX4 j).2.2.1 = some (if so = 1 then .long else if so = 0 then .int else .boolean) ∧ so < 4) : FOK own i (4, j, so, off) := ⟨RX4, TX4, 7, tyX4, rfl, (show 4 < 7 by decide), hj, inG4, tyX4_ok, nmX4, hl, hs, ht⟩
theorem inG5 : ∀ w ∈ u_ws RX5 TX5 8, w ∈ gtb := by
  have h : ((u_ws RX5 TX5 8).all (fun w => decide (w ∈ lw_tbl) && goodWord w)) = true := by decide +kernel
  intro w hw
  have := List.all_eq_true.mp h w hw
  simp only [Bool.and_eq_true, decide_eq_true_eq] at this
  exact List.mem_filter.mpr this
theorem fok5 {own : String} {i j so off : Nat} (hj : j < 8) (hl : Jvm.Cond.fieldLink own i (TX5 j).1 (TX5 j).2.1 (TX5 j).2.2.1 ∈ gtb) (hs : (fsp 5)[j]? = some (so, off)) (ht : so ≠ 2 → (TX5 j).2.2.2 = false ∧ parseFieldDescriptor (TX5 j).2.2.1 = some (if so = 1 then .long else if so = 0 then .int else .boolean) ∧ so < 4) : FOK own i (5, j, so, off) := ⟨RX5, TX5, 8, tyX5, rfl, (show 5 < 7 by decide), hj, inG5, tyX5_ok, nmX5, hl, hs, ht⟩
theorem inG6 : ∀ w ∈ u_ws RX6 TX6 30, w ∈ gtb := by
  have h : ((u_ws RX6 TX6 30).all (fun w => decide (w ∈ lw_tbl) && goodWord w)) = true := by decide +kernel
  intro w hw
  have := List.all_eq_true.mp h w hw
  simp only [Bool.and_eq_true, decide_eq_true_eq] at this
  exact List.mem_filter.mpr this
theorem fok6 {own : String} {i j so off : Nat} (hj : j < 30) (hl : Jvm.Cond.fieldLink own i (TX6 j).1 (TX6 j).2.1 (TX6 j).2.2.1 ∈ gtb) (hs : (fsp 6)[j]? = some (so, off)) (ht : so ≠ 2 → (TX6 j).2.2.2 = false ∧ parseFieldDescriptor (TX6 j).2.2.1 = some (if so = 1 then .long else if so = 0 then .int else .boolean) ∧ so < 4) : FOK own i (6, j, so, off) := ⟨RX6, TX6, 30, tyX6, rfl, (show 6 < 7 by decide), hj, inG6, tyX6_ok, nmX6, hl, hs, ht⟩
theorem fk0_10 : FOK RX0 10 (0, 0, 2, 1) := fok0 (by decide) (mg 132 (by decide +kernel) (by decide +kernel)) rfl (fun h => absurd rfl h)
theorem fk0_19 : FOK RX0 19 (0, 1, 2, 8) := fok0 (by decide) (mg 134 (by decide +kernel) (by decide +kernel)) rfl (fun h => absurd rfl h)
theorem FOK0 : ∀ i q, FX0 i = some q → FOK RX0 i q := by
  intro i q h
  have hm : (i, q) ∈ FL0 := lk_mem h
  simp only [FL0, List.mem_cons, List.not_mem_nil, or_false, Prod.mk.injEq] at hm
  rcases hm with ⟨rfl, rfl⟩ | ⟨rfl, rfl⟩
  · exact fk0_10
  · exact fk0_19
theorem COK0 : ∀ i v, CX0 i = some v → COK RX0 i v := by
  intro i q h
  have hm : (i, q) ∈ CL0 := lk_mem h
  simp [CL0] at hm
theorem fk1_11 : FOK RX1 11 (1, 0, 2, 1) := fok1 (by decide) (mg 31 (by decide +kernel) (by decide +kernel)) rfl (fun h => absurd rfl h)
theorem fk1_20 : FOK RX1 20 (1, 1, 0, 0) := fok1 (by decide) (mg 35 (by decide +kernel) (by decide +kernel)) rfl (fun _ => ⟨by decide +kernel, by decide +kernel, by decide⟩)
theorem fk1_16 : FOK RX1 16 (1, 2, 0, 0) := fok1 (by decide) (mg 38 (by decide +kernel) (by decide +kernel)) rfl (fun _ => ⟨by decide +kernel, by decide +kernel, by decide⟩)
theorem fk1_23 : FOK RX1 23 (1, 3, 0, 0) := fok1 (by decide) (mg 41 (by decide +kernel) (by decide +kernel)) rfl (fun _ => ⟨by decide +kernel, by decide +kernel, by decide⟩)
theorem fk1_26 : FOK RX1 26 (1, 4, 0, 0) := fok1 (by decide) (mg 43 (by decide +kernel) (by decide +kernel)) rfl (fun _ => ⟨by decide +kernel, by decide +kernel, by decide⟩)
theorem fk1_29 : FOK RX1 29 (1, 5, 0, 0) := fok1 (by decide) (mg 45 (by decide +kernel) (by decide +kernel)) rfl (fun _ => ⟨by decide +kernel, by decide +kernel, by decide⟩)
theorem fk1_32 : FOK RX1 32 (1, 6, 0, 0) := fok1 (by decide) (mg 47 (by decide +kernel) (by decide +kernel)) rfl (fun _ => ⟨by decide +kernel, by decide +kernel, by decide⟩)
theorem FOK1 : ∀ i q, FX1 i = some q → FOK RX1 i q := by
  intro i q h
  have hm : (i, q) ∈ FL1 := lk_mem h
  simp only [FL1, List.mem_cons, List.not_mem_nil, or_false, Prod.mk.injEq] at hm
  rcases hm with ⟨rfl, rfl⟩ | ⟨rfl, rfl⟩ | ⟨rfl, rfl⟩ | ⟨rfl, rfl⟩ | ⟨rfl, rfl⟩ | ⟨rfl, rfl⟩ | ⟨rfl, rfl⟩
  · exact fk1_11
  · exact fk1_20
  · exact fk1_16
  · exact fk1_23
  · exact fk1_26
  · exact fk1_29
  · exact fk1_32
theorem ck1_73 : COK RX1 73 (.inl 999999) := mg 379 (by decide +kernel) (by decide +kernel)
theorem COK1 : ∀ i v, CX1 i = some v → COK RX1 i v := by
  intro i q h
  have hm : (i, q) ∈ CL1 := lk_mem h
  simp only [CL1, List.mem_cons, List.not_mem_nil, or_false, Prod.mk.injEq] at hm
  rcases hm with ⟨rfl, rfl⟩
  · exact ck1_73
theorem fk2_55 : FOK RX2 55 (1, 0, 2, 1) := fok1 (by decide) (mg 33 (by decide +kernel) (by decide +kernel)) rfl (fun h => absurd rfl h)
theorem fk2_9 : FOK RX2 9 (2, 0, 2, 1) := fok2 (by decide) (mg 71 (by decide +kernel) (by decide +kernel)) rfl (fun h => absurd rfl h)
theorem fk2_15 : FOK RX2 15 (2, 1, 2, 2) := fok2 (by decide) (mg 72 (by decide +kernel) (by decide +kernel)) rfl (fun h => absurd rfl h)
theorem fk2_18 : FOK RX2 18 (2, 2, 2, 3) := fok2 (by decide) (mg 73 (by decide +kernel) (by decide +kernel)) rfl (fun h => absurd rfl h)
theorem fk2_21 : FOK RX2 21 (2, 3, 0, 0) := fok2 (by decide) (mg 74 (by decide +kernel) (by decide +kernel)) rfl (fun _ => ⟨by decide +kernel, by decide +kernel, by decide⟩)
theorem FOK2 : ∀ i q, FX2 i = some q → FOK RX2 i q := by
  intro i q h
  have hm : (i, q) ∈ FL2 := lk_mem h
  simp only [FL2, List.mem_cons, List.not_mem_nil, or_false, Prod.mk.injEq] at hm
  rcases hm with ⟨rfl, rfl⟩ | ⟨rfl, rfl⟩ | ⟨rfl, rfl⟩ | ⟨rfl, rfl⟩ | ⟨rfl, rfl⟩
  · exact fk2_55
  · exact fk2_9
  · exact fk2_15
  · exact fk2_18
  · exact fk2_21
theorem COK2 : ∀ i v, CX2 i = some v → COK RX2 i v := by
  intro i q h
  have hm : (i, q) ∈ CL2 := lk_mem h
  simp [CL2] at hm
theorem fk3_9 : FOK RX3 9 (3, 0, 2, 1) := fok3 (by decide) (mg 149 (by decide +kernel) (by decide +kernel)) rfl (fun h => absurd rfl h)
theorem fk3_15 : FOK RX3 15 (3, 1, 0, 0) := fok3 (by decide) (mg 151 (by decide +kernel) (by decide +kernel)) rfl (fun _ => ⟨by decide +kernel, by decide +kernel, by decide⟩)
theorem fk3_19 : FOK RX3 19 (3, 2, 0, 0) := fok3 (by decide) (mg 153 (by decide +kernel) (by decide +kernel)) rfl (fun _ => ⟨by decide +kernel, by decide +kernel, by decide⟩)
theorem FOK3 : ∀ i q, FX3 i = some q → FOK RX3 i q := by
  intro i q h
  have hm : (i, q) ∈ FL3 := lk_mem h
  simp only [FL3, List.mem_cons, List.not_mem_nil, or_false, Prod.mk.injEq] at hm
  rcases hm with ⟨rfl, rfl⟩ | ⟨rfl, rfl⟩ | ⟨rfl, rfl⟩
  · exact fk3_9
  · exact fk3_15
  · exact fk3_19
theorem COK3 : ∀ i v, CX3 i = some v → COK RX3 i v := by
  intro i q h
  have hm : (i, q) ∈ CL3 := lk_mem h
  simp [CL3] at hm
theorem fk4_79 : FOK RX4 79 (1, 0, 2, 1) := fok1 (by decide) (mg 32 (by decide +kernel) (by decide +kernel)) rfl (fun h => absurd rfl h)
theorem fk4_43 : FOK RX4 43 (1, 1, 0, 0) := fok1 (by decide) (mg 36 (by decide +kernel) (by decide +kernel)) rfl (fun _ => ⟨by decide +kernel, by decide +kernel, by decide⟩)
theorem fk4_40 : FOK RX4 40 (1, 2, 0, 0) := fok1 (by decide) (mg 39 (by decide +kernel) (by decide +kernel)) rfl (fun _ => ⟨by decide +kernel, by decide +kernel, by decide⟩)
theorem fk4_9 : FOK RX4 9 (4, 0, 2, 1) := fok4 (by decide) (mg 91 (by decide +kernel) (by decide +kernel)) rfl (fun h => absurd rfl h)
theorem fk4_50 : FOK RX4 50 (4, 1, 0, 0) := fok4 (by decide) (mg 94 (by decide +kernel) (by decide +kernel)) rfl (fun _ => ⟨by decide +kernel, by decide +kernel, by decide⟩)
theorem fk4_20 : FOK RX4 20 (4, 2, 0, 0) := fok4 (by decide) (mg 95 (by decide +kernel) (by decide +kernel)) rfl (fun _ => ⟨by decide +kernel, by decide +kernel, by decide⟩)
theorem fk4_119 : FOK RX4 119 (4, 3, 0, 0) := fok4 (by decide) (mg 98 (by decide +kernel) (by decide +kernel)) rfl (fun _ => ⟨by decide +kernel, by decide +kernel, by decide⟩)
theorem fk4_24 : FOK RX4 24 (4, 4, 0, 0) := fok4 (by decide) (mg 99 (by decide +kernel) (by decide +kernel)) rfl (fun _ => ⟨by decide +kernel, by decide +kernel, by decide⟩)
theorem fk4_30 : FOK RX4 30 (4, 5, 0, 0) := fok4 (by decide) (mg 100 (by decide +kernel) (by decide +kernel)) rfl (fun _ => ⟨by decide +kernel, by decide +kernel, by decide⟩)
theorem fk4_61 : FOK RX4 61 (4, 6, 0, 0) := fok4 (by decide) (mg 101 (by decide +kernel) (by decide +kernel)) rfl (fun _ => ⟨by decide +kernel, by decide +kernel, by decide⟩)
theorem FOK4 : ∀ i q, FX4 i = some q → FOK RX4 i q := by
  intro i q h
  have hm : (i, q) ∈ FL4 := lk_mem h
  simp only [FL4, List.mem_cons, List.not_mem_nil, or_false, Prod.mk.injEq] at hm
  rcases hm with ⟨rfl, rfl⟩ | ⟨rfl, rfl⟩ | ⟨rfl, rfl⟩ | ⟨rfl, rfl⟩ | ⟨rfl, rfl⟩ | ⟨rfl, rfl⟩ | ⟨rfl, rfl⟩ | ⟨rfl, rfl⟩ | ⟨rfl, rfl⟩ | ⟨rfl, rfl⟩
  · exact fk4_79
  · exact fk4_43
  · exact fk4_40
  · exact fk4_9
  · exact fk4_50
  · exact fk4_20
  · exact fk4_119
  · exact fk4_24
  · exact fk4_30
  · exact fk4_61
theorem ck4_83 : COK RX4 83 (.inr (.inr 100)) := Or.inl ⟨rfl, Or.inr (⟨rfl, rfl⟩)⟩
theorem ck4_87 : COK RX4 87 (.inr (.inr 101)) := Or.inr (Or.inl ⟨rfl, Or.inr (⟨rfl, rfl⟩)⟩)
theorem ck4_90 : COK RX4 90 (.inr (.inr 110)) := Or.inr (Or.inr ⟨0, by decide, rfl, rfl, rfl⟩)
theorem ck4_96 : COK RX4 96 (.inr (.inr 111)) := Or.inr (Or.inr ⟨1, by decide, rfl, rfl, rfl⟩)
theorem ck4_98 : COK RX4 98 (.inr (.inr 112)) := Or.inr (Or.inr ⟨2, by decide, rfl, rfl, rfl⟩)
theorem ck4_100 : COK RX4 100 (.inr (.inr 113)) := Or.inr (Or.inr ⟨3, by decide, rfl, rfl, rfl⟩)
theorem ck4_102 : COK RX4 102 (.inr (.inr 114)) := Or.inr (Or.inr ⟨4, by decide, rfl, rfl, rfl⟩)
theorem COK4 : ∀ i v, CX4 i = some v → COK RX4 i v := by
  intro i q h
  have hm : (i, q) ∈ CL4 := lk_mem h
  simp only [CL4, List.mem_cons, List.not_mem_nil, or_false, Prod.mk.injEq] at hm
  rcases hm with ⟨rfl, rfl⟩ | ⟨rfl, rfl⟩ | ⟨rfl, rfl⟩ | ⟨rfl, rfl⟩ | ⟨rfl, rfl⟩ | ⟨rfl, rfl⟩ | ⟨rfl, rfl⟩
  · exact ck4_83
  · exact ck4_87
  · exact ck4_90
  · exact ck4_96
  · exact ck4_98
  · exact ck4_100
  · exact ck4_102
theorem fk5_115 : FOK RX5 115 (1, 0, 2, 1) := fok1 (by decide) (mg 34 (by decide +kernel) (by decide +kernel)) rfl (fun h => absurd rfl h)
theorem fk5_85 : FOK RX5 85 (1, 1, 0, 0) := fok1 (by decide) (mg 37 (by decide +kernel) (by decide +kernel)) rfl (fun _ => ⟨by decide +kernel, by decide +kernel, by decide⟩)
theorem fk5_88 : FOK RX5 88 (1, 2, 0, 0) := fok1 (by decide) (mg 40 (by decide +kernel) (by decide +kernel)) rfl (fun _ => ⟨by decide +kernel, by decide +kernel, by decide⟩)
theorem fk5_91 : FOK RX5 91 (1, 3, 0, 0) := fok1 (by decide) (mg 42 (by decide +kernel) (by decide +kernel)) rfl (fun _ => ⟨by decide +kernel, by decide +kernel, by decide⟩)
theorem fk5_94 : FOK RX5 94 (1, 4, 0, 0) := fok1 (by decide) (mg 44 (by decide +kernel) (by decide +kernel)) rfl (fun _ => ⟨by decide +kernel, by decide +kernel, by decide⟩)
theorem fk5_97 : FOK RX5 97 (1, 5, 0, 0) := fok1 (by decide) (mg 46 (by decide +kernel) (by decide +kernel)) rfl (fun _ => ⟨by decide +kernel, by decide +kernel, by decide⟩)
theorem fk5_100 : FOK RX5 100 (1, 6, 0, 0) := fok1 (by decide) (mg 48 (by decide +kernel) (by decide +kernel)) rfl (fun _ => ⟨by decide +kernel, by decide +kernel, by decide⟩)
theorem fk5_78 : FOK RX5 78 (2, 3, 0, 0) := fok2 (by decide) (mg 75 (by decide +kernel) (by decide +kernel)) rfl (fun _ => ⟨by decide +kernel, by decide +kernel, by decide⟩)
theorem fk5_60 : FOK RX5 60 (4, 0, 2, 1) := fok4 (by decide) (mg 92 (by decide +kernel) (by decide +kernel)) rfl (fun h => absurd rfl h)
theorem fk5_56 : FOK RX5 56 (4, 1, 0, 0) := fok4 (by decide) (mg 93 (by decide +kernel) (by decide +kernel)) rfl (fun _ => ⟨by decide +kernel, by decide +kernel, by decide⟩)
theorem fk5_68 : FOK RX5 68 (4, 2, 0, 0) := fok4 (by decide) (mg 96 (by decide +kernel) (by decide +kernel)) rfl (fun _ => ⟨by decide +kernel, by decide +kernel, by decide⟩)
theorem fk5_71 : FOK RX5 71 (4, 3, 0, 0) := fok4 (by decide) (mg 97 (by decide +kernel) (by decide +kernel)) rfl (fun _ => ⟨by decide +kernel, by decide +kernel, by decide⟩)
theorem fk5_190 : FOK RX5 190 (0, 0, 2, 1) := fok0 (by decide) (mg 133 (by decide +kernel) (by decide +kernel)) rfl (fun h => absurd rfl h)
theorem fk5_191 : FOK RX5 191 (0, 1, 2, 8) := fok0 (by decide) (mg 135 (by decide +kernel) (by decide +kernel)) rfl (fun h => absurd rfl h)
theorem fk5_81 : FOK RX5 81 (0, 2, 3, 0) := fok0 (by decide) (mg 136 (by decide +kernel) (by decide +kernel)) rfl (fun _ => ⟨by decide +kernel, by decide +kernel, by decide⟩)
theorem fk5_207 : FOK RX5 207 (3, 0, 2, 1) := fok3 (by decide) (mg 150 (by decide +kernel) (by decide +kernel)) rfl (fun h => absurd rfl h)
theorem fk5_198 : FOK RX5 198 (3, 1, 0, 0) := fok3 (by decide) (mg 152 (by decide +kernel) (by decide +kernel)) rfl (fun _ => ⟨by decide +kernel, by decide +kernel, by decide⟩)
theorem fk5_219 : FOK RX5 219 (3, 2, 0, 0) := fok3 (by decide) (mg 154 (by decide +kernel) (by decide +kernel)) rfl (fun _ => ⟨by decide +kernel, by decide +kernel, by decide⟩)
theorem fk5_10 : FOK RX5 10 (5, 0, 2, 1) := fok5 (by decide) (mg 162 (by decide +kernel) (by decide +kernel)) rfl (fun h => absurd rfl h)
theorem fk5_16 : FOK RX5 16 (5, 1, 2, 8) := fok5 (by decide) (mg 163 (by decide +kernel) (by decide +kernel)) rfl (fun h => absurd rfl h)
theorem fk5_22 : FOK RX5 22 (5, 2, 2, 15) := fok5 (by decide) (mg 164 (by decide +kernel) (by decide +kernel)) rfl (fun h => absurd rfl h)
theorem fk5_29 : FOK RX5 29 (5, 3, 2, 19) := fok5 (by decide) (mg 165 (by decide +kernel) (by decide +kernel)) rfl (fun h => absurd rfl h)
theorem fk5_35 : FOK RX5 35 (5, 4, 2, 21) := fok5 (by decide) (mg 166 (by decide +kernel) (by decide +kernel)) rfl (fun h => absurd rfl h)
theorem fk5_41 : FOK RX5 41 (5, 5, 2, 46) := fok5 (by decide) (mg 167 (by decide +kernel) (by decide +kernel)) rfl (fun h => absurd rfl h)
theorem fk5_47 : FOK RX5 47 (5, 6, 2, 55) := fok5 (by decide) (mg 168 (by decide +kernel) (by decide +kernel)) rfl (fun h => absurd rfl h)
theorem fk5_213 : FOK RX5 213 (5, 7, 0, 0) := fok5 (by decide) (mg 169 (by decide +kernel) (by decide +kernel)) rfl (fun _ => ⟨by decide +kernel, by decide +kernel, by decide⟩)
theorem FOK5 : ∀ i q, FX5 i = some q → FOK RX5 i q := by
  intro i q h
  have hm : (i, q) ∈ FL5 := lk_mem h
  simp only [FL5, List.mem_cons, List.not_mem_nil, or_false, Prod.mk.injEq] at hm
  rcases hm with ⟨rfl, rfl⟩ | ⟨rfl, rfl⟩ | ⟨rfl, rfl⟩ | ⟨rfl, rfl⟩ | ⟨rfl, rfl⟩ | ⟨rfl, rfl⟩ | ⟨rfl, rfl⟩ | ⟨rfl, rfl⟩ | ⟨rfl, rfl⟩ | ⟨rfl, rfl⟩ | ⟨rfl, rfl⟩ | ⟨rfl, rfl⟩ | ⟨rfl, rfl⟩ | ⟨rfl, rfl⟩ | ⟨rfl, rfl⟩ | ⟨rfl, rfl⟩ | ⟨rfl, rfl⟩ | ⟨rfl, rfl⟩ | ⟨rfl, rfl⟩ | ⟨rfl, rfl⟩ | ⟨rfl, rfl⟩ | ⟨rfl, rfl⟩ | ⟨rfl, rfl⟩ | ⟨rfl, rfl⟩ | ⟨rfl, rfl⟩ | ⟨rfl, rfl⟩
  · exact fk5_115
  · exact fk5_85
  · exact fk5_88
  · exact fk5_91
  · exact fk5_94
  · exact fk5_97
  · exact fk5_100
  · exact fk5_78
  · exact fk5_60
  · exact fk5_56
  · exact fk5_68
  · exact fk5_71
  · exact fk5_190
  · exact fk5_191
  · exact fk5_81
  · exact fk5_207
  · exact fk5_198
  · exact fk5_219
  · exact fk5_10
  · exact fk5_16
  · exact fk5_22
  · exact fk5_29
  · exact fk5_35
  · exact fk5_41
  · exact fk5_47
  · exact fk5_213
theorem ck5_118 : COK RX5 118 (.inr (.inr 100)) := Or.inl ⟨rfl, Or.inl (mg 356 (by decide +kernel) (by decide +kernel))⟩
theorem ck5_122 : COK RX5 122 (.inr (.inr 101)) := Or.inr (Or.inl ⟨rfl, Or.inl (mg 357 (by decide +kernel) (by decide +kernel))⟩)
theorem ck5_160 : COK RX5 160 (.inr (.inl (-1))) := mg 454 (by decide +kernel) (by decide +kernel)
theorem ck5_225 : COK RX5 225 (.inr (.inl 10)) := mg 468 (by decide +kernel) (by decide +kernel)
theorem ck5_189 : COK RX5 189 (.inl 1103515245) := mg 541 (by decide +kernel) (by decide +kernel)
theorem COK5 : ∀ i v, CX5 i = some v → COK RX5 i v := by
  intro i q h
  have hm : (i, q) ∈ CL5 := lk_mem h
  simp only [CL5, List.mem_cons, List.not_mem_nil, or_false, Prod.mk.injEq] at hm
  rcases hm with ⟨rfl, rfl⟩ | ⟨rfl, rfl⟩ | ⟨rfl, rfl⟩ | ⟨rfl, rfl⟩ | ⟨rfl, rfl⟩
  · exact ck5_118
  · exact ck5_122
  · exact ck5_160
  · exact ck5_225
  · exact ck5_189
theorem fk6_7 : FOK RX6 7 (6, 0, 2, 1) := fok6 (by decide) (mg 611 (by decide +kernel) (by decide +kernel)) rfl (fun h => absurd rfl h)
theorem fk6_13 : FOK RX6 13 (6, 1, 2, 2) := fok6 (by decide) (mg 612 (by decide +kernel) (by decide +kernel)) rfl (fun h => absurd rfl h)
theorem fk6_16 : FOK RX6 16 (6, 2, 2, 3) := fok6 (by decide) (mg 613 (by decide +kernel) (by decide +kernel)) rfl (fun h => absurd rfl h)
theorem fk6_20 : FOK RX6 20 (6, 3, 2, 4) := fok6 (by decide) (mg 614 (by decide +kernel) (by decide +kernel)) rfl (fun h => absurd rfl h)
theorem fk6_53 : FOK RX6 53 (6, 4, 3, 0) := fok6 (by decide) (mg 615 (by decide +kernel) (by decide +kernel)) rfl (fun _ => ⟨by decide +kernel, by decide +kernel, by decide⟩)
theorem fk6_23 : FOK RX6 23 (6, 5, 2, 5) := fok6 (by decide) (mg 616 (by decide +kernel) (by decide +kernel)) rfl (fun h => absurd rfl h)
theorem fk6_63 : FOK RX6 63 (6, 6, 0, 0) := fok6 (by decide) (mg 617 (by decide +kernel) (by decide +kernel)) rfl (fun _ => ⟨by decide +kernel, by decide +kernel, by decide⟩)
theorem fk6_76 : FOK RX6 76 (6, 7, 0, 0) := fok6 (by decide) (mg 618 (by decide +kernel) (by decide +kernel)) rfl (fun _ => ⟨by decide +kernel, by decide +kernel, by decide⟩)
theorem fk6_70 : FOK RX6 70 (6, 8, 0, 0) := fok6 (by decide) (mg 619 (by decide +kernel) (by decide +kernel)) rfl (fun _ => ⟨by decide +kernel, by decide +kernel, by decide⟩)
theorem fk6_87 : FOK RX6 87 (6, 9, 0, 0) := fok6 (by decide) (mg 620 (by decide +kernel) (by decide +kernel)) rfl (fun _ => ⟨by decide +kernel, by decide +kernel, by decide⟩)
theorem fk6_98 : FOK RX6 98 (6, 10, 0, 0) := fok6 (by decide) (mg 621 (by decide +kernel) (by decide +kernel)) rfl (fun _ => ⟨by decide +kernel, by decide +kernel, by decide⟩)
theorem fk6_67 : FOK RX6 67 (6, 11, 0, 0) := fok6 (by decide) (mg 622 (by decide +kernel) (by decide +kernel)) rfl (fun _ => ⟨by decide +kernel, by decide +kernel, by decide⟩)
theorem fk6_73 : FOK RX6 73 (6, 12, 0, 0) := fok6 (by decide) (mg 623 (by decide +kernel) (by decide +kernel)) rfl (fun _ => ⟨by decide +kernel, by decide +kernel, by decide⟩)
theorem fk6_129 : FOK RX6 129 (6, 13, 0, 0) := fok6 (by decide) (mg 624 (by decide +kernel) (by decide +kernel)) rfl (fun _ => ⟨by decide +kernel, by decide +kernel, by decide⟩)
theorem fk6_132 : FOK RX6 132 (6, 14, 0, 0) := fok6 (by decide) (mg 625 (by decide +kernel) (by decide +kernel)) rfl (fun _ => ⟨by decide +kernel, by decide +kernel, by decide⟩)
theorem fk6_135 : FOK RX6 135 (6, 15, 0, 0) := fok6 (by decide) (mg 626 (by decide +kernel) (by decide +kernel)) rfl (fun _ => ⟨by decide +kernel, by decide +kernel, by decide⟩)
theorem fk6_138 : FOK RX6 138 (6, 16, 0, 0) := fok6 (by decide) (mg 627 (by decide +kernel) (by decide +kernel)) rfl (fun _ => ⟨by decide +kernel, by decide +kernel, by decide⟩)
theorem fk6_26 : FOK RX6 26 (6, 17, 2, 6) := fok6 (by decide) (mg 628 (by decide +kernel) (by decide +kernel)) rfl (fun h => absurd rfl h)
theorem fk6_212 : FOK RX6 212 (6, 18, 0, 0) := fok6 (by decide) (mg 629 (by decide +kernel) (by decide +kernel)) rfl (fun _ => ⟨by decide +kernel, by decide +kernel, by decide⟩)
theorem fk6_215 : FOK RX6 215 (6, 19, 0, 0) := fok6 (by decide) (mg 630 (by decide +kernel) (by decide +kernel)) rfl (fun _ => ⟨by decide +kernel, by decide +kernel, by decide⟩)
theorem fk6_238 : FOK RX6 238 (6, 20, 1, 0) := fok6 (by decide) (mg 631 (by decide +kernel) (by decide +kernel)) rfl (fun _ => ⟨by decide +kernel, by decide +kernel, by decide⟩)
theorem fk6_242 : FOK RX6 242 (6, 21, 1, 0) := fok6 (by decide) (mg 632 (by decide +kernel) (by decide +kernel)) rfl (fun _ => ⟨by decide +kernel, by decide +kernel, by decide⟩)
theorem fk6_245 : FOK RX6 245 (6, 22, 1, 0) := fok6 (by decide) (mg 633 (by decide +kernel) (by decide +kernel)) rfl (fun _ => ⟨by decide +kernel, by decide +kernel, by decide⟩)
theorem fk6_29 : FOK RX6 29 (6, 23, 2, 7) := fok6 (by decide) (mg 634 (by decide +kernel) (by decide +kernel)) rfl (fun h => absurd rfl h)
theorem fk6_32 : FOK RX6 32 (6, 24, 2, 8) := fok6 (by decide) (mg 635 (by decide +kernel) (by decide +kernel)) rfl (fun h => absurd rfl h)
theorem fk6_35 : FOK RX6 35 (6, 25, 2, 9) := fok6 (by decide) (mg 636 (by decide +kernel) (by decide +kernel)) rfl (fun h => absurd rfl h)
theorem fk6_38 : FOK RX6 38 (6, 26, 2, 10) := fok6 (by decide) (mg 637 (by decide +kernel) (by decide +kernel)) rfl (fun h => absurd rfl h)
theorem fk6_41 : FOK RX6 41 (6, 27, 2, 11) := fok6 (by decide) (mg 638 (by decide +kernel) (by decide +kernel)) rfl (fun h => absurd rfl h)
theorem fk6_283 : FOK RX6 283 (6, 28, 0, 0) := fok6 (by decide) (mg 639 (by decide +kernel) (by decide +kernel)) rfl (fun _ => ⟨by decide +kernel, by decide +kernel, by decide⟩)
theorem fk6_44 : FOK RX6 44 (6, 29, 2, 12) := fok6 (by decide) (mg 640 (by decide +kernel) (by decide +kernel)) rfl (fun h => absurd rfl h)
theorem FOK6 : ∀ i q, FX6 i = some q → FOK RX6 i q := by
  intro i q h
  have hm : (i, q) ∈ FL6 := lk_mem h
  simp only [FL6, List.mem_cons, List.not_mem_nil, or_false, Prod.mk.injEq] at hm
  rcases hm with ⟨rfl, rfl⟩ | ⟨rfl, rfl⟩ | ⟨rfl, rfl⟩ | ⟨rfl, rfl⟩ | ⟨rfl, rfl⟩ | ⟨rfl, rfl⟩ | ⟨rfl, rfl⟩ | ⟨rfl, rfl⟩ | ⟨rfl, rfl⟩ | ⟨rfl, rfl⟩ | ⟨rfl, rfl⟩ | ⟨rfl, rfl⟩ | ⟨rfl, rfl⟩ | ⟨rfl, rfl⟩ | ⟨rfl, rfl⟩ | ⟨rfl, rfl⟩ | ⟨rfl, rfl⟩ | ⟨rfl, rfl⟩ | ⟨rfl, rfl⟩ | ⟨rfl, rfl⟩ | ⟨rfl, rfl⟩ | ⟨rfl, rfl⟩ | ⟨rfl, rfl⟩ | ⟨rfl, rfl⟩ | ⟨rfl, rfl⟩ | ⟨rfl, rfl⟩ | ⟨rfl, rfl⟩ | ⟨rfl, rfl⟩ | ⟨rfl, rfl⟩ | ⟨rfl, rfl⟩
  · exact fk6_7
  · exact fk6_13
  · exact fk6_16
  · exact fk6_20
  · exact fk6_53
  · exact fk6_23
  · exact fk6_63
  · exact fk6_76
  · exact fk6_70
  · exact fk6_87
  · exact fk6_98
  · exact fk6_67
  · exact fk6_73
  · exact fk6_129
  · exact fk6_132
  · exact fk6_135
  · exact fk6_138
  · exact fk6_26
  · exact fk6_212
  · exact fk6_215
  · exact fk6_238
  · exact fk6_242
  · exact fk6_245
  · exact fk6_29
  · exact fk6_32
  · exact fk6_35
  · exact fk6_38
  · exact fk6_41
  · exact fk6_283
  · exact fk6_44
theorem ck6_57 : COK RX6 57 (.inr (.inl 127)) := mg 707 (by decide +kernel) (by decide +kernel)
theorem ck6_90 : COK RX6 90 (.inr (.inl 97)) := mg 727 (by decide +kernel) (by decide +kernel)
theorem ck6_92 : COK RX6 92 (.inr (.inl 122)) := mg 728 (by decide +kernel) (by decide +kernel)
theorem ck6_94 : COK RX6 94 (.inr (.inl 48)) := mg 729 (by decide +kernel) (by decide +kernel)
theorem ck6_96 : COK RX6 96 (.inr (.inl 57)) := mg 730 (by decide +kernel) (by decide +kernel)
theorem ck6_183 : COK RX6 183 (.inr (.inl 6)) := mg 800 (by decide +kernel) (by decide +kernel)
theorem ck6_185 : COK RX6 185 (.inr (.inl 4)) := mg 805 (by decide +kernel) (by decide +kernel)
theorem ck6_190 : COK RX6 190 (.inr (.inl 99)) := mg 818 (by decide +kernel) (by decide +kernel)
theorem ck6_141 : COK RX6 141 (.inl 999999) := mg 831 (by decide +kernel) (by decide +kernel)
theorem ck6_198 : COK RX6 198 (.inr (.inl 100)) := mg 848 (by decide +kernel) (by decide +kernel)
theorem ck6_203 : COK RX6 203 (.inr (.inl 200)) := mg 867 (by decide +kernel) (by decide +kernel)
theorem ck6_208 : COK RX6 208 (.inr (.inl 3)) := mg 868 (by decide +kernel) (by decide +kernel)
theorem ck6_210 : COK RX6 210 (.inr (.inl 2)) := mg 873 (by decide +kernel) (by decide +kernel)
theorem ck6_230 : COK RX6 230 (.inl 1000000000) := mg 901 (by decide +kernel) (by decide +kernel)
theorem ck6_248 : COK RX6 248 (.inr (.inl 10)) := mg 922 (by decide +kernel) (by decide +kernel)
theorem ck6_250 : COK RX6 250 (.inr (.inl 8)) := mg 923 (by decide +kernel) (by decide +kernel)
theorem ck6_252 : COK RX6 252 (.inr (.inl (-1))) := mg 924 (by decide +kernel) (by decide +kernel)
theorem ck6_262 : COK RX6 262 (.inr (.inl 40)) := mg 943 (by decide +kernel) (by decide +kernel)
theorem ck6_271 : COK RX6 271 (.inl 1103515245) := mg 972 (by decide +kernel) (by decide +kernel)
theorem ck6_278 : COK RX6 278 (.inr (.inl 20)) := mg 1000 (by decide +kernel) (by decide +kernel)
theorem COK6 : ∀ i v, CX6 i = some v → COK RX6 i v := by
  intro i q h
  have hm : (i, q) ∈ CL6 := lk_mem h
  simp only [CL6, List.mem_cons, List.not_mem_nil, or_false, Prod.mk.injEq] at hm
  rcases hm with ⟨rfl, rfl⟩ | ⟨rfl, rfl⟩ | ⟨rfl, rfl⟩ | ⟨rfl, rfl⟩ | ⟨rfl, rfl⟩ | ⟨rfl, rfl⟩ | ⟨rfl, rfl⟩ | ⟨rfl, rfl⟩ | ⟨rfl, rfl⟩ | ⟨rfl, rfl⟩ | ⟨rfl, rfl⟩ | ⟨rfl, rfl⟩ | ⟨rfl, rfl⟩ | ⟨rfl, rfl⟩ | ⟨rfl, rfl⟩ | ⟨rfl, rfl⟩ | ⟨rfl, rfl⟩ | ⟨rfl, rfl⟩ | ⟨rfl, rfl⟩ | ⟨rfl, rfl⟩
  · exact ck6_57
  · exact ck6_90
  · exact ck6_92
  · exact ck6_94
  · exact ck6_96
  · exact ck6_183
  · exact ck6_185
  · exact ck6_190
  · exact ck6_141
  · exact ck6_198
  · exact ck6_203
  · exact ck6_208
  · exact ck6_210
  · exact ck6_230
  · exact ck6_248
  · exact ck6_250
  · exact ck6_252
  · exact ck6_262
  · exact ck6_271
  · exact ck6_278
end
section
/-! the kinds and lengths of the places -/
theorem kd_0 : kd 0 = 5 := rfl
theorem ln_0 : ln 0 = 0 := rfl
theorem kd_1 : kd 1 = 1 := rfl
theorem ln_1 : ln 1 = 0 := rfl
theorem kd_2 : kd 2 = 12 := rfl
theorem ln_2 : ln 2 = 5 := rfl
theorem kd_3 : kd 3 = 7 := rfl
theorem ln_3 : ln 3 = 7 := rfl
theorem kd_4 : kd 4 = 7 := rfl
theorem ln_4 : ln 4 = 7 := rfl
theorem kd_5 : kd 5 = 7 := rfl
theorem ln_5 : ln 5 = 7 := rfl
theorem kd_6 : kd 6 = 7 := rfl
theorem ln_6 : ln 6 = 7 := rfl
theorem kd_7 : kd 7 = 7 := rfl
theorem ln_7 : ln 7 = 7 := rfl
theorem kd_8 : kd 8 = 1 := rfl
theorem ln_8 : ln 8 = 0 := rfl
theorem kd_9 : kd 9 = 12 := rfl
theorem ln_9 : ln 9 = 5 := rfl
theorem kd_10 : kd 10 = 7 := rfl
theorem ln_10 : ln 10 = 7 := rfl
theorem kd_11 : kd 11 = 7 := rfl
theorem ln_11 : ln 11 = 7 := rfl
theorem kd_12 : kd 12 = 7 := rfl
theorem ln_12 : ln 12 = 7 := rfl
theorem kd_13 : kd 13 = 7 := rfl
theorem ln_13 : ln 13 = 7 := rfl
theorem kd_14 : kd 14 = 7 := rfl
theorem ln_14 : ln 14 = 7 := rfl
theorem kd_15 : kd 15 = 2 := rfl
theorem ln_15 : ln 15 = 0 := rfl
theorem kd_16 : kd 16 = 7 := rfl
theorem ln_16 : ln 16 = 6 := rfl
theorem kd_17 : kd 17 = 7 := rfl
theorem ln_17 : ln 17 = 6 := rfl
theorem kd_18 : kd 18 = 7 := rfl
theorem ln_18 : ln 18 = 6 := rfl
theorem kd_19 : kd 19 = 4 := rfl
theorem ln_19 : ln 19 = 0 := rfl
theorem kd_20 : kd 20 = 8 := rfl
theorem ln_20 : ln 20 = 160 := rfl
theorem kd_21 : kd 21 = 10 := rfl
theorem ln_21 : ln 21 = 2 := rfl
theorem kd_22 : kd 22 = 0 := rfl
theorem ln_22 : ln 22 = 0 := rfl
theorem kd_23 : kd 23 = 1 := rfl
theorem ln_23 : ln 23 = 0 := rfl
theorem kd_24 : kd 24 = 12 := rfl
theorem ln_24 : ln 24 = 5 := rfl
theorem kd_25 : kd 25 = 7 := rfl
theorem ln_25 : ln 25 = 7 := rfl
theorem kd_26 : kd 26 = 7 := rfl
theorem ln_26 : ln 26 = 7 := rfl
theorem kd_27 : kd 27 = 7 := rfl
theorem ln_27 : ln 27 = 7 := rfl
theorem kd_28 : kd 28 = 7 := rfl
theorem ln_28 : ln 28 = 7 := rfl
theorem kd_29 : kd 29 = 7 := rfl
theorem ln_29 : ln 29 = 7 := rfl
theorem kd_30 : kd 30 = 2 := rfl
theorem ln_30 : ln 30 = 0 := rfl
theorem kd_31 : kd 31 = 7 := rfl
theorem ln_31 : ln 31 = 6 := rfl
theorem kd_32 : kd 32 = 7 := rfl
theorem ln_32 : ln 32 = 6 := rfl
theorem kd_33 : kd 33 = 7 := rfl
theorem ln_33 : ln 33 = 6 := rfl
theorem kd_34 : kd 34 = 0 := rfl
theorem ln_34 : ln 34 = 0 := rfl
theorem kd_35 : kd 35 = 1 := rfl
theorem ln_35 : ln 35 = 0 := rfl
theorem kd_36 : kd 36 = 12 := rfl
theorem ln_36 : ln 36 = 5 := rfl
theorem kd_37 : kd 37 = 7 := rfl
theorem ln_37 : ln 37 = 7 := rfl
theorem kd_38 : kd 38 = 7 := rfl
theorem ln_38 : ln 38 = 7 := rfl
theorem kd_39 : kd 39 = 7 := rfl
theorem ln_39 : ln 39 = 7 := rfl
theorem kd_40 : kd 40 = 7 := rfl
theorem ln_40 : ln 40 = 7 := rfl
theorem kd_41 : kd 41 = 7 := rfl
theorem ln_41 : ln 41 = 7 := rfl
theorem kd_42 : kd 42 = 2 := rfl
theorem ln_42 : ln 42 = 0 := rfl
theorem kd_43 : kd 43 = 7 := rfl
theorem ln_43 : ln 43 = 6 := rfl
theorem kd_44 : kd 44 = 7 := rfl
theorem ln_44 : ln 44 = 6 := rfl
theorem kd_45 : kd 45 = 7 := rfl
theorem ln_45 : ln 45 = 6 := rfl
theorem kd_46 : kd 46 = 11 := rfl
theorem ln_46 : ln 46 = 4 := rfl
theorem kd_47 : kd 47 = 3 := rfl
theorem ln_47 : ln 47 = 0 := rfl
theorem kd_48 : kd 48 = 7 := rfl
theorem ln_48 : ln 48 = 40 := rfl
theorem kd_49 : kd 49 = 3 := rfl
theorem ln_49 : ln 49 = 0 := rfl
theorem kd_50 : kd 50 = 7 := rfl
theorem ln_50 : ln 50 = 40 := rfl
theorem kd_51 : kd 51 = 3 := rfl
theorem ln_51 : ln 51 = 0 := rfl
theorem kd_52 : kd 52 = 7 := rfl
theorem ln_52 : ln 52 = 40 := rfl
theorem kd_53 : kd 53 = 3 := rfl
theorem ln_53 : ln 53 = 0 := rfl
theorem kd_54 : kd 54 = 7 := rfl
theorem ln_54 : ln 54 = 40 := rfl
theorem kd_55 : kd 55 = 15 := rfl
theorem ln_55 : ln 55 = 10 := rfl
theorem kd_56 : kd 56 = 7 := rfl
theorem ln_56 : ln 56 = 41 := rfl
theorem kd_57 : kd 57 = 7 := rfl
theorem ln_57 : ln 57 = 41 := rfl
theorem kd_58 : kd 58 = 7 := rfl
theorem ln_58 : ln 58 = 41 := rfl
theorem kd_59 : kd 59 = 7 := rfl
theorem ln_59 : ln 59 = 41 := rfl
theorem kd_60 : kd 60 = 7 := rfl
theorem ln_60 : ln 60 = 41 := rfl
theorem kd_61 : kd 61 = 7 := rfl
theorem ln_61 : ln 61 = 41 := rfl
theorem kd_62 : kd 62 = 7 := rfl
theorem ln_62 : ln 62 = 41 := rfl
theorem kd_63 : kd 63 = 7 := rfl
theorem ln_63 : ln 63 = 41 := rfl
theorem kd_64 : kd 64 = 7 := rfl
theorem ln_64 : ln 64 = 41 := rfl
theorem kd_65 : kd 65 = 7 := rfl
theorem ln_65 : ln 65 = 41 := rfl
theorem kd_66 : kd 66 = 6 := rfl
theorem ln_66 : ln 66 = 0 := rfl
theorem kd_67 : kd 67 = 7 := rfl
theorem ln_67 : ln 67 = 180 := rfl
theorem kd_68 : kd 68 = 7 := rfl
theorem ln_68 : ln 68 = 60 := rfl
theorem kd_69 : kd 69 = 9 := rfl
theorem ln_69 : ln 69 = 2 := rfl
theorem kd_70 : kd 70 = 7 := rfl
theorem ln_70 : ln 70 = 60 := rfl
theorem kd_71 : kd 71 = 7 := rfl
theorem ln_71 : ln 71 = 160 := rfl
theorem kd_72 : kd 72 = 7 := rfl
theorem ln_72 : ln 72 = 5 := rfl
theorem kd_73 : kd 73 = 7 := rfl
theorem ln_73 : ln 73 = 205 := rfl
theorem kd_74 : kd 74 = 7 := rfl
theorem ln_74 : ln 74 = 410 := rfl
theorem kd_75 : kd 75 = 7 := rfl
theorem ln_75 : ln 75 = 4 := rfl
theorem kd_76 : kd 76 = 7 := rfl
theorem ln_76 : ln 76 = 4 := rfl
theorem kd_77 : kd 77 = 7 := rfl
theorem ln_77 : ln 77 = 160 := rfl
theorem kd_78 : kd 78 = 7 := rfl
theorem ln_78 : ln 78 = 60 := rfl
theorem kd_100 : kd 100 = 13 := rfl
theorem kd_101 : kd 101 = 13 := rfl
end
section
/-! the reference's small methods -/
def T6_in : TT := fun a μ K => match a with
  | [.inr (.inl v), .inr (.inl lo), .inr (.inl hi)] => InL v ∧ InL lo ∧ InL hi ∧ (lo ≤ v ∧ v ≤ hi → K [.inl 1] μ) ∧ (¬ (lo ≤ v ∧ v ≤ hi) → K [.inl 0] μ)
  | _ => False
def GL_X6_in : List (Nat × Nat × Bool × TT) := []
def G_X6_in : Nat → Option (Nat × Bool × TT) := fun i => GL_X6_in.lookup i
theorem gk_X6_in (l : Launch) : ∀ i n b T, G_X6_in i = some (n, b, T) → CallOK l 0 RX6 i n b T := by
  intro i n b T h
  have hm : (i, n, b, T) ∈ GL_X6_in := lk_mem h
  simp [GL_X6_in] at hm
set_option maxRecDepth 20000 in
set_option maxHeartbeats 4000000 in
theorem body_X6_in (v : Int) (lo : Int) (hi : Int) (μ : Mem) (K : List AV → Mem → Prop) (V : Nat → List (Option AV) → List AV → Mem → Prop) (hV : Clos FX6 CX6 G_X6_in 2 K cX6_in V) (hT : InL v ∧ InL lo ∧ InL hi ∧ (lo ≤ v ∧ v ≤ hi → K [.inl 1] μ) ∧ (¬ (lo ≤ v ∧ v ≤ hi) → K [.inl 0] μ)) : V 0 [some (.inr (.inl v)), none, some (.inr (.inl lo)), none, some (.inr (.inl hi)), none] [] μ := by
  simp only [InL] at hT
  obtain ⟨h1, h2, h3, h4, h5⟩ := hT
  apply hV [] 60
  simp only [InR, InL, inb, Int.toNat_natCast, wp1, wpc_z, wpc_s, stp_iconst, stp_bipush, stp_sipush, stp_lconst, stp_iload_n, stp_iload, stp_lload_n, stp_lload, stp_aload_n, stp_aload, stp_istore_n, stp_istore, stp_lstore_n, stp_lstore, stp_astore_n, stp_astore, stp_iinc, stp_iadd, stp_isub, stp_imul, stp_ineg, stp_idiv, stp_irem, stp_ladd, stp_lmul, stp_ldiv, stp_lrem, stp_ishl, stp_ishr, stp_iushr, stp_iand, stp_ior, stp_i2l, stp_i2b, stp_i2s, stp_lcmp, stp_dup, stp_dup2, stp_pop, stp_ifCond, stp_if_icmp, stp_goto, stp_tableswitch, stp_lookupswitch, stp_ldc, stp_ldc2_w, stp_getstatic, stp_getfield, stp_putfield, stp_iaload, stp_baload, stp_iastore, stp_bastore, stp_aaload, stp_aastore, stp_invokevirtual, stp_invokestatic, stp_ireturn, stp_lreturn, stp_return_, lg, lset, okl, spl, wd, c1, cnd, tg, swT, swL, f4_0, f4_1, f4_2, f4_3, f2_0, f2_1, List.mem_cons, List.not_mem_nil, List.length_cons, List.length_nil, List.cons_append, List.nil_append, Nat.reduceAdd, Nat.reduceMul, Nat.reduceLT, Nat.reduceEqDiff, Nat.reduceLeDiff, Int.reduceAdd, Int.reduceNeg, Int.reduceToNat, Int.cast_ofNat_Int, Int.reduceNatCast, Int.toNat_zero, Int.toNat_one, Int.reduceLE, Int.reduceLT, Int.reduceEq, Int.zero_add, Int.add_zero, or_false, false_or, or_true, true_or, and_true, true_and, and_false, false_and, reduceIte, not_true_eq_false, not_false_eq_true, forall_const, false_implies, true_implies, implies_true, ne_eq, reduceCtorEq, List.all_cons, List.all_nil, Bool.and_true, Bool.and_self, decide_eq_true_eq, decide_true, dX6_in_0, dX6_in_1, dX6_in_2, dX6_in_3, dX6_in_6, dX6_in_7, dX6_in_9, dX6_in_10, dX6_in_13, dX6_in_14, dX6_in_17, dX6_in_18]
  repeat' (first | exact trivial | omega | (with_reducible assumption) | exact absurd trivial (by with_reducible assumption) | contradiction | apply And.intro | intro _)
  all_goals first | exact h4 ⟨by omega, by omega⟩ | exact h5 (by omega)
theorem good_X6_in (l : Launch) : Good l 0 yX6_in cX6_in 6 (some .boolean) T6_in := by
  refine Good.mk 2 (by decide) rfl (by simp [retOK]) FOK6 COK6 (gk_X6_in l) ?_ ?_
  · intro a μ K h
    unfold T6_in at h
    split at h
    · simp [entl]
    · exact h.elim
  · intro a μ K V hV h
    unfold T6_in at h
    split at h
    · exact body_X6_in _ _ _ μ K V hV h
    · exact h.elim

def T6_flag : TT := fun a μ K => match a with
  | [.inl b] => (b = 0 ∨ b = 1) ∧ K [.inl b] μ
  | _ => False
def GL_X6_flag : List (Nat × Nat × Bool × TT) := []
def G_X6_flag : Nat → Option (Nat × Bool × TT) := fun i => GL_X6_flag.lookup i
theorem gk_X6_flag (l : Launch) : ∀ i n b T, G_X6_flag i = some (n, b, T) → CallOK l 0 RX6 i n b T := by
  intro i n b T h
  have hm : (i, n, b, T) ∈ GL_X6_flag := lk_mem h
  simp [GL_X6_flag] at hm
set_option maxRecDepth 20000 in
set_option maxHeartbeats 4000000 in
theorem body_X6_flag (b : Int) (μ : Mem) (K : List AV → Mem → Prop) (V : Nat → List (Option AV) → List AV → Mem → Prop) (hV : Clos FX6 CX6 G_X6_flag 1 K cX6_flag V) (hT : (b = 0 ∨ b = 1) ∧ K [.inl b] μ) : V 0 [some (.inl b)] [] μ := by
  obtain ⟨h1, h2⟩ := hT
  apply hV [] 60
  simp only [InR, InL, inb, Int.toNat_natCast, wp1, wpc_z, wpc_s, stp_iconst, stp_bipush, stp_sipush, stp_lconst, stp_iload_n, stp_iload, stp_lload_n, stp_lload, stp_aload_n, stp_aload, stp_istore_n, stp_istore, stp_lstore_n, stp_lstore, stp_astore_n, stp_astore, stp_iinc, stp_iadd, stp_isub, stp_imul, stp_ineg, stp_idiv, stp_irem, stp_ladd, stp_lmul, stp_ldiv, stp_lrem, stp_ishl, stp_ishr, stp_iushr, stp_iand, stp_ior, stp_i2l, stp_i2b, stp_i2s, stp_lcmp, stp_dup, stp_dup2, stp_pop, stp_ifCond, stp_if_icmp, stp_goto, stp_tableswitch, stp_lookupswitch, stp_ldc, stp_ldc2_w, stp_getstatic, stp_getfield, stp_putfield, stp_iaload, stp_baload, stp_iastore, stp_bastore, stp_aaload, stp_aastore, stp_invokevirtual, stp_invokestatic, stp_ireturn, stp_lreturn, stp_return_, lg, lset, okl, spl, wd, c1, cnd, tg, swT, swL, f4_0, f4_1, f4_2, f4_3, f2_0, f2_1, List.mem_cons, List.not_mem_nil, List.length_cons, List.length_nil, List.cons_append, List.nil_append, Nat.reduceAdd, Nat.reduceMul, Nat.reduceLT, Nat.reduceEqDiff, Nat.reduceLeDiff, Int.reduceAdd, Int.reduceNeg, Int.reduceToNat, Int.cast_ofNat_Int, Int.reduceNatCast, Int.toNat_zero, Int.toNat_one, Int.reduceLE, Int.reduceLT, Int.reduceEq, Int.zero_add, Int.add_zero, or_false, false_or, or_true, true_or, and_true, true_and, and_false, false_and, reduceIte, not_true_eq_false, not_false_eq_true, forall_const, false_implies, true_implies, implies_true, ne_eq, reduceCtorEq, List.all_cons, List.all_nil, Bool.and_true, Bool.and_self, decide_eq_true_eq, decide_true, dX6_flag_0, dX6_flag_1, dX6_flag_4, dX6_flag_5, dX6_flag_8, dX6_flag_9]
  rcases h1 with rfl | rfl
  · repeat' (first | exact trivial | omega | (with_reducible assumption) | exact absurd trivial (by with_reducible assumption) | contradiction | apply And.intro | intro _)
    all_goals first | exact h2 | omega
  · repeat' (first | exact trivial | omega | (with_reducible assumption) | exact absurd trivial (by with_reducible assumption) | contradiction | apply And.intro | intro _)
    all_goals first | exact h2 | omega
theorem good_X6_flag (l : Launch) : Good l 0 yX6_flag cX6_flag 1 (some .int) T6_flag := by
  refine Good.mk 1 (by decide) rfl (by simp [retOK]) FOK6 COK6 (gk_X6_flag l) ?_ ?_
  · intro a μ K h
    unfold T6_flag at h
    split at h
    · simp [entl]
    · exact h.elim
  · intro a μ K V hV h
    unfold T6_flag at h
    split at h
    · exact body_X6_flag _ μ K V hV h
    · exact h.elim

def T6_lesser : TT := fun a μ K => match a with
  | [.inl a, .inl b] => InR a ∧ InR b ∧ K [.inl (min a b)] μ
  | _ => False
def GL_X6_lesser : List (Nat × Nat × Bool × TT) := []
def G_X6_lesser : Nat → Option (Nat × Bool × TT) := fun i => GL_X6_lesser.lookup i
theorem gk_X6_lesser (l : Launch) : ∀ i n b T, G_X6_lesser i = some (n, b, T) → CallOK l 0 RX6 i n b T := by
  intro i n b T h
  have hm : (i, n, b, T) ∈ GL_X6_lesser := lk_mem h
  simp [GL_X6_lesser] at hm
set_option maxRecDepth 20000 in
set_option maxHeartbeats 4000000 in
theorem body_X6_lesser (a : Int) (b : Int) (μ : Mem) (K : List AV → Mem → Prop) (V : Nat → List (Option AV) → List AV → Mem → Prop) (hV : Clos FX6 CX6 G_X6_lesser 1 K cX6_lesser V) (hT : InR a ∧ InR b ∧ K [.inl (min a b)] μ) : V 0 [some (.inl a), some (.inl b)] [] μ := by
  simp only [InR] at hT
  obtain ⟨h1, h2, h3⟩ := hT
  apply hV [] 60
  simp only [InR, InL, inb, Int.toNat_natCast, wp1, wpc_z, wpc_s, stp_iconst, stp_bipush, stp_sipush, stp_lconst, stp_iload_n, stp_iload, stp_lload_n, stp_lload, stp_aload_n, stp_aload, stp_istore_n, stp_istore, stp_lstore_n, stp_lstore, stp_astore_n, stp_astore, stp_iinc, stp_iadd, stp_isub, stp_imul, stp_ineg, stp_idiv, stp_irem, stp_ladd, stp_lmul, stp_ldiv, stp_lrem, stp_ishl, stp_ishr, stp_iushr, stp_iand, stp_ior, stp_i2l, stp_i2b, stp_i2s, stp_lcmp, stp_dup, stp_dup2, stp_pop, stp_ifCond, stp_if_icmp, stp_goto, stp_tableswitch, stp_lookupswitch, stp_ldc, stp_ldc2_w, stp_getstatic, stp_getfield, stp_putfield, stp_iaload, stp_baload, stp_iastore, stp_bastore, stp_aaload, stp_aastore, stp_invokevirtual, stp_invokestatic, stp_ireturn, stp_lreturn, stp_return_, lg, lset, okl, spl, wd, c1, cnd, tg, swT, swL, f4_0, f4_1, f4_2, f4_3, f2_0, f2_1, List.mem_cons, List.not_mem_nil, List.length_cons, List.length_nil, List.cons_append, List.nil_append, Nat.reduceAdd, Nat.reduceMul, Nat.reduceLT, Nat.reduceEqDiff, Nat.reduceLeDiff, Int.reduceAdd, Int.reduceNeg, Int.reduceToNat, Int.cast_ofNat_Int, Int.reduceNatCast, Int.toNat_zero, Int.toNat_one, Int.reduceLE, Int.reduceLT, Int.reduceEq, Int.zero_add, Int.add_zero, or_false, false_or, or_true, true_or, and_true, true_and, and_false, false_and, reduceIte, not_true_eq_false, not_false_eq_true, forall_const, false_implies, true_implies, implies_true, ne_eq, reduceCtorEq, List.all_cons, List.all_nil, Bool.and_true, Bool.and_self, decide_eq_true_eq, decide_true, dX6_lesser_0, dX6_lesser_1, dX6_lesser_2, dX6_lesser_5, dX6_lesser_6, dX6_lesser_9, dX6_lesser_10]
  refine ⟨h1, h2, fun z => ?_, fun z => ?_⟩
  · rwa [show min a b = b by omega] at h3
  · rwa [show min a b = a by omega] at h3
theorem good_X6_lesser (l : Launch) : Good l 0 yX6_lesser cX6_lesser 2 (some .int) T6_lesser := by
  refine Good.mk 1 (by decide) rfl (by simp [retOK]) FOK6 COK6 (gk_X6_lesser l) ?_ ?_
  · intro a μ K h
    unfold T6_lesser at h
    split at h
    · simp [entl]
    · exact h.elim
  · intro a μ K V hV h
    unfold T6_lesser at h
    split at h
    · exact body_X6_lesser _ _ μ K V hV h
    · exact h.elim

def T6_of : TT := fun a μ K => match a with
  | [.inr (.inr o), .inl i, .inl w] => o = 66 ∧ ((0 ≤ 7 * i + w ∧ 7 * i + w < 60) ∧ K [.inl (rI μ 68 (7 * i + w).toNat)] μ)
  | _ => False
theorem rec_X6_of : ∀ a μ K, T6_of a μ K → ∃ k r, a = .inr (.inr k) :: r ∧ kd k = 6 := by
  intro a μ K h
  unfold T6_of at h
  split at h
  · exact ⟨_, _, rfl, by rw [h.1]; rfl⟩
  · exact h.elim
def GL_X6_of : List (Nat × Nat × Bool × TT) := []
def G_X6_of : Nat → Option (Nat × Bool × TT) := fun i => GL_X6_of.lookup i
theorem gk_X6_of (l : Launch) : ∀ i n b T, G_X6_of i = some (n, b, T) → CallOK l 0 RX6 i n b T := by
  intro i n b T h
  have hm : (i, n, b, T) ∈ GL_X6_of := lk_mem h
  simp [GL_X6_of] at hm
set_option maxRecDepth 20000 in
set_option maxHeartbeats 4000000 in
theorem body_X6_of (o : Nat) (i : Int) (w : Int) (μ : Mem) (K : List AV → Mem → Prop) (V : Nat → List (Option AV) → List AV → Mem → Prop) (hV : Clos FX6 CX6 G_X6_of 1 K cX6_of V) (hT : o = 66 ∧ ((0 ≤ 7 * i + w ∧ 7 * i + w < 60) ∧ K [.inl (rI μ 68 (7 * i + w).toNat)] μ)) : V 0 [some (.inr (.inr o)), some (.inl i), some (.inl w)] [] μ := by
  obtain ⟨rfl, h1, h2⟩ := hT
  apply hV [] 60
  simp only [InR, InL, inb, Int.toNat_natCast, wp1, wpc_z, wpc_s, stp_iconst, stp_bipush, stp_sipush, stp_lconst, stp_iload_n, stp_iload, stp_lload_n, stp_lload, stp_aload_n, stp_aload, stp_istore_n, stp_istore, stp_lstore_n, stp_lstore, stp_astore_n, stp_astore, stp_iinc, stp_iadd, stp_isub, stp_imul, stp_ineg, stp_idiv, stp_irem, stp_ladd, stp_lmul, stp_ldiv, stp_lrem, stp_ishl, stp_ishr, stp_iushr, stp_iand, stp_ior, stp_i2l, stp_i2b, stp_i2s, stp_lcmp, stp_dup, stp_dup2, stp_pop, stp_ifCond, stp_if_icmp, stp_goto, stp_tableswitch, stp_lookupswitch, stp_ldc, stp_ldc2_w, stp_getstatic, stp_getfield, stp_putfield, stp_iaload, stp_baload, stp_iastore, stp_bastore, stp_aaload, stp_aastore, stp_invokevirtual, stp_invokestatic, stp_ireturn, stp_lreturn, stp_return_, lg, lset, okl, spl, wd, c1, cnd, tg, swT, swL, f4_0, f4_1, f4_2, f4_3, f2_0, f2_1, List.mem_cons, List.not_mem_nil, List.length_cons, List.length_nil, List.cons_append, List.nil_append, Nat.reduceAdd, Nat.reduceMul, Nat.reduceLT, Nat.reduceEqDiff, Nat.reduceLeDiff, Int.reduceAdd, Int.reduceNeg, Int.reduceToNat, Int.cast_ofNat_Int, Int.reduceNatCast, Int.toNat_zero, Int.toNat_one, Int.reduceLE, Int.reduceLT, Int.reduceEq, Int.zero_add, Int.add_zero, or_false, false_or, or_true, true_or, and_true, true_and, and_false, false_and, reduceIte, not_true_eq_false, not_false_eq_true, forall_const, false_implies, true_implies, implies_true, ne_eq, reduceCtorEq, List.all_cons, List.all_nil, Bool.and_true, Bool.and_self, decide_eq_true_eq, decide_true, dX6_of_0, dX6_of_1, dX6_of_4, dX6_of_6, dX6_of_7, dX6_of_8, dX6_of_9, dX6_of_10, dX6_of_11, FX6_13, kd_66, kd_67, kd_68, kd_69, kd_70, kd_71, kd_72, kd_73, kd_74, kd_75, kd_76, kd_77, kd_78, ln_66, ln_67, ln_68, ln_69, ln_70, ln_71, ln_72, ln_73, ln_74, ln_75, ln_76, ln_77, ln_78]
  repeat' (first | exact trivial | omega | (with_reducible assumption) | exact absurd trivial (by with_reducible assumption) | contradiction | apply And.intro | intro _)
theorem good_X6_of (l : Launch) : Good l 0 yX6_of cX6_of 3 (some .int) T6_of := by
  refine Good.mk 1 (by decide) rfl (by simp [retOK]) FOK6 COK6 (gk_X6_of l) ?_ ?_
  · intro a μ K h
    unfold T6_of at h
    split at h
    · simp [entl]
    · exact h.elim
  · intro a μ K V hV h
    unfold T6_of at h
    split at h
    · exact body_X6_of _ _ _ μ K V hV h
    · exact h.elim

def T6_becomesOf : TT := fun a μ K => match a with
  | [.inr (.inr o), .inl i, .inl w, .inl v] => o = 66 ∧ ((0 ≤ 7 * i + w ∧ 7 * i + w < 60) ∧ K [] (wI μ 68 (7 * i + w).toNat v))
  | _ => False
theorem rec_X6_becomesOf : ∀ a μ K, T6_becomesOf a μ K → ∃ k r, a = .inr (.inr k) :: r ∧ kd k = 6 := by
  intro a μ K h
  unfold T6_becomesOf at h
  split at h
  · exact ⟨_, _, rfl, by rw [h.1]; rfl⟩
  · exact h.elim
def GL_X6_becomesOf : List (Nat × Nat × Bool × TT) := []
def G_X6_becomesOf : Nat → Option (Nat × Bool × TT) := fun i => GL_X6_becomesOf.lookup i
theorem gk_X6_becomesOf (l : Launch) : ∀ i n b T, G_X6_becomesOf i = some (n, b, T) → CallOK l 0 RX6 i n b T := by
  intro i n b T h
  have hm : (i, n, b, T) ∈ GL_X6_becomesOf := lk_mem h
  simp [GL_X6_becomesOf] at hm
set_option maxRecDepth 20000 in
set_option maxHeartbeats 4000000 in
theorem body_X6_becomesOf (o : Nat) (i : Int) (w : Int) (v : Int) (μ : Mem) (K : List AV → Mem → Prop) (V : Nat → List (Option AV) → List AV → Mem → Prop) (hV : Clos FX6 CX6 G_X6_becomesOf 0 K cX6_becomesOf V) (hT : o = 66 ∧ ((0 ≤ 7 * i + w ∧ 7 * i + w < 60) ∧ K [] (wI μ 68 (7 * i + w).toNat v))) : V 0 [some (.inr (.inr o)), some (.inl i), some (.inl w), some (.inl v)] [] μ := by
  obtain ⟨rfl, h1, h2⟩ := hT
  apply hV [] 60
  simp only [InR, InL, inb, Int.toNat_natCast, wp1, wpc_z, wpc_s, stp_iconst, stp_bipush, stp_sipush, stp_lconst, stp_iload_n, stp_iload, stp_lload_n, stp_lload, stp_aload_n, stp_aload, stp_istore_n, stp_istore, stp_lstore_n, stp_lstore, stp_astore_n, stp_astore, stp_iinc, stp_iadd, stp_isub, stp_imul, stp_ineg, stp_idiv, stp_irem, stp_ladd, stp_lmul, stp_ldiv, stp_lrem, stp_ishl, stp_ishr, stp_iushr, stp_iand, stp_ior, stp_i2l, stp_i2b, stp_i2s, stp_lcmp, stp_dup, stp_dup2, stp_pop, stp_ifCond, stp_if_icmp, stp_goto, stp_tableswitch, stp_lookupswitch, stp_ldc, stp_ldc2_w, stp_getstatic, stp_getfield, stp_putfield, stp_iaload, stp_baload, stp_iastore, stp_bastore, stp_aaload, stp_aastore, stp_invokevirtual, stp_invokestatic, stp_ireturn, stp_lreturn, stp_return_, lg, lset, okl, spl, wd, c1, cnd, tg, swT, swL, f4_0, f4_1, f4_2, f4_3, f2_0, f2_1, List.mem_cons, List.not_mem_nil, List.length_cons, List.length_nil, List.cons_append, List.nil_append, Nat.reduceAdd, Nat.reduceMul, Nat.reduceLT, Nat.reduceEqDiff, Nat.reduceLeDiff, Int.reduceAdd, Int.reduceNeg, Int.reduceToNat, Int.cast_ofNat_Int, Int.reduceNatCast, Int.toNat_zero, Int.toNat_one, Int.reduceLE, Int.reduceLT, Int.reduceEq, Int.zero_add, Int.add_zero, or_false, false_or, or_true, true_or, and_true, true_and, and_false, false_and, reduceIte, not_true_eq_false, not_false_eq_true, forall_const, false_implies, true_implies, implies_true, ne_eq, reduceCtorEq, List.all_cons, List.all_nil, Bool.and_true, Bool.and_self, decide_eq_true_eq, decide_true, dX6_becomesOf_0, dX6_becomesOf_1, dX6_becomesOf_4, dX6_becomesOf_6, dX6_becomesOf_7, dX6_becomesOf_8, dX6_becomesOf_9, dX6_becomesOf_10, dX6_becomesOf_11, dX6_becomesOf_12, FX6_13, kd_66, kd_67, kd_68, kd_69, kd_70, kd_71, kd_72, kd_73, kd_74, kd_75, kd_76, kd_77, kd_78, ln_66, ln_67, ln_68, ln_69, ln_70, ln_71, ln_72, ln_73, ln_74, ln_75, ln_76, ln_77, ln_78]
  repeat' (first | exact trivial | omega | (with_reducible assumption) | exact absurd trivial (by with_reducible assumption) | contradiction | apply And.intro | intro _)
theorem good_X6_becomesOf (l : Launch) : Good l 0 yX6_becomesOf cX6_becomesOf 4 none T6_becomesOf := by
  refine Good.mk 0 (by decide) rfl (by simp [retOK]) FOK6 COK6 (gk_X6_becomesOf l) ?_ ?_
  · intro a μ K h
    unfold T6_becomesOf at h
    split at h
    · simp [entl]
    · exact h.elim
  · intro a μ K V hV h
    unfold T6_becomesOf at h
    split at h
    · exact body_X6_becomesOf _ _ _ _ μ K V hV h
    · exact h.elim

def T6_becomes : TT := fun a μ K => match a with
  | [.inr (.inr o), .inl k, .inl v] => o = 66 ∧ ((0 ≤ k ∧ k < 180) ∧ K [.inl (rI μ 67 k.toNat)] (wI μ 67 k.toNat v))
  | _ => False
theorem rec_X6_becomes : ∀ a μ K, T6_becomes a μ K → ∃ k r, a = .inr (.inr k) :: r ∧ kd k = 6 := by
  intro a μ K h
  unfold T6_becomes at h
  split at h
  · exact ⟨_, _, rfl, by rw [h.1]; rfl⟩
  · exact h.elim
def GL_X6_becomes : List (Nat × Nat × Bool × TT) := []
def G_X6_becomes : Nat → Option (Nat × Bool × TT) := fun i => GL_X6_becomes.lookup i
theorem gk_X6_becomes (l : Launch) : ∀ i n b T, G_X6_becomes i = some (n, b, T) → CallOK l 0 RX6 i n b T := by
  intro i n b T h
  have hm : (i, n, b, T) ∈ GL_X6_becomes := lk_mem h
  simp [GL_X6_becomes] at hm
set_option maxRecDepth 20000 in
set_option maxHeartbeats 4000000 in
theorem body_X6_becomes (o : Nat) (k : Int) (v : Int) (μ : Mem) (K : List AV → Mem → Prop) (V : Nat → List (Option AV) → List AV → Mem → Prop) (hV : Clos FX6 CX6 G_X6_becomes 1 K cX6_becomes V) (hT : o = 66 ∧ ((0 ≤ k ∧ k < 180) ∧ K [.inl (rI μ 67 k.toNat)] (wI μ 67 k.toNat v))) : V 0 [some (.inr (.inr o)), some (.inl k), some (.inl v), none] [] μ := by
  obtain ⟨rfl, h1, h2⟩ := hT
  apply hV [] 60
  simp only [InR, InL, inb, Int.toNat_natCast, wp1, wpc_z, wpc_s, stp_iconst, stp_bipush, stp_sipush, stp_lconst, stp_iload_n, stp_iload, stp_lload_n, stp_lload, stp_aload_n, stp_aload, stp_istore_n, stp_istore, stp_lstore_n, stp_lstore, stp_astore_n, stp_astore, stp_iinc, stp_iadd, stp_isub, stp_imul, stp_ineg, stp_idiv, stp_irem, stp_ladd, stp_lmul, stp_ldiv, stp_lrem, stp_ishl, stp_ishr, stp_iushr, stp_iand, stp_ior, stp_i2l, stp_i2b, stp_i2s, stp_lcmp, stp_dup, stp_dup2, stp_pop, stp_ifCond, stp_if_icmp, stp_goto, stp_tableswitch, stp_lookupswitch, stp_ldc, stp_ldc2_w, stp_getstatic, stp_getfield, stp_putfield, stp_iaload, stp_baload, stp_iastore, stp_bastore, stp_aaload, stp_aastore, stp_invokevirtual, stp_invokestatic, stp_ireturn, stp_lreturn, stp_return_, lg, lset, okl, spl, wd, c1, cnd, tg, swT, swL, f4_0, f4_1, f4_2, f4_3, f2_0, f2_1, List.mem_cons, List.not_mem_nil, List.length_cons, List.length_nil, List.cons_append, List.nil_append, Nat.reduceAdd, Nat.reduceMul, Nat.reduceLT, Nat.reduceEqDiff, Nat.reduceLeDiff, Int.reduceAdd, Int.reduceNeg, Int.reduceToNat, Int.cast_ofNat_Int, Int.reduceNatCast, Int.toNat_zero, Int.toNat_one, Int.reduceLE, Int.reduceLT, Int.reduceEq, Int.zero_add, Int.add_zero, or_false, false_or, or_true, true_or, and_true, true_and, and_false, false_and, reduceIte, not_true_eq_false, not_false_eq_true, forall_const, false_implies, true_implies, implies_true, ne_eq, reduceCtorEq, List.all_cons, List.all_nil, Bool.and_true, Bool.and_self, decide_eq_true_eq, decide_true, dX6_becomes_0, dX6_becomes_1, dX6_becomes_4, dX6_becomes_5, dX6_becomes_6, dX6_becomes_7, dX6_becomes_8, dX6_becomes_11, dX6_becomes_12, dX6_becomes_13, dX6_becomes_14, dX6_becomes_15, FX6_7, kd_66, kd_67, kd_68, kd_69, kd_70, kd_71, kd_72, kd_73, kd_74, kd_75, kd_76, kd_77, kd_78, ln_66, ln_67, ln_68, ln_69, ln_70, ln_71, ln_72, ln_73, ln_74, ln_75, ln_76, ln_77, ln_78]
  repeat' (first | exact trivial | omega | (with_reducible assumption) | exact absurd trivial (by with_reducible assumption) | contradiction | apply And.intro | intro _)
theorem good_X6_becomes (l : Launch) : Good l 0 yX6_becomes cX6_becomes 4 (some .int) T6_becomes := by
  refine Good.mk 1 (by decide) rfl (by simp [retOK]) FOK6 COK6 (gk_X6_becomes l) ?_ ?_
  · intro a μ K h
    unfold T6_becomes at h
    split at h
    · simp [entl]
    · exact h.elim
  · intro a μ K V hV h
    unfold T6_becomes at h
    split at h
    · exact body_X6_becomes _ _ _ μ K V hV h
    · exact h.elim

def T6_growsTo : TT := fun a μ K => match a with
  | [.inr (.inr o), .inl c, .inl b] => o = 66 ∧ ((0 ≤ c ∧ c < 60) ∧ InR (rI μ 68 c.toNat + b) ∧ K [] (wI μ 68 c.toNat (min 999999 (rI μ 68 c.toNat + b))))
  | _ => False
theorem rec_X6_growsTo : ∀ a μ K, T6_growsTo a μ K → ∃ k r, a = .inr (.inr k) :: r ∧ kd k = 6 := by
  intro a μ K h
  unfold T6_growsTo at h
  split at h
  · exact ⟨_, _, rfl, by rw [h.1]; rfl⟩
  · exact h.elim
def GL_X6_growsTo : List (Nat × Nat × Bool × TT) := [(142, 2, true, T6_lesser)]
def G_X6_growsTo : Nat → Option (Nat × Bool × TT) := fun i => GL_X6_growsTo.lookup i
theorem G_X6_growsTo_142 : G_X6_growsTo 142 = some (2, true, T6_lesser) := rfl
theorem gk_X6_growsTo (l : Launch) : ∀ i n b T, G_X6_growsTo i = some (n, b, T) → CallOK l 1 RX6 i n b T := by
  intro i n b T h
  have hm : (i, n, b, T) ∈ GL_X6_growsTo := lk_mem h
  simp only [GL_X6_growsTo, List.mem_cons, List.not_mem_nil, or_false, Prod.mk.injEq] at hm
  rcases hm with ⟨rfl, rfl, rfl, rfl⟩
  · exact CallOK.S (d := 1) (own := RX6) (i := 142) (n := 2) (good_X6_lesser l) (by decide) (by decide) (mg 785 (by decide +kernel) (by decide +kernel)) (mg 786 (by decide +kernel) (by decide +kernel)) (mg 7 (by decide +kernel) (by decide +kernel)) (mg 787 (by decide +kernel) (by decide +kernel)) (by decide +kernel)
set_option maxRecDepth 20000 in
set_option maxHeartbeats 4000000 in
theorem body_X6_growsTo (o : Nat) (c : Int) (b : Int) (μ : Mem) (K : List AV → Mem → Prop) (V : Nat → List (Option AV) → List AV → Mem → Prop) (hV : Clos FX6 CX6 G_X6_growsTo 0 K cX6_growsTo V) (hT : o = 66 ∧ ((0 ≤ c ∧ c < 60) ∧ InR (rI μ 68 c.toNat + b) ∧ K [] (wI μ 68 c.toNat (min 999999 (rI μ 68 c.toNat + b))))) : V 0 [some (.inr (.inr o)), some (.inl c), some (.inl b)] [] μ := by
  simp only [InR] at hT
  obtain ⟨rfl, h1, h2, h3⟩ := hT
  apply hV [] 60
  simp only [InR, InL, inb, Int.toNat_natCast, wp1, wpc_z, wpc_s, stp_iconst, stp_bipush, stp_sipush, stp_lconst, stp_iload_n, stp_iload, stp_lload_n, stp_lload, stp_aload_n, stp_aload, stp_istore_n, stp_istore, stp_lstore_n, stp_lstore, stp_astore_n, stp_astore, stp_iinc, stp_iadd, stp_isub, stp_imul, stp_ineg, stp_idiv, stp_irem, stp_ladd, stp_lmul, stp_ldiv, stp_lrem, stp_ishl, stp_ishr, stp_iushr, stp_iand, stp_ior, stp_i2l, stp_i2b, stp_i2s, stp_lcmp, stp_dup, stp_dup2, stp_pop, stp_ifCond, stp_if_icmp, stp_goto, stp_tableswitch, stp_lookupswitch, stp_ldc, stp_ldc2_w, stp_getstatic, stp_getfield, stp_putfield, stp_iaload, stp_baload, stp_iastore, stp_bastore, stp_aaload, stp_aastore, stp_invokevirtual, stp_invokestatic, stp_ireturn, stp_lreturn, stp_return_, lg, lset, okl, spl, wd, c1, cnd, tg, swT, swL, f4_0, f4_1, f4_2, f4_3, f2_0, f2_1, List.mem_cons, List.not_mem_nil, List.length_cons, List.length_nil, List.cons_append, List.nil_append, Nat.reduceAdd, Nat.reduceMul, Nat.reduceLT, Nat.reduceEqDiff, Nat.reduceLeDiff, Int.reduceAdd, Int.reduceNeg, Int.reduceToNat, Int.cast_ofNat_Int, Int.reduceNatCast, Int.toNat_zero, Int.toNat_one, Int.reduceLE, Int.reduceLT, Int.reduceEq, Int.zero_add, Int.add_zero, or_false, false_or, or_true, true_or, and_true, true_and, and_false, false_and, reduceIte, not_true_eq_false, not_false_eq_true, forall_const, false_implies, true_implies, implies_true, ne_eq, reduceCtorEq, List.all_cons, List.all_nil, Bool.and_true, Bool.and_self, decide_eq_true_eq, decide_true, dX6_growsTo_0, dX6_growsTo_1, dX6_growsTo_4, dX6_growsTo_5, dX6_growsTo_7, dX6_growsTo_8, dX6_growsTo_11, dX6_growsTo_12, dX6_growsTo_13, dX6_growsTo_14, dX6_growsTo_15, dX6_growsTo_18, dX6_growsTo_19, FX6_13, CX6_141, G_X6_growsTo_142, kd_66, kd_67, kd_68, kd_69, kd_70, kd_71, kd_72, kd_73, kd_74, kd_75, kd_76, kd_77, kd_78, ln_66, ln_67, ln_68, ln_69, ln_70, ln_71, ln_72, ln_73, ln_74, ln_75, ln_76, ln_77, ln_78, T6_lesser]
  repeat' (first | exact trivial | omega | (with_reducible assumption) | exact absurd trivial (by with_reducible assumption) | contradiction | apply And.intro | intro _)
theorem good_X6_growsTo (l : Launch) : Good l 1 yX6_growsTo cX6_growsTo 3 none T6_growsTo := by
  refine Good.mk 0 (by decide) rfl (by simp [retOK]) FOK6 COK6 (gk_X6_growsTo l) ?_ ?_
  · intro a μ K h
    unfold T6_growsTo at h
    split at h
    · simp [entl]
    · exact h.elim
  · intro a μ K V hV h
    unfold T6_growsTo at h
    split at h
    · exact body_X6_growsTo _ _ _ μ K V hV h
    · exact h.elim

def T6_isStation : TT := fun a μ K => match a with
  | [.inr (.inr o), .inl i] => o = 66 ∧ (InR i ∧ (0 ≤ rI μ 67 35 ∧ rI μ 67 35 ≤ 5) ∧ (0 ≤ i ∧ i < rI μ 67 35 → K [.inl 1] μ) ∧ (¬ (0 ≤ i ∧ i < rI μ 67 35) → K [.inl 0] μ))
  | _ => False
theorem rec_X6_isStation : ∀ a μ K, T6_isStation a μ K → ∃ k r, a = .inr (.inr k) :: r ∧ kd k = 6 := by
  intro a μ K h
  unfold T6_isStation at h
  split at h
  · exact ⟨_, _, rfl, by rw [h.1]; rfl⟩
  · exact h.elim
def GL_X6_isStation : List (Nat × Nat × Bool × TT) := [(59, 3, true, T6_in)]
def G_X6_isStation : Nat → Option (Nat × Bool × TT) := fun i => GL_X6_isStation.lookup i
theorem G_X6_isStation_59 : G_X6_isStation 59 = some (3, true, T6_in) := rfl
theorem gk_X6_isStation (l : Launch) : ∀ i n b T, G_X6_isStation i = some (n, b, T) → CallOK l 1 RX6 i n b T := by
  intro i n b T h
  have hm : (i, n, b, T) ∈ GL_X6_isStation := lk_mem h
  simp only [GL_X6_isStation, List.mem_cons, List.not_mem_nil, or_false, Prod.mk.injEq] at hm
  rcases hm with ⟨rfl, rfl, rfl, rfl⟩
  · exact CallOK.S (d := 1) (own := RX6) (i := 59) (n := 3) (good_X6_in l) (by decide) (by decide) (mg 708 (by decide +kernel) (by decide +kernel)) (mg 709 (by decide +kernel) (by decide +kernel)) (mg 7 (by decide +kernel) (by decide +kernel)) (mg 710 (by decide +kernel) (by decide +kernel)) (by decide +kernel)
set_option maxRecDepth 20000 in
set_option maxHeartbeats 4000000 in
theorem body_X6_isStation (o : Nat) (i : Int) (μ : Mem) (K : List AV → Mem → Prop) (V : Nat → List (Option AV) → List AV → Mem → Prop) (hV : Clos FX6 CX6 G_X6_isStation 2 K cX6_isStation V) (hT : o = 66 ∧ (InR i ∧ (0 ≤ rI μ 67 35 ∧ rI μ 67 35 ≤ 5) ∧ (0 ≤ i ∧ i < rI μ 67 35 → K [.inl 1] μ) ∧ (¬ (0 ≤ i ∧ i < rI μ 67 35) → K [.inl 0] μ))) : V 0 [some (.inr (.inr o)), some (.inl i)] [] μ := by
  simp only [InR] at hT
  obtain ⟨rfl, h1, h2, h3, h4⟩ := hT
  apply hV [] 60
  simp only [InR, InL, inb, Int.toNat_natCast, wp1, wpc_z, wpc_s, stp_iconst, stp_bipush, stp_sipush, stp_lconst, stp_iload_n, stp_iload, stp_lload_n, stp_lload, stp_aload_n, stp_aload, stp_istore_n, stp_istore, stp_lstore_n, stp_lstore, stp_astore_n, stp_astore, stp_iinc, stp_iadd, stp_isub, stp_imul, stp_ineg, stp_idiv, stp_irem, stp_ladd, stp_lmul, stp_ldiv, stp_lrem, stp_ishl, stp_ishr, stp_iushr, stp_iand, stp_ior, stp_i2l, stp_i2b, stp_i2s, stp_lcmp, stp_dup, stp_dup2, stp_pop, stp_ifCond, stp_if_icmp, stp_goto, stp_tableswitch, stp_lookupswitch, stp_ldc, stp_ldc2_w, stp_getstatic, stp_getfield, stp_putfield, stp_iaload, stp_baload, stp_iastore, stp_bastore, stp_aaload, stp_aastore, stp_invokevirtual, stp_invokestatic, stp_ireturn, stp_lreturn, stp_return_, lg, lset, okl, spl, wd, c1, cnd, tg, swT, swL, f4_0, f4_1, f4_2, f4_3, f2_0, f2_1, List.mem_cons, List.not_mem_nil, List.length_cons, List.length_nil, List.cons_append, List.nil_append, Nat.reduceAdd, Nat.reduceMul, Nat.reduceLT, Nat.reduceEqDiff, Nat.reduceLeDiff, Int.reduceAdd, Int.reduceNeg, Int.reduceToNat, Int.cast_ofNat_Int, Int.reduceNatCast, Int.toNat_zero, Int.toNat_one, Int.reduceLE, Int.reduceLT, Int.reduceEq, Int.zero_add, Int.add_zero, or_false, false_or, or_true, true_or, and_true, true_and, and_false, false_and, reduceIte, not_true_eq_false, not_false_eq_true, forall_const, false_implies, true_implies, implies_true, ne_eq, reduceCtorEq, List.all_cons, List.all_nil, Bool.and_true, Bool.and_self, decide_eq_true_eq, decide_true, dX6_isStation_0, dX6_isStation_1, dX6_isStation_2, dX6_isStation_3, dX6_isStation_4, dX6_isStation_7, dX6_isStation_9, dX6_isStation_10, dX6_isStation_11, dX6_isStation_12, dX6_isStation_13, dX6_isStation_16, FX6_7, G_X6_isStation_59, kd_66, kd_67, kd_68, kd_69, kd_70, kd_71, kd_72, kd_73, kd_74, kd_75, kd_76, kd_77, kd_78, ln_66, ln_67, ln_68, ln_69, ln_70, ln_71, ln_72, ln_73, ln_74, ln_75, ln_76, ln_77, ln_78, T6_in]
  repeat' (first | exact trivial | omega | (with_reducible assumption) | exact absurd trivial (by with_reducible assumption) | contradiction | apply And.intro | intro _)
  all_goals first | exact h3 ⟨by omega, by omega⟩ | exact h4 (by omega)
theorem good_X6_isStation (l : Launch) : Good l 1 yX6_isStation cX6_isStation 2 (some .boolean) T6_isStation := by
  refine Good.mk 2 (by decide) rfl (by simp [retOK]) FOK6 COK6 (gk_X6_isStation l) ?_ ?_
  · intro a μ K h
    unfold T6_isStation at h
    split at h
    · simp [entl]
    · exact h.elim
  · intro a μ K V hV h
    unfold T6_isStation at h
    split at h
    · exact body_X6_isStation _ _ μ K V hV h
    · exact h.elim

def T6_isPart : TT := fun a μ K => match a with
  | [.inl w] => InR w ∧ (w = 0 → K [.inl 1] μ) ∧ (w = 1 → K [.inl 1] μ) ∧ (¬ (w = 0 ∨ w = 1) → K [.inl 0] μ)
  | _ => False
def GL_X6_isPart : List (Nat × Nat × Bool × TT) := [(59, 3, true, T6_in)]
def G_X6_isPart : Nat → Option (Nat × Bool × TT) := fun i => GL_X6_isPart.lookup i
theorem G_X6_isPart_59 : G_X6_isPart 59 = some (3, true, T6_in) := rfl
theorem gk_X6_isPart (l : Launch) : ∀ i n b T, G_X6_isPart i = some (n, b, T) → CallOK l 1 RX6 i n b T := by
  intro i n b T h
  have hm : (i, n, b, T) ∈ GL_X6_isPart := lk_mem h
  simp only [GL_X6_isPart, List.mem_cons, List.not_mem_nil, or_false, Prod.mk.injEq] at hm
  rcases hm with ⟨rfl, rfl, rfl, rfl⟩
  · exact CallOK.S (d := 1) (own := RX6) (i := 59) (n := 3) (good_X6_in l) (by decide) (by decide) (mg 708 (by decide +kernel) (by decide +kernel)) (mg 709 (by decide +kernel) (by decide +kernel)) (mg 7 (by decide +kernel) (by decide +kernel)) (mg 710 (by decide +kernel) (by decide +kernel)) (by decide +kernel)
set_option maxRecDepth 20000 in
set_option maxHeartbeats 4000000 in
theorem body_X6_isPart (w : Int) (μ : Mem) (K : List AV → Mem → Prop) (V : Nat → List (Option AV) → List AV → Mem → Prop) (hV : Clos FX6 CX6 G_X6_isPart 2 K cX6_isPart V) (hT : InR w ∧ (w = 0 → K [.inl 1] μ) ∧ (w = 1 → K [.inl 1] μ) ∧ (¬ (w = 0 ∨ w = 1) → K [.inl 0] μ)) : V 0 [some (.inl w)] [] μ := by
  simp only [InR] at hT
  obtain ⟨h1, h3, h4, h5⟩ := hT
  apply hV [] 60
  simp only [InR, InL, inb, Int.toNat_natCast, wp1, wpc_z, wpc_s, stp_iconst, stp_bipush, stp_sipush, stp_lconst, stp_iload_n, stp_iload, stp_lload_n, stp_lload, stp_aload_n, stp_aload, stp_istore_n, stp_istore, stp_lstore_n, stp_lstore, stp_astore_n, stp_astore, stp_iinc, stp_iadd, stp_isub, stp_imul, stp_ineg, stp_idiv, stp_irem, stp_ladd, stp_lmul, stp_ldiv, stp_lrem, stp_ishl, stp_ishr, stp_iushr, stp_iand, stp_ior, stp_i2l, stp_i2b, stp_i2s, stp_lcmp, stp_dup, stp_dup2, stp_pop, stp_ifCond, stp_if_icmp, stp_goto, stp_tableswitch, stp_lookupswitch, stp_ldc, stp_ldc2_w, stp_getstatic, stp_getfield, stp_putfield, stp_iaload, stp_baload, stp_iastore, stp_bastore, stp_aaload, stp_aastore, stp_invokevirtual, stp_invokestatic, stp_ireturn, stp_lreturn, stp_return_, lg, lset, okl, spl, wd, c1, cnd, tg, swT, swL, f4_0, f4_1, f4_2, f4_3, f2_0, f2_1, List.mem_cons, List.not_mem_nil, List.length_cons, List.length_nil, List.cons_append, List.nil_append, Nat.reduceAdd, Nat.reduceMul, Nat.reduceLT, Nat.reduceEqDiff, Nat.reduceLeDiff, Int.reduceAdd, Int.reduceNeg, Int.reduceToNat, Int.cast_ofNat_Int, Int.reduceNatCast, Int.toNat_zero, Int.toNat_one, Int.reduceLE, Int.reduceLT, Int.reduceEq, Int.zero_add, Int.add_zero, or_false, false_or, or_true, true_or, and_true, true_and, and_false, false_and, reduceIte, not_true_eq_false, not_false_eq_true, forall_const, false_implies, true_implies, implies_true, ne_eq, reduceCtorEq, List.all_cons, List.all_nil, Bool.and_true, Bool.and_self, decide_eq_true_eq, decide_true, dX6_isPart_0, dX6_isPart_1, dX6_isPart_2, dX6_isPart_3, dX6_isPart_4, dX6_isPart_7, G_X6_isPart_59, T6_in]
  repeat' (first | exact trivial | omega | (with_reducible assumption) | exact absurd trivial (by with_reducible assumption) | contradiction | apply And.intro | intro _)
  · rcases (show w = 0 ∨ w = 1 by omega) with z | z
    · exact h3 z
    · exact h4 z
  all_goals exact h5 (by omega)
theorem good_X6_isPart (l : Launch) : Good l 1 yX6_isPart cX6_isPart 1 (some .boolean) T6_isPart := by
  refine Good.mk 2 (by decide) rfl (by simp [retOK]) FOK6 COK6 (gk_X6_isPart l) ?_ ?_
  · intro a μ K h
    unfold T6_isPart at h
    split at h
    · simp [entl]
    · exact h.elim
  · intro a μ K V hV h
    unfold T6_isPart at h
    split at h
    · exact body_X6_isPart _ μ K V hV h
    · exact h.elim

def T6_isFar : TT := fun a μ K => match a with
  | [.inl n] => InR n ∧ (0 ≤ n ∧ n ≤ 200 → K [.inl 1] μ) ∧ (¬ (0 ≤ n ∧ n ≤ 200) → K [.inl 0] μ)
  | _ => False
def GL_X6_isFar : List (Nat × Nat × Bool × TT) := [(59, 3, true, T6_in)]
def G_X6_isFar : Nat → Option (Nat × Bool × TT) := fun i => GL_X6_isFar.lookup i
theorem G_X6_isFar_59 : G_X6_isFar 59 = some (3, true, T6_in) := rfl
theorem gk_X6_isFar (l : Launch) : ∀ i n b T, G_X6_isFar i = some (n, b, T) → CallOK l 1 RX6 i n b T := by
  intro i n b T h
  have hm : (i, n, b, T) ∈ GL_X6_isFar := lk_mem h
  simp only [GL_X6_isFar, List.mem_cons, List.not_mem_nil, or_false, Prod.mk.injEq] at hm
  rcases hm with ⟨rfl, rfl, rfl, rfl⟩
  · exact CallOK.S (d := 1) (own := RX6) (i := 59) (n := 3) (good_X6_in l) (by decide) (by decide) (mg 708 (by decide +kernel) (by decide +kernel)) (mg 709 (by decide +kernel) (by decide +kernel)) (mg 7 (by decide +kernel) (by decide +kernel)) (mg 710 (by decide +kernel) (by decide +kernel)) (by decide +kernel)
set_option maxRecDepth 20000 in
set_option maxHeartbeats 4000000 in
theorem body_X6_isFar (n : Int) (μ : Mem) (K : List AV → Mem → Prop) (V : Nat → List (Option AV) → List AV → Mem → Prop) (hV : Clos FX6 CX6 G_X6_isFar 2 K cX6_isFar V) (hT : InR n ∧ (0 ≤ n ∧ n ≤ 200 → K [.inl 1] μ) ∧ (¬ (0 ≤ n ∧ n ≤ 200) → K [.inl 0] μ)) : V 0 [some (.inl n)] [] μ := by
  simp only [InR] at hT
  obtain ⟨h1, h3, h4⟩ := hT
  apply hV [] 60
  simp only [InR, InL, inb, Int.toNat_natCast, wp1, wpc_z, wpc_s, stp_iconst, stp_bipush, stp_sipush, stp_lconst, stp_iload_n, stp_iload, stp_lload_n, stp_lload, stp_aload_n, stp_aload, stp_istore_n, stp_istore, stp_lstore_n, stp_lstore, stp_astore_n, stp_astore, stp_iinc, stp_iadd, stp_isub, stp_imul, stp_ineg, stp_idiv, stp_irem, stp_ladd, stp_lmul, stp_ldiv, stp_lrem, stp_ishl, stp_ishr, stp_iushr, stp_iand, stp_ior, stp_i2l, stp_i2b, stp_i2s, stp_lcmp, stp_dup, stp_dup2, stp_pop, stp_ifCond, stp_if_icmp, stp_goto, stp_tableswitch, stp_lookupswitch, stp_ldc, stp_ldc2_w, stp_getstatic, stp_getfield, stp_putfield, stp_iaload, stp_baload, stp_iastore, stp_bastore, stp_aaload, stp_aastore, stp_invokevirtual, stp_invokestatic, stp_ireturn, stp_lreturn, stp_return_, lg, lset, okl, spl, wd, c1, cnd, tg, swT, swL, f4_0, f4_1, f4_2, f4_3, f2_0, f2_1, List.mem_cons, List.not_mem_nil, List.length_cons, List.length_nil, List.cons_append, List.nil_append, Nat.reduceAdd, Nat.reduceMul, Nat.reduceLT, Nat.reduceEqDiff, Nat.reduceLeDiff, Int.reduceAdd, Int.reduceNeg, Int.reduceToNat, Int.cast_ofNat_Int, Int.reduceNatCast, Int.toNat_zero, Int.toNat_one, Int.reduceLE, Int.reduceLT, Int.reduceEq, Int.zero_add, Int.add_zero, or_false, false_or, or_true, true_or, and_true, true_and, and_false, false_and, reduceIte, not_true_eq_false, not_false_eq_true, forall_const, false_implies, true_implies, implies_true, ne_eq, reduceCtorEq, List.all_cons, List.all_nil, Bool.and_true, Bool.and_self, decide_eq_true_eq, decide_true, dX6_isFar_0, dX6_isFar_1, dX6_isFar_2, dX6_isFar_3, dX6_isFar_6, dX6_isFar_9, CX6_203, G_X6_isFar_59, T6_in]
  repeat' (first | exact trivial | omega | (with_reducible assumption) | exact absurd trivial (by with_reducible assumption) | contradiction | apply And.intro | intro _)
  all_goals first | exact h3 ⟨by omega, by omega⟩ | exact h4 (by omega)
theorem good_X6_isFar (l : Launch) : Good l 1 yX6_isFar cX6_isFar 1 (some .boolean) T6_isFar := by
  refine Good.mk 2 (by decide) rfl (by simp [retOK]) FOK6 COK6 (gk_X6_isFar l) ?_ ?_
  · intro a μ K h
    unfold T6_isFar at h
    split at h
    · simp [entl]
    · exact h.elim
  · intro a μ K V hV h
    unfold T6_isFar at h
    split at h
    · exact body_X6_isFar _ μ K V hV h
    · exact h.elim

def T6_isSheet : TT := fun a μ K => match a with
  | [.inl k, .inl w] => InR k ∧ InR w ∧ ((0 ≤ k ∧ k ≤ 3) ∧ (0 ≤ w ∧ w ≤ 2) → K [.inl 1] μ) ∧ (¬ ((0 ≤ k ∧ k ≤ 3) ∧ (0 ≤ w ∧ w ≤ 2)) → K [.inl 0] μ)
  | _ => False
def GL_X6_isSheet : List (Nat × Nat × Bool × TT) := [(59, 3, true, T6_in)]
def G_X6_isSheet : Nat → Option (Nat × Bool × TT) := fun i => GL_X6_isSheet.lookup i
theorem G_X6_isSheet_59 : G_X6_isSheet 59 = some (3, true, T6_in) := rfl
theorem gk_X6_isSheet (l : Launch) : ∀ i n b T, G_X6_isSheet i = some (n, b, T) → CallOK l 1 RX6 i n b T := by
  intro i n b T h
  have hm : (i, n, b, T) ∈ GL_X6_isSheet := lk_mem h
  simp only [GL_X6_isSheet, List.mem_cons, List.not_mem_nil, or_false, Prod.mk.injEq] at hm
  rcases hm with ⟨rfl, rfl, rfl, rfl⟩
  · exact CallOK.S (d := 1) (own := RX6) (i := 59) (n := 3) (good_X6_in l) (by decide) (by decide) (mg 708 (by decide +kernel) (by decide +kernel)) (mg 709 (by decide +kernel) (by decide +kernel)) (mg 7 (by decide +kernel) (by decide +kernel)) (mg 710 (by decide +kernel) (by decide +kernel)) (by decide +kernel)
set_option maxRecDepth 20000 in
set_option maxHeartbeats 4000000 in
theorem body_X6_isSheet (k : Int) (w : Int) (μ : Mem) (K : List AV → Mem → Prop) (V : Nat → List (Option AV) → List AV → Mem → Prop) (hV : Clos FX6 CX6 G_X6_isSheet 2 K cX6_isSheet V) (hT : InR k ∧ InR w ∧ ((0 ≤ k ∧ k ≤ 3) ∧ (0 ≤ w ∧ w ≤ 2) → K [.inl 1] μ) ∧ (¬ ((0 ≤ k ∧ k ≤ 3) ∧ (0 ≤ w ∧ w ≤ 2)) → K [.inl 0] μ)) : V 0 [some (.inl k), some (.inl w)] [] μ := by
  simp only [InR] at hT
  obtain ⟨h1, h2, h3, h4⟩ := hT
  apply hV [] 60
  simp only [InR, InL, inb, Int.toNat_natCast, wp1, wpc_z, wpc_s, stp_iconst, stp_bipush, stp_sipush, stp_lconst, stp_iload_n, stp_iload, stp_lload_n, stp_lload, stp_aload_n, stp_aload, stp_istore_n, stp_istore, stp_lstore_n, stp_lstore, stp_astore_n, stp_astore, stp_iinc, stp_iadd, stp_isub, stp_imul, stp_ineg, stp_idiv, stp_irem, stp_ladd, stp_lmul, stp_ldiv, stp_lrem, stp_ishl, stp_ishr, stp_iushr, stp_iand, stp_ior, stp_i2l, stp_i2b, stp_i2s, stp_lcmp, stp_dup, stp_dup2, stp_pop, stp_ifCond, stp_if_icmp, stp_goto, stp_tableswitch, stp_lookupswitch, stp_ldc, stp_ldc2_w, stp_getstatic, stp_getfield, stp_putfield, stp_iaload, stp_baload, stp_iastore, stp_bastore, stp_aaload, stp_aastore, stp_invokevirtual, stp_invokestatic, stp_ireturn, stp_lreturn, stp_return_, lg, lset, okl, spl, wd, c1, cnd, tg, swT, swL, f4_0, f4_1, f4_2, f4_3, f2_0, f2_1, List.mem_cons, List.not_mem_nil, List.length_cons, List.length_nil, List.cons_append, List.nil_append, Nat.reduceAdd, Nat.reduceMul, Nat.reduceLT, Nat.reduceEqDiff, Nat.reduceLeDiff, Int.reduceAdd, Int.reduceNeg, Int.reduceToNat, Int.cast_ofNat_Int, Int.reduceNatCast, Int.toNat_zero, Int.toNat_one, Int.reduceLE, Int.reduceLT, Int.reduceEq, Int.zero_add, Int.add_zero, or_false, false_or, or_true, true_or, and_true, true_and, and_false, false_and, reduceIte, not_true_eq_false, not_false_eq_true, forall_const, false_implies, true_implies, implies_true, ne_eq, reduceCtorEq, List.all_cons, List.all_nil, Bool.and_true, Bool.and_self, decide_eq_true_eq, decide_true, dX6_isSheet_0, dX6_isSheet_1, dX6_isSheet_2, dX6_isSheet_3, dX6_isSheet_6, dX6_isSheet_9, dX6_isSheet_12, dX6_isSheet_13, dX6_isSheet_14, dX6_isSheet_15, dX6_isSheet_18, dX6_isSheet_21, dX6_isSheet_24, dX6_isSheet_25, dX6_isSheet_28, dX6_isSheet_29, CX6_208, CX6_210, G_X6_isSheet_59, T6_in]
  repeat' (first | exact trivial | omega | (with_reducible assumption) | exact absurd trivial (by with_reducible assumption) | contradiction | apply And.intro | intro _)
  all_goals first | exact h3 ⟨⟨by omega, by omega⟩, ⟨by omega, by omega⟩⟩ | exact h4 (by omega)
theorem good_X6_isSheet (l : Launch) : Good l 1 yX6_isSheet cX6_isSheet 2 (some .boolean) T6_isSheet := by
  refine Good.mk 2 (by decide) rfl (by simp [retOK]) FOK6 COK6 (gk_X6_isSheet l) ?_ ?_
  · intro a μ K h
    unfold T6_isSheet at h
    split at h
    · simp [entl]
    · exact h.elim
  · intro a μ K V hV h
    unfold T6_isSheet at h
    split at h
    · exact body_X6_isSheet _ _ μ K V hV h
    · exact h.elim

def T6_lowOf : TT := fun a μ K => match a with
  | [.inl w] => InR w ∧ K [.inl (if w = 2 ∨ w = 4 then 1 else 0)] μ
  | _ => False
def GL_X6_lowOf : List (Nat × Nat × Bool × TT) := []
def G_X6_lowOf : Nat → Option (Nat × Bool × TT) := fun i => GL_X6_lowOf.lookup i
theorem gk_X6_lowOf (l : Launch) : ∀ i n b T, G_X6_lowOf i = some (n, b, T) → CallOK l 0 RX6 i n b T := by
  intro i n b T h
  have hm : (i, n, b, T) ∈ GL_X6_lowOf := lk_mem h
  simp [GL_X6_lowOf] at hm
set_option maxRecDepth 20000 in
set_option maxHeartbeats 4000000 in
theorem body_X6_lowOf (w : Int) (μ : Mem) (K : List AV → Mem → Prop) (V : Nat → List (Option AV) → List AV → Mem → Prop) (hV : Clos FX6 CX6 G_X6_lowOf 1 K cX6_lowOf V) (hT : InR w ∧ K [.inl (if w = 2 ∨ w = 4 then 1 else 0)] μ) : V 0 [some (.inl w)] [] μ := by
  simp only [InR] at hT
  obtain ⟨h1, h2⟩ := hT
  apply hV [] 60
  simp only [InR, InL, inb, Int.toNat_natCast, wp1, wpc_z, wpc_s, stp_iconst, stp_bipush, stp_sipush, stp_lconst, stp_iload_n, stp_iload, stp_lload_n, stp_lload, stp_aload_n, stp_aload, stp_istore_n, stp_istore, stp_lstore_n, stp_lstore, stp_astore_n, stp_astore, stp_iinc, stp_iadd, stp_isub, stp_imul, stp_ineg, stp_idiv, stp_irem, stp_ladd, stp_lmul, stp_ldiv, stp_lrem, stp_ishl, stp_ishr, stp_iushr, stp_iand, stp_ior, stp_i2l, stp_i2b, stp_i2s, stp_lcmp, stp_dup, stp_dup2, stp_pop, stp_ifCond, stp_if_icmp, stp_goto, stp_tableswitch, stp_lookupswitch, stp_ldc, stp_ldc2_w, stp_getstatic, stp_getfield, stp_putfield, stp_iaload, stp_baload, stp_iastore, stp_bastore, stp_aaload, stp_aastore, stp_invokevirtual, stp_invokestatic, stp_ireturn, stp_lreturn, stp_return_, lg, lset, okl, spl, wd, c1, cnd, tg, swT, swL, f4_0, f4_1, f4_2, f4_3, f2_0, f2_1, List.mem_cons, List.not_mem_nil, List.length_cons, List.length_nil, List.cons_append, List.nil_append, Nat.reduceAdd, Nat.reduceMul, Nat.reduceLT, Nat.reduceEqDiff, Nat.reduceLeDiff, Int.reduceAdd, Int.reduceNeg, Int.reduceToNat, Int.cast_ofNat_Int, Int.reduceNatCast, Int.toNat_zero, Int.toNat_one, Int.reduceLE, Int.reduceLT, Int.reduceEq, Int.zero_add, Int.add_zero, or_false, false_or, or_true, true_or, and_true, true_and, and_false, false_and, reduceIte, not_true_eq_false, not_false_eq_true, forall_const, false_implies, true_implies, implies_true, ne_eq, reduceCtorEq, List.all_cons, List.all_nil, Bool.and_true, Bool.and_self, decide_eq_true_eq, decide_true, dX6_lowOf_0, dX6_lowOf_1, dX6_lowOf_2, dX6_lowOf_5, dX6_lowOf_6, dX6_lowOf_7, dX6_lowOf_10, dX6_lowOf_11, dX6_lowOf_14, dX6_lowOf_15]
  repeat' (first | exact trivial | omega | (with_reducible assumption) | exact absurd trivial (by with_reducible assumption) | contradiction | apply And.intro | intro _)
  all_goals first | (rw [if_pos (by omega)] at h2; exact h2) | (rw [if_neg (by omega)] at h2; exact h2)
theorem good_X6_lowOf (l : Launch) : Good l 0 yX6_lowOf cX6_lowOf 1 (some .int) T6_lowOf := by
  refine Good.mk 1 (by decide) rfl (by simp [retOK]) FOK6 COK6 (gk_X6_lowOf l) ?_ ?_
  · intro a μ K h
    unfold T6_lowOf at h
    split at h
    · simp [entl]
    · exact h.elim
  · intro a μ K V hV h
    unfold T6_lowOf at h
    split at h
    · exact body_X6_lowOf _ μ K V hV h
    · exact h.elim

def T6_mostOf : TT := fun a μ K => match a with
  | [.inl w] => InR w ∧ K [.inl (if w = 0 then 3 else if w = 1 then 99 else 9)] μ
  | _ => False
def GL_X6_mostOf : List (Nat × Nat × Bool × TT) := []
def G_X6_mostOf : Nat → Option (Nat × Bool × TT) := fun i => GL_X6_mostOf.lookup i
theorem gk_X6_mostOf (l : Launch) : ∀ i n b T, G_X6_mostOf i = some (n, b, T) → CallOK l 0 RX6 i n b T := by
  intro i n b T h
  have hm : (i, n, b, T) ∈ GL_X6_mostOf := lk_mem h
  simp [GL_X6_mostOf] at hm
set_option maxRecDepth 20000 in
set_option maxHeartbeats 4000000 in
theorem body_X6_mostOf (w : Int) (μ : Mem) (K : List AV → Mem → Prop) (V : Nat → List (Option AV) → List AV → Mem → Prop) (hV : Clos FX6 CX6 G_X6_mostOf 1 K cX6_mostOf V) (hT : InR w ∧ K [.inl (if w = 0 then 3 else if w = 1 then 99 else 9)] μ) : V 0 [some (.inl w)] [] μ := by
  simp only [InR] at hT
  obtain ⟨h1, h2⟩ := hT
  apply hV [] 60
  simp only [InR, InL, inb, Int.toNat_natCast, wp1, wpc_z, wpc_s, stp_iconst, stp_bipush, stp_sipush, stp_lconst, stp_iload_n, stp_iload, stp_lload_n, stp_lload, stp_aload_n, stp_aload, stp_istore_n, stp_istore, stp_lstore_n, stp_lstore, stp_astore_n, stp_astore, stp_iinc, stp_iadd, stp_isub, stp_imul, stp_ineg, stp_idiv, stp_irem, stp_ladd, stp_lmul, stp_ldiv, stp_lrem, stp_ishl, stp_ishr, stp_iushr, stp_iand, stp_ior, stp_i2l, stp_i2b, stp_i2s, stp_lcmp, stp_dup, stp_dup2, stp_pop, stp_ifCond, stp_if_icmp, stp_goto, stp_tableswitch, stp_lookupswitch, stp_ldc, stp_ldc2_w, stp_getstatic, stp_getfield, stp_putfield, stp_iaload, stp_baload, stp_iastore, stp_bastore, stp_aaload, stp_aastore, stp_invokevirtual, stp_invokestatic, stp_ireturn, stp_lreturn, stp_return_, lg, lset, okl, spl, wd, c1, cnd, tg, swT, swL, f4_0, f4_1, f4_2, f4_3, f2_0, f2_1, List.mem_cons, List.not_mem_nil, List.length_cons, List.length_nil, List.cons_append, List.nil_append, Nat.reduceAdd, Nat.reduceMul, Nat.reduceLT, Nat.reduceEqDiff, Nat.reduceLeDiff, Int.reduceAdd, Int.reduceNeg, Int.reduceToNat, Int.cast_ofNat_Int, Int.reduceNatCast, Int.toNat_zero, Int.toNat_one, Int.reduceLE, Int.reduceLT, Int.reduceEq, Int.zero_add, Int.add_zero, or_false, false_or, or_true, true_or, and_true, true_and, and_false, false_and, reduceIte, not_true_eq_false, not_false_eq_true, forall_const, false_implies, true_implies, implies_true, ne_eq, reduceCtorEq, List.all_cons, List.all_nil, Bool.and_true, Bool.and_self, decide_eq_true_eq, decide_true, dX6_mostOf_0, dX6_mostOf_1, dX6_mostOf_4, dX6_mostOf_5, dX6_mostOf_8, dX6_mostOf_9, dX6_mostOf_10, dX6_mostOf_13, dX6_mostOf_15, dX6_mostOf_18, dX6_mostOf_20]
  repeat' (first | exact trivial | omega | (with_reducible assumption) | exact absurd trivial (by with_reducible assumption) | contradiction | apply And.intro | intro _)
  all_goals first | (rw [if_pos (by omega)] at h2; exact h2) | (rw [if_neg (by omega), if_pos (by omega)] at h2; exact h2) | (rw [if_neg (by omega), if_neg (by omega)] at h2; exact h2)
theorem good_X6_mostOf (l : Launch) : Good l 0 yX6_mostOf cX6_mostOf 1 (some .int) T6_mostOf := by
  refine Good.mk 1 (by decide) rfl (by simp [retOK]) FOK6 COK6 (gk_X6_mostOf l) ?_ ?_
  · intro a μ K h
    unfold T6_mostOf at h
    split at h
    · simp [entl]
    · exact h.elim
  · intro a μ K V hV h
    unfold T6_mostOf at h
    split at h
    · exact body_X6_mostOf _ μ K V hV h
    · exact h.elim
end
section
/-! memory in bulk; the flat state and a visit of it -/
def wB (μ : Mem) (k n : Nat) (g : Nat → Int) : Mem := (fun a b => if a = k ∧ b < n then g b else μ.1 a b, μ.2)
theorem rI_wB (μ : Mem) (k n : Nat) (g : Nat → Int) (a b : Nat) : rI (wB μ k n g) a b = if a = k ∧ b < n then g b else rI μ a b := rfl
theorem rR_wB (μ : Mem) (k n : Nat) (g : Nat → Int) (a b : Nat) : rR (wB μ k n g) a b = rR μ a b := rfl
theorem wB_0 (μ : Mem) (k : Nat) (g : Nat → Int) : wB μ k 0 g = μ := by
  unfold wB
  apply Prod.ext
  · funext a b; simp
  · rfl
theorem wI_wB (μ : Mem) (k n : Nat) (g : Nat → Int) {v : Int} (hv : v = g n) : wI (wB μ k n g) k n v = wB μ k (n + 1) g := by
  subst hv
  unfold wB wI
  apply Prod.ext
  · funext a b
    dsimp only
    by_cases h1 : a = k
    · subst h1
      by_cases h2 : b = n
      · subst h2; simp
      · by_cases h3 : b < n
        · have : b < n + 1 := by omega
          simp [h2, h3, this]
        · have : ¬ b < n + 1 := by omega
          simp [h2, h3, this]
    · simp [h1]
  · rfl
theorem wC_0 (μ : Mem) (k0 sp k1 dp : Nat) : wC μ k0 sp k1 dp 0 = μ := by
  unfold wC
  apply Prod.ext
  · funext a b
    dsimp only
    rw [if_neg (by omega)]
  · rfl
theorem wI_wC (μ : Mem) (k0 sp k1 dp n : Nat) {v : Int} (hv : v = rI μ k0 (sp + n)) : wI (wC μ k0 sp k1 dp n) k1 (dp + n) v = wC μ k0 sp k1 dp (n + 1) := by
  subst hv
  unfold wC wI
  apply Prod.ext
  · funext a b
    dsimp only
    by_cases h1 : a = k1
    · subst h1
      by_cases h2 : b = dp + n
      · subst h2
        have e : dp + n - dp = n := by omega
        rw [if_pos ⟨rfl, rfl⟩, if_pos ⟨rfl, by omega, by omega⟩, e]
        rfl
      · rw [if_neg (fun z => h2 z.2)]
        by_cases h3 : dp ≤ b ∧ b < dp + n
        · rw [if_pos ⟨rfl, h3⟩, if_pos ⟨rfl, by omega, by omega⟩]
        · rw [if_neg (fun z => h3 z.2), if_neg (fun z => h3 ⟨z.2.1, by omega⟩)]
    · rw [if_neg (fun z => h1 z.1), if_neg (fun z => h1 z.1), if_neg (fun z => h1 z.1)]
  · rfl
theorem mem_ext {μ μ' : Mem} (h : ∀ k j, rI μ k j = rI μ' k j) (h2 : ∀ k j, rR μ k j = rR μ' k j) : μ = μ' := Prod.ext (funext fun k => funext fun j => h k j) (funext fun k => funext fun j => h2 k j)
def upF (f : Nat → Int) (j : Nat) (v : Int) : Nat → Int := fun x => if x = j then v else f x
def outB (f : Nat → Int) (q : Int) : Nat → Bool
  | 0 => false
  | n + 1 => outB f q n || decide (q < f (7 * n + 1))
def dm (f : Nat → Int) (i : Nat) : Int := min (f (7 * i + 1)) (if f (7 * i) = 1 then 2 * f (7 * i + 2) else f (7 * i + 2))
/-- how many STATION i would SEND -/
def due (f : Nat → Int) (i : Nat) : Int := if f (7 * i) = 3 ∧ f (7 * i + 6) = 1 then 0 else if (f (7 * i) = 2 ∨ f (7 * i) = 3) ∧ 0 < dm f i ∧ outB f (f (7 * i + 1)) (f 35).toNat = true then dm f i - 1 else dm f i
/-- letters that find room -/
def cmG (f : Nat → Int) (t : Int) (k : Nat) : Int := min (t * f (7 * k + 3)) (99 - f (7 * k + 1))
def cmF (f : Nat → Int) (t : Int) : Nat → Nat → Int
  | 0 => f
  | n + 1 => upF (cmF f t n) (7 * n + 1) (f (7 * n + 1) + cmG f t n)
def cmL (f : Nat → Int) (t : Int) : Nat → Int
  | 0 => 0
  | n + 1 => cmL f t n + (t * f (7 * n + 3) - cmG f t n)
def mid (f : Nat → Int) (i : Nat) (s : Int) : Nat → Int := upF (upF (upF (upF (upF f 38 (f 38 + 1)) (7 * i + 1) (f (7 * i + 1) - s)) (7 * i + 6) (if 0 < s then 1 else 0)) (7 * i + 5) (f (7 * i + 5) + s)) 37 (f 37 + (s + f (7 * i + 4)))
def tms (f : Nat → Int) (i : Nat) (s : Int) : Int := (f 37 + (s + f (7 * i + 4))) / 10 - f 37 / 10
def sndI (f : Nat → Int) (may : Bool) : Int := if f 35 = 0 then 0 else if may = true then due f (f 36).toNat else 0
def nxt (f : Nat → Int) (may : Bool) : Nat → Int := if f 35 = 0 then upF f 38 (f 38 + 1) else upF (cmF (mid f (f 36).toNat (sndI f may)) (tms f (f 36).toNat (sndI f may)) (f 35).toNat) 36 (if f 36 + 1 < f 35 then f 36 + 1 else 0)
def lstI (f : Nat → Int) (may : Bool) : Int := if f 35 = 0 then 0 else cmL (mid f (f 36).toNat (sndI f may)) (tms f (f 36).toNat (sndI f may)) (f 35).toNat
/-- a STATION as the document has it -/
def SOK (f : Nat → Int) (i : Nat) : Prop := (0 ≤ f (7 * i) ∧ f (7 * i) ≤ 3) ∧ (0 ≤ f (7 * i + 1) ∧ f (7 * i + 1) ≤ 99) ∧ (1 ≤ f (7 * i + 2) ∧ f (7 * i + 2) ≤ 9) ∧ (0 ≤ f (7 * i + 3) ∧ f (7 * i + 3) ≤ 9) ∧ (1 ≤ f (7 * i + 4) ∧ f (7 * i + 4) ≤ 9) ∧ (0 ≤ f (7 * i + 5) ∧ f (7 * i + 5) ≤ 18 * f 38) ∧ (f (7 * i + 6) = 0 ∨ f (7 * i + 6) = 1)
def WF (f : Nat → Int) : Prop := (0 ≤ f 35 ∧ f 35 ≤ 5) ∧ (f 35 ≠ 0 → 0 ≤ f 36 ∧ f 36 < f 35) ∧ (0 ≤ f 38 ∧ 0 ≤ f 37 ∧ f 37 ≤ 27 * f 38) ∧ ∀ i : Nat, (i : Int) < f 35 → SOK f i
theorem upF_s (f : Nat → Int) (j : Nat) (v : Int) : upF f j v j = v := if_pos rfl
theorem upF_n (f : Nat → Int) {j x : Nat} (v : Int) (h : x ≠ j) : upF f j v x = f x := if_neg h
theorem cmF_out (f : Nat → Int) (t : Int) : ∀ (n x : Nat), (∀ k, k < n → x ≠ 7 * k + 1) → cmF f t n x = f x
  | 0, x, _ => rfl
  | n + 1, x, h => by
    rw [cmF, upF_n _ _ (h n (by omega))]
    exact cmF_out f t n x (fun k hk => h k (by omega))
theorem cmF_in (f : Nat → Int) (t : Int) : ∀ (n k : Nat), k < n → cmF f t n (7 * k + 1) = f (7 * k + 1) + cmG f t k
  | 0, k, h => by omega
  | n + 1, k, h => by
    rw [cmF]
    by_cases e : k = n
    · subst e; rw [upF_s]
    · rw [upF_n _ _ (by omega)]
      exact cmF_in f t n k (by omega)
theorem mid_q (f : Nat → Int) (i : Nat) (s : Int) (k c : Nat) (hc : c < 7) (hi : i < 5) (hk : k < 5) : mid f i s (7 * k + c) = if k = i then (if c = 1 then f (7 * i + 1) - s else if c = 5 then f (7 * i + 5) + s else if c = 6 then (if 0 < s then 1 else 0) else f (7 * k + c)) else f (7 * k + c) := by
  unfold mid
  rw [upF_n _ _ (show 7 * k + c ≠ 37 by omega)]
  by_cases e : k = i
  · subst e
    rw [if_pos rfl]
    by_cases c5 : c = 5
    · subst c5; rw [upF_s]; simp
    · rw [upF_n _ _ (by omega)]
      by_cases c6 : c = 6
      · subst c6; rw [upF_s]; simp
      · rw [upF_n _ _ (by omega)]
        by_cases c1 : c = 1
        · subst c1; rw [upF_s]; simp
        · rw [upF_n _ _ (by omega), upF_n _ _ (by omega), if_neg c1, if_neg c5, if_neg c6]
  · rw [if_neg e, upF_n _ _ (by omega), upF_n _ _ (by omega), upF_n _ _ (by omega), upF_n _ _ (by omega)]
theorem mid_o (f : Nat → Int) (i : Nat) (s : Int) (x : Nat) (hi : i < 5) (hx : 35 ≤ x) : mid f i s x = if x = 37 then f 37 + (s + f (7 * i + 4)) else if x = 38 then f 38 + 1 else f x := by
  unfold mid
  by_cases e : x = 37
  · subst e; rw [upF_s]; simp
  · rw [upF_n _ _ e, if_neg e, upF_n _ _ (by omega), upF_n _ _ (by omega), upF_n _ _ (by omega)]
    by_cases e2 : x = 38
    · subst e2; rw [upF_s]; simp
    · rw [upF_n _ _ e2, if_neg e2]
theorem due_in {f : Nat → Int} {i : Nat} (h : SOK f i) : 0 ≤ due f i ∧ due f i ≤ 18 ∧ due f i ≤ f (7 * i + 1) := by
  obtain ⟨a, b, c, d, e, g, k⟩ := h
  have hd : 0 ≤ dm f i ∧ dm f i ≤ 18 ∧ dm f i ≤ f (7 * i + 1) := by
    unfold dm
    split <;> omega
  unfold due
  split
  · omega
  · split <;> omega
theorem snd_in {f : Nat → Int} (h : WF f) (may : Bool) : 0 ≤ sndI f may ∧ sndI f may ≤ 18 ∧ (f 35 ≠ 0 → sndI f may ≤ f (7 * (f 36).toNat + 1)) := by
  unfold sndI
  by_cases h0 : f 35 = 0
  · rw [if_pos h0]; exact ⟨by omega, by omega, fun z => absurd h0 z⟩
  · rw [if_neg h0]
    obtain ⟨h1, h2, h3, h4⟩ := h
    have h2 := h2 h0
    have hs := h4 (f 36).toNat (by omega)
    split
    · have := due_in hs; exact ⟨this.1, this.2.1, fun _ => this.2.2⟩
    · have := hs.2.1; exact ⟨by omega, by omega, fun _ => by omega⟩
theorem cmG_in {f : Nat → Int} {t : Int} {k : Nat} (h : SOK f k) (ht : 0 ≤ t ∧ t ≤ 3) : 0 ≤ cmG f t k ∧ cmG f t k ≤ 99 - f (7 * k + 1) ∧ cmG f t k ≤ t * f (7 * k + 3) ∧ 0 ≤ t * f (7 * k + 3) ∧ t * f (7 * k + 3) ≤ 27 := by
  obtain ⟨a, b, c, d, e, g, kk⟩ := h
  have h0 : 0 ≤ t * f (7 * k + 3) := Int.mul_nonneg ht.1 d.1
  have h1 : t * f (7 * k + 3) ≤ 3 * 9 := Int.mul_le_mul ht.2 d.2 d.1 (by omega)
  unfold cmG
  omega
theorem tms_in {f : Nat → Int} {i : Nat} {s : Int} (h : SOK f i) (h0 : 0 ≤ f 37) (hs : 0 ≤ s ∧ s ≤ 18) : 0 ≤ tms f i s ∧ tms f i s ≤ 3 := by
  obtain ⟨a, b, c, d, e, g, kk⟩ := h
  unfold tms
  omega
/-- a visit of a state leaves a state -/
theorem nxt_o (f : Nat → Int) (may : Bool) {x : Nat} (hx : 39 ≤ x ∨ x = 35) (h : WF f) : nxt f may x = f x := by
  obtain ⟨h1, h2, h3, h4⟩ := h
  unfold nxt
  by_cases h0 : f 35 = 0
  · rw [if_pos h0, upF_n _ _ (by omega)]
  · have h2 := h2 h0
    rw [if_neg h0, upF_n _ _ (by omega), cmF_out _ _ _ _ (fun k hk => by omega), mid_o _ _ _ _ (by omega) (by omega), if_neg (by omega), if_neg (by omega)]
theorem nxt_t (f : Nat → Int) (may : Bool) (h : WF f) (h0 : f 35 ≠ 0) : nxt f may 37 = f 37 + (sndI f may + f (7 * (f 36).toNat + 4)) ∧ nxt f may 38 = f 38 + 1 ∧ nxt f may 36 = (if f 36 + 1 < f 35 then f 36 + 1 else 0) := by
  obtain ⟨h1, h2, h3, h4⟩ := h
  have h2 := h2 h0
  unfold nxt
  rw [if_neg h0]
  refine ⟨?_, ?_, upF_s _ _ _⟩
  · rw [upF_n _ _ (by omega), cmF_out _ _ _ _ (fun k hk => by omega), mid_o _ _ _ _ (by omega) (by omega)]
    simp
  · rw [upF_n _ _ (by omega), cmF_out _ _ _ _ (fun k hk => by omega), mid_o _ _ _ _ (by omega) (by omega)]
    simp
theorem nxt_q (f : Nat → Int) (may : Bool) (h : WF f) (k c : Nat) (hk : (k : Int) < f 35) (hc : c < 7) : nxt f may (7 * k + c) = (if c = 1 then mid f (f 36).toNat (sndI f may) (7 * k + 1) + cmG (mid f (f 36).toNat (sndI f may)) (tms f (f 36).toNat (sndI f may)) k else mid f (f 36).toNat (sndI f may) (7 * k + c)) := by
  obtain ⟨h1, h2, h3, h4⟩ := h
  have h0 : f 35 ≠ 0 := by omega
  have h2 := h2 h0
  unfold nxt
  rw [if_neg h0, upF_n _ _ (by omega)]
  by_cases e : c = 1
  · subst e
    rw [if_pos rfl, cmF_in _ _ _ _ (by omega)]
  · rw [if_neg e, cmF_out _ _ _ _ (fun j hj => by omega)]
theorem mid_SOK {f : Nat → Int} {may : Bool} (h : WF f) (h0 : f 35 ≠ 0) {k : Nat} (hk : (k : Int) < f 35) : SOK (mid f (f 36).toNat (sndI f may)) k := by
  have hs := snd_in h may
  obtain ⟨h1, h2, h3, h4⟩ := h
  have h2 := h2 h0
  have hs3 := hs.2.2 h0
  have hi : (f 36).toNat < 5 := by omega
  have hk5 : k < 5 := by omega
  have q := h4 k hk
  unfold SOK at q ⊢
  rw [mid_o f _ _ 38 hi (by omega)]
  have e0 := mid_q f (f 36).toNat (sndI f may) k 0 (by omega) hi hk5
  rw [Nat.add_zero] at e0
  rw [e0, mid_q f _ _ k 1 (by omega) hi hk5, mid_q f _ _ k 2 (by omega) hi hk5, mid_q f _ _ k 3 (by omega) hi hk5, mid_q f _ _ k 4 (by omega) hi hk5, mid_q f _ _ k 5 (by omega) hi hk5, mid_q f _ _ k 6 (by omega) hi hk5]
  by_cases e : k = (f 36).toNat
  · rw [← e] at hs3 ⊢
    simp only [if_true]
    refine ⟨?_, ?_, ?_, ?_, ?_, ?_, ?_⟩
    all_goals first | (simp; omega) | (simp; split <;> omega)
  · simp only [if_neg e]
    refine ⟨?_, ?_, ?_, ?_, ?_, ?_, ?_⟩
    all_goals first | omega | (simp; omega)
theorem nxt_WF {f : Nat → Int} (may : Bool) (h : WF f) : WF (nxt f may) := by
  have hw := h
  obtain ⟨h1, h2, h3, h4⟩ := h
  by_cases h0 : f 35 = 0
  · have e : nxt f may = upF f 38 (f 38 + 1) := by unfold nxt; rw [if_pos h0]
    rw [e]
    refine ⟨?_, ?_, ?_, ?_⟩
    · rw [upF_n _ _ (by omega)]; exact h1
    · rw [upF_n _ _ (by omega)]; exact fun z => absurd h0 z
    · rw [upF_s, upF_n _ _ (by omega)]; omega
    · intro i hi
      rw [upF_n _ _ (by omega)] at hi
      omega
  · have e35 := nxt_o f may (x := 35) (by omega) hw
    obtain ⟨e37, e38, e36⟩ := nxt_t f may hw h0
    have hs := snd_in hw may
    have h2 := h2 h0
    have hq := h4 (f 36).toNat (by omega)
    refine ⟨by rw [e35]; exact h1, fun _ => ?_, ?_, ?_⟩
    · rw [e35, e36]; split <;> omega
    · rw [e37, e38]
      have := hq.2.2.2.2.1
      omega
    · intro k hk
      rw [e35] at hk
      have hm := mid_SOK (may := may) hw h0 hk
      have ht := tms_in hq h3.2.1 ⟨hs.1, hs.2.1⟩
      have hc := cmG_in hm ht
      unfold SOK at hm ⊢
      rw [mid_o f _ _ 38 (by omega) (by omega)] at hm
      have n0 := nxt_q f may hw k 0 hk (by omega)
      rw [Nat.add_zero, if_neg (by omega)] at n0
      rw [n0, nxt_q f may hw k 1 hk (by omega), nxt_q f may hw k 2 hk (by omega), nxt_q f may hw k 3 hk (by omega), nxt_q f may hw k 4 hk (by omega), nxt_q f may hw k 5 hk (by omega), nxt_q f may hw k 6 hk (by omega), e38]
      rw [if_neg (by omega), if_pos rfl] at hm
      simp only [if_true]
      obtain ⟨m1, m2, m3, m4, m5, m6, m7⟩ := hm
      refine ⟨m1, by omega, by simpa using m3, by simpa using m4, by simpa using m5, by simpa using m6, by simpa using m7⟩
end
section
/-! the reference: copies -/
def GL_X6_settles : List (Nat × Nat × Bool × TT) := []
def G_X6_settles : Nat → Option (Nat × Bool × TT) := fun i => GL_X6_settles.lookup i

set_option maxRecDepth 20000 in
set_option maxHeartbeats 4000000 in
theorem lp_settles (V : Nat → List (Option AV) → List AV → Mem → Prop) (K : List AV → Mem → Prop) (hV : Clos FX6 CX6 G_X6_settles 0 K cX6_settles V) (μ : Mem) (hK : K [] (wB μ 67 60 (rI μ 68))) : ∀ m n : Nat, n + m = 60 → V 2 [some (.inr (.inr 66)), some (.inl (n : Int))] [] (wB μ 67 n (rI μ 68)) := by
  intro m
  induction m with
  | zero =>
    intro n hn
    apply hV [2] 40
    simp only [InR, InL, inb, Int.toNat_natCast, wp1, wpc_z, wpc_s, stp_iconst, stp_bipush, stp_sipush, stp_lconst, stp_iload_n, stp_iload, stp_lload_n, stp_lload, stp_aload_n, stp_aload, stp_istore_n, stp_istore, stp_lstore_n, stp_lstore, stp_astore_n, stp_astore, stp_iinc, stp_iadd, stp_isub, stp_imul, stp_ineg, stp_idiv, stp_irem, stp_ladd, stp_lmul, stp_ldiv, stp_lrem, stp_ishl, stp_ishr, stp_iushr, stp_iand, stp_ior, stp_i2l, stp_i2b, stp_i2s, stp_lcmp, stp_dup, stp_dup2, stp_pop, stp_ifCond, stp_if_icmp, stp_goto, stp_tableswitch, stp_lookupswitch, stp_ldc, stp_ldc2_w, stp_getstatic, stp_getfield, stp_putfield, stp_iaload, stp_baload, stp_iastore, stp_bastore, stp_aaload, stp_aastore, stp_invokevirtual, stp_invokestatic, stp_ireturn, stp_lreturn, stp_return_, lg, lset, okl, spl, wd, c1, cnd, tg, swT, swL, f4_0, f4_1, f4_2, f4_3, f2_0, f2_1, List.mem_cons, List.not_mem_nil, List.length_cons, List.length_nil, List.cons_append, List.nil_append, Nat.reduceAdd, Nat.reduceMul, Nat.reduceLT, Nat.reduceEqDiff, Nat.reduceLeDiff, Int.reduceAdd, Int.reduceNeg, Int.reduceToNat, Int.cast_ofNat_Int, Int.reduceNatCast, Int.toNat_zero, Int.toNat_one, Int.reduceLE, Int.reduceLT, Int.reduceEq, Int.zero_add, Int.add_zero, or_false, false_or, or_true, true_or, and_true, true_and, and_false, false_and, reduceIte, not_true_eq_false, not_false_eq_true, forall_const, false_implies, true_implies, implies_true, ne_eq, reduceCtorEq, List.all_cons, List.all_nil, Bool.and_true, Bool.and_self, decide_eq_true_eq, decide_true, dX6_settles_0, dX6_settles_1, dX6_settles_2, dX6_settles_3, dX6_settles_5, dX6_settles_8, dX6_settles_9, dX6_settles_12, dX6_settles_13, dX6_settles_14, dX6_settles_17, dX6_settles_18, dX6_settles_19, dX6_settles_20, dX6_settles_23, dX6_settles_26, FX6_7, FX6_13, kd_66, kd_67, kd_68, kd_69, kd_70, kd_71, kd_72, kd_73, kd_74, kd_75, kd_76, kd_77, kd_78, ln_66, ln_67, ln_68, ln_69, ln_70, ln_71, ln_72, ln_73, ln_74, ln_75, ln_76, ln_77, ln_78]
    repeat' (first | exact trivial | omega | (with_reducible assumption) | exact absurd trivial (by with_reducible assumption) | contradiction | apply And.intro | intro _)
    rw [show n = 60 by omega]
    exact hK
  | succ m ih =>
    intro n hn
    apply hV [2] 40
    simp only [InR, InL, inb, Int.toNat_natCast, wp1, wpc_z, wpc_s, stp_iconst, stp_bipush, stp_sipush, stp_lconst, stp_iload_n, stp_iload, stp_lload_n, stp_lload, stp_aload_n, stp_aload, stp_istore_n, stp_istore, stp_lstore_n, stp_lstore, stp_astore_n, stp_astore, stp_iinc, stp_iadd, stp_isub, stp_imul, stp_ineg, stp_idiv, stp_irem, stp_ladd, stp_lmul, stp_ldiv, stp_lrem, stp_ishl, stp_ishr, stp_iushr, stp_iand, stp_ior, stp_i2l, stp_i2b, stp_i2s, stp_lcmp, stp_dup, stp_dup2, stp_pop, stp_ifCond, stp_if_icmp, stp_goto, stp_tableswitch, stp_lookupswitch, stp_ldc, stp_ldc2_w, stp_getstatic, stp_getfield, stp_putfield, stp_iaload, stp_baload, stp_iastore, stp_bastore, stp_aaload, stp_aastore, stp_invokevirtual, stp_invokestatic, stp_ireturn, stp_lreturn, stp_return_, lg, lset, okl, spl, wd, c1, cnd, tg, swT, swL, f4_0, f4_1, f4_2, f4_3, f2_0, f2_1, List.mem_cons, List.not_mem_nil, List.length_cons, List.length_nil, List.cons_append, List.nil_append, Nat.reduceAdd, Nat.reduceMul, Nat.reduceLT, Nat.reduceEqDiff, Nat.reduceLeDiff, Int.reduceAdd, Int.reduceNeg, Int.reduceToNat, Int.cast_ofNat_Int, Int.reduceNatCast, Int.toNat_zero, Int.toNat_one, Int.reduceLE, Int.reduceLT, Int.reduceEq, Int.zero_add, Int.add_zero, or_false, false_or, or_true, true_or, and_true, true_and, and_false, false_and, reduceIte, not_true_eq_false, not_false_eq_true, forall_const, false_implies, true_implies, implies_true, ne_eq, reduceCtorEq, List.all_cons, List.all_nil, Bool.and_true, Bool.and_self, decide_eq_true_eq, decide_true, dX6_settles_0, dX6_settles_1, dX6_settles_2, dX6_settles_3, dX6_settles_5, dX6_settles_8, dX6_settles_9, dX6_settles_12, dX6_settles_13, dX6_settles_14, dX6_settles_17, dX6_settles_18, dX6_settles_19, dX6_settles_20, dX6_settles_23, dX6_settles_26, FX6_7, FX6_13, kd_66, kd_67, kd_68, kd_69, kd_70, kd_71, kd_72, kd_73, kd_74, kd_75, kd_76, kd_77, kd_78, ln_66, ln_67, ln_68, ln_69, ln_70, ln_71, ln_72, ln_73, ln_74, ln_75, ln_76, ln_77, ln_78]
    repeat' (first | exact trivial | omega | (with_reducible assumption) | exact absurd trivial (by with_reducible assumption) | contradiction | apply And.intro | intro _)
    have h := ih (n + 1) (by omega)
    rw [← wI_wB (v := rI (wB μ 67 n (rI μ 68)) 68 n) μ 67 n (rI μ 68) (by rw [rI_wB]; simp)] at h
    exact h
def T6_settles : TT := fun a μ K => match a with
  | [.inr (.inr o)] => o = 66 ∧ (K [] (wB μ 67 60 (rI μ 68)))
  | _ => False
theorem rec_X6_settles : ∀ a μ K, T6_settles a μ K → ∃ k r, a = .inr (.inr k) :: r ∧ kd k = 6 := by
  intro a μ K h
  unfold T6_settles at h
  split at h
  · exact ⟨_, _, rfl, by rw [h.1]; rfl⟩
  · exact h.elim
theorem gk_X6_settles (l : Launch) : ∀ i n b T, G_X6_settles i = some (n, b, T) → CallOK l 0 RX6 i n b T := by
  intro i n b T h
  have hm : (i, n, b, T) ∈ GL_X6_settles := lk_mem h
  simp [GL_X6_settles] at hm
set_option maxRecDepth 20000 in
set_option maxHeartbeats 4000000 in
theorem body_X6_settles (o : Nat) (μ : Mem) (K : List AV → Mem → Prop) (V : Nat → List (Option AV) → List AV → Mem → Prop) (hV : Clos FX6 CX6 G_X6_settles 0 K cX6_settles V) (hT : o = 66 ∧ (K [] (wB μ 67 60 (rI μ 68)))) : V 0 [some (.inr (.inr o)), none] [] μ := by
  obtain ⟨rfl, hK⟩ := hT
  apply hV [2] 40
  simp only [InR, InL, inb, Int.toNat_natCast, wp1, wpc_z, wpc_s, stp_iconst, stp_bipush, stp_sipush, stp_lconst, stp_iload_n, stp_iload, stp_lload_n, stp_lload, stp_aload_n, stp_aload, stp_istore_n, stp_istore, stp_lstore_n, stp_lstore, stp_astore_n, stp_astore, stp_iinc, stp_iadd, stp_isub, stp_imul, stp_ineg, stp_idiv, stp_irem, stp_ladd, stp_lmul, stp_ldiv, stp_lrem, stp_ishl, stp_ishr, stp_iushr, stp_iand, stp_ior, stp_i2l, stp_i2b, stp_i2s, stp_lcmp, stp_dup, stp_dup2, stp_pop, stp_ifCond, stp_if_icmp, stp_goto, stp_tableswitch, stp_lookupswitch, stp_ldc, stp_ldc2_w, stp_getstatic, stp_getfield, stp_putfield, stp_iaload, stp_baload, stp_iastore, stp_bastore, stp_aaload, stp_aastore, stp_invokevirtual, stp_invokestatic, stp_ireturn, stp_lreturn, stp_return_, lg, lset, okl, spl, wd, c1, cnd, tg, swT, swL, f4_0, f4_1, f4_2, f4_3, f2_0, f2_1, List.mem_cons, List.not_mem_nil, List.length_cons, List.length_nil, List.cons_append, List.nil_append, Nat.reduceAdd, Nat.reduceMul, Nat.reduceLT, Nat.reduceEqDiff, Nat.reduceLeDiff, Int.reduceAdd, Int.reduceNeg, Int.reduceToNat, Int.cast_ofNat_Int, Int.reduceNatCast, Int.toNat_zero, Int.toNat_one, Int.reduceLE, Int.reduceLT, Int.reduceEq, Int.zero_add, Int.add_zero, or_false, false_or, or_true, true_or, and_true, true_and, and_false, false_and, reduceIte, not_true_eq_false, not_false_eq_true, forall_const, false_implies, true_implies, implies_true, ne_eq, reduceCtorEq, List.all_cons, List.all_nil, Bool.and_true, Bool.and_self, decide_eq_true_eq, decide_true, dX6_settles_0, dX6_settles_1, dX6_settles_2, dX6_settles_3, dX6_settles_5, dX6_settles_8, dX6_settles_9, dX6_settles_12, dX6_settles_13, dX6_settles_14, dX6_settles_17, dX6_settles_18, dX6_settles_19, dX6_settles_20, dX6_settles_23, dX6_settles_26, FX6_7, FX6_13, kd_66, kd_67, kd_68, kd_69, kd_70, kd_71, kd_72, kd_73, kd_74, kd_75, kd_76, kd_77, kd_78, ln_66, ln_67, ln_68, ln_69, ln_70, ln_71, ln_72, ln_73, ln_74, ln_75, ln_76, ln_77, ln_78]
  have h := lp_settles V K hV μ hK 60 0 (by omega)
  rw [wB_0] at h
  exact h
theorem good_X6_settles (l : Launch) : Good l 0 yX6_settles cX6_settles 2 none T6_settles := by
  refine Good.mk 0 (by decide) rfl (by simp [retOK]) FOK6 COK6 (gk_X6_settles l) ?_ ?_
  · intro a μ K h
    unfold T6_settles at h
    split at h
    · simp [entl]
    · exact h.elim
  · intro a μ K V hV h
    unfold T6_settles at h
    split at h
    · exact body_X6_settles _ μ K V hV h
    · exact h.elim

/-- the state at hand, as starts() leaves it -/
def stM (μ : Mem) : Mem := wI (wI (wI (wI (wB (wB μ 68 60 (rI μ 67)) 72 5 (fun _ => 0)) 66 13 (-4)) 66 14 0) 66 15 0) 66 16 0
def GL_X6_starts : List (Nat × Nat × Bool × TT) := []
def G_X6_starts : Nat → Option (Nat × Bool × TT) := fun i => GL_X6_starts.lookup i

set_option maxRecDepth 20000 in
set_option maxHeartbeats 4000000 in
theorem lp_starts2 (V : Nat → List (Option AV) → List AV → Mem → Prop) (K : List AV → Mem → Prop) (hV : Clos FX6 CX6 G_X6_starts 0 K cX6_starts V) (μ : Mem) (hK : K [] (stM μ)) : ∀ m n : Nat, n + m = 5 → V 28 [some (.inr (.inr 66)), some (.inl (n : Int))] [] (wB (wB μ 68 60 (rI μ 67)) 72 n (fun _ => 0)) := by
  intro m
  induction m with
  | zero =>
    intro n hn
    apply hV [28] 40
    simp only [InR, InL, inb, Int.toNat_natCast, wp1, wpc_z, wpc_s, stp_iconst, stp_bipush, stp_sipush, stp_lconst, stp_iload_n, stp_iload, stp_lload_n, stp_lload, stp_aload_n, stp_aload, stp_istore_n, stp_istore, stp_lstore_n, stp_lstore, stp_astore_n, stp_astore, stp_iinc, stp_iadd, stp_isub, stp_imul, stp_ineg, stp_idiv, stp_irem, stp_ladd, stp_lmul, stp_ldiv, stp_lrem, stp_ishl, stp_ishr, stp_iushr, stp_iand, stp_ior, stp_i2l, stp_i2b, stp_i2s, stp_lcmp, stp_dup, stp_dup2, stp_pop, stp_ifCond, stp_if_icmp, stp_goto, stp_tableswitch, stp_lookupswitch, stp_ldc, stp_ldc2_w, stp_getstatic, stp_getfield, stp_putfield, stp_iaload, stp_baload, stp_iastore, stp_bastore, stp_aaload, stp_aastore, stp_invokevirtual, stp_invokestatic, stp_ireturn, stp_lreturn, stp_return_, lg, lset, okl, spl, wd, c1, cnd, tg, swT, swL, f4_0, f4_1, f4_2, f4_3, f2_0, f2_1, List.mem_cons, List.not_mem_nil, List.length_cons, List.length_nil, List.cons_append, List.nil_append, Nat.reduceAdd, Nat.reduceMul, Nat.reduceLT, Nat.reduceEqDiff, Nat.reduceLeDiff, Int.reduceAdd, Int.reduceNeg, Int.reduceToNat, Int.cast_ofNat_Int, Int.reduceNatCast, Int.toNat_zero, Int.toNat_one, Int.reduceLE, Int.reduceLT, Int.reduceEq, Int.zero_add, Int.add_zero, or_false, false_or, or_true, true_or, and_true, true_and, and_false, false_and, reduceIte, not_true_eq_false, not_false_eq_true, forall_const, false_implies, true_implies, implies_true, ne_eq, reduceCtorEq, List.all_cons, List.all_nil, Bool.and_true, Bool.and_self, decide_eq_true_eq, decide_true, dX6_starts_0, dX6_starts_1, dX6_starts_2, dX6_starts_3, dX6_starts_5, dX6_starts_8, dX6_starts_9, dX6_starts_12, dX6_starts_13, dX6_starts_14, dX6_starts_17, dX6_starts_18, dX6_starts_19, dX6_starts_20, dX6_starts_23, dX6_starts_26, dX6_starts_27, dX6_starts_28, dX6_starts_29, dX6_starts_30, dX6_starts_33, dX6_starts_34, dX6_starts_37, dX6_starts_38, dX6_starts_39, dX6_starts_40, dX6_starts_43, dX6_starts_46, dX6_starts_47, dX6_starts_49, dX6_starts_52, dX6_starts_53, dX6_starts_54, dX6_starts_57, dX6_starts_58, dX6_starts_59, dX6_starts_62, dX6_starts_63, dX6_starts_64, dX6_starts_67, FX6_13, FX6_7, FX6_26, FX6_129, FX6_132, FX6_135, FX6_138, kd_66, kd_67, kd_68, kd_69, kd_70, kd_71, kd_72, kd_73, kd_74, kd_75, kd_76, kd_77, kd_78, ln_66, ln_67, ln_68, ln_69, ln_70, ln_71, ln_72, ln_73, ln_74, ln_75, ln_76, ln_77, ln_78]
    repeat' (first | exact trivial | omega | (with_reducible assumption) | exact absurd trivial (by with_reducible assumption) | contradiction | apply And.intro | intro _)
    rw [show n = 5 by omega]
    exact hK
  | succ m ih =>
    intro n hn
    apply hV [28] 40
    simp only [InR, InL, inb, Int.toNat_natCast, wp1, wpc_z, wpc_s, stp_iconst, stp_bipush, stp_sipush, stp_lconst, stp_iload_n, stp_iload, stp_lload_n, stp_lload, stp_aload_n, stp_aload, stp_istore_n, stp_istore, stp_lstore_n, stp_lstore, stp_astore_n, stp_astore, stp_iinc, stp_iadd, stp_isub, stp_imul, stp_ineg, stp_idiv, stp_irem, stp_ladd, stp_lmul, stp_ldiv, stp_lrem, stp_ishl, stp_ishr, stp_iushr, stp_iand, stp_ior, stp_i2l, stp_i2b, stp_i2s, stp_lcmp, stp_dup, stp_dup2, stp_pop, stp_ifCond, stp_if_icmp, stp_goto, stp_tableswitch, stp_lookupswitch, stp_ldc, stp_ldc2_w, stp_getstatic, stp_getfield, stp_putfield, stp_iaload, stp_baload, stp_iastore, stp_bastore, stp_aaload, stp_aastore, stp_invokevirtual, stp_invokestatic, stp_ireturn, stp_lreturn, stp_return_, lg, lset, okl, spl, wd, c1, cnd, tg, swT, swL, f4_0, f4_1, f4_2, f4_3, f2_0, f2_1, List.mem_cons, List.not_mem_nil, List.length_cons, List.length_nil, List.cons_append, List.nil_append, Nat.reduceAdd, Nat.reduceMul, Nat.reduceLT, Nat.reduceEqDiff, Nat.reduceLeDiff, Int.reduceAdd, Int.reduceNeg, Int.reduceToNat, Int.cast_ofNat_Int, Int.reduceNatCast, Int.toNat_zero, Int.toNat_one, Int.reduceLE, Int.reduceLT, Int.reduceEq, Int.zero_add, Int.add_zero, or_false, false_or, or_true, true_or, and_true, true_and, and_false, false_and, reduceIte, not_true_eq_false, not_false_eq_true, forall_const, false_implies, true_implies, implies_true, ne_eq, reduceCtorEq, List.all_cons, List.all_nil, Bool.and_true, Bool.and_self, decide_eq_true_eq, decide_true, dX6_starts_0, dX6_starts_1, dX6_starts_2, dX6_starts_3, dX6_starts_5, dX6_starts_8, dX6_starts_9, dX6_starts_12, dX6_starts_13, dX6_starts_14, dX6_starts_17, dX6_starts_18, dX6_starts_19, dX6_starts_20, dX6_starts_23, dX6_starts_26, dX6_starts_27, dX6_starts_28, dX6_starts_29, dX6_starts_30, dX6_starts_33, dX6_starts_34, dX6_starts_37, dX6_starts_38, dX6_starts_39, dX6_starts_40, dX6_starts_43, dX6_starts_46, dX6_starts_47, dX6_starts_49, dX6_starts_52, dX6_starts_53, dX6_starts_54, dX6_starts_57, dX6_starts_58, dX6_starts_59, dX6_starts_62, dX6_starts_63, dX6_starts_64, dX6_starts_67, FX6_13, FX6_7, FX6_26, FX6_129, FX6_132, FX6_135, FX6_138, kd_66, kd_67, kd_68, kd_69, kd_70, kd_71, kd_72, kd_73, kd_74, kd_75, kd_76, kd_77, kd_78, ln_66, ln_67, ln_68, ln_69, ln_70, ln_71, ln_72, ln_73, ln_74, ln_75, ln_76, ln_77, ln_78]
    repeat' (first | exact trivial | omega | (with_reducible assumption) | exact absurd trivial (by with_reducible assumption) | contradiction | apply And.intro | intro _)
    have h := ih (n + 1) (by omega)
    rw [← wI_wB (v := 0) _ 72 n _ rfl] at h
    exact h
set_option maxRecDepth 20000 in
set_option maxHeartbeats 4000000 in
theorem lp_starts1 (V : Nat → List (Option AV) → List AV → Mem → Prop) (K : List AV → Mem → Prop) (hV : Clos FX6 CX6 G_X6_starts 0 K cX6_starts V) (μ : Mem) (hK : K [] (stM μ)) : ∀ m n : Nat, n + m = 60 → V 2 [some (.inr (.inr 66)), some (.inl (n : Int))] [] (wB μ 68 n (rI μ 67)) := by
  intro m
  induction m with
  | zero =>
    intro n hn
    apply hV [2, 28] 40
    simp only [InR, InL, inb, Int.toNat_natCast, wp1, wpc_z, wpc_s, stp_iconst, stp_bipush, stp_sipush, stp_lconst, stp_iload_n, stp_iload, stp_lload_n, stp_lload, stp_aload_n, stp_aload, stp_istore_n, stp_istore, stp_lstore_n, stp_lstore, stp_astore_n, stp_astore, stp_iinc, stp_iadd, stp_isub, stp_imul, stp_ineg, stp_idiv, stp_irem, stp_ladd, stp_lmul, stp_ldiv, stp_lrem, stp_ishl, stp_ishr, stp_iushr, stp_iand, stp_ior, stp_i2l, stp_i2b, stp_i2s, stp_lcmp, stp_dup, stp_dup2, stp_pop, stp_ifCond, stp_if_icmp, stp_goto, stp_tableswitch, stp_lookupswitch, stp_ldc, stp_ldc2_w, stp_getstatic, stp_getfield, stp_putfield, stp_iaload, stp_baload, stp_iastore, stp_bastore, stp_aaload, stp_aastore, stp_invokevirtual, stp_invokestatic, stp_ireturn, stp_lreturn, stp_return_, lg, lset, okl, spl, wd, c1, cnd, tg, swT, swL, f4_0, f4_1, f4_2, f4_3, f2_0, f2_1, List.mem_cons, List.not_mem_nil, List.length_cons, List.length_nil, List.cons_append, List.nil_append, Nat.reduceAdd, Nat.reduceMul, Nat.reduceLT, Nat.reduceEqDiff, Nat.reduceLeDiff, Int.reduceAdd, Int.reduceNeg, Int.reduceToNat, Int.cast_ofNat_Int, Int.reduceNatCast, Int.toNat_zero, Int.toNat_one, Int.reduceLE, Int.reduceLT, Int.reduceEq, Int.zero_add, Int.add_zero, or_false, false_or, or_true, true_or, and_true, true_and, and_false, false_and, reduceIte, not_true_eq_false, not_false_eq_true, forall_const, false_implies, true_implies, implies_true, ne_eq, reduceCtorEq, List.all_cons, List.all_nil, Bool.and_true, Bool.and_self, decide_eq_true_eq, decide_true, dX6_starts_0, dX6_starts_1, dX6_starts_2, dX6_starts_3, dX6_starts_5, dX6_starts_8, dX6_starts_9, dX6_starts_12, dX6_starts_13, dX6_starts_14, dX6_starts_17, dX6_starts_18, dX6_starts_19, dX6_starts_20, dX6_starts_23, dX6_starts_26, dX6_starts_27, dX6_starts_28, dX6_starts_29, dX6_starts_30, dX6_starts_33, dX6_starts_34, dX6_starts_37, dX6_starts_38, dX6_starts_39, dX6_starts_40, dX6_starts_43, dX6_starts_46, dX6_starts_47, dX6_starts_49, dX6_starts_52, dX6_starts_53, dX6_starts_54, dX6_starts_57, dX6_starts_58, dX6_starts_59, dX6_starts_62, dX6_starts_63, dX6_starts_64, dX6_starts_67, FX6_13, FX6_7, FX6_26, FX6_129, FX6_132, FX6_135, FX6_138, kd_66, kd_67, kd_68, kd_69, kd_70, kd_71, kd_72, kd_73, kd_74, kd_75, kd_76, kd_77, kd_78, ln_66, ln_67, ln_68, ln_69, ln_70, ln_71, ln_72, ln_73, ln_74, ln_75, ln_76, ln_77, ln_78]
    repeat' (first | exact trivial | omega | (with_reducible assumption) | exact absurd trivial (by with_reducible assumption) | contradiction | apply And.intro | intro _)
    rw [show n = 60 by omega]
    have h := lp_starts2 V K hV μ hK 5 0 (by omega)
    rw [wB_0] at h
    exact h
  | succ m ih =>
    intro n hn
    apply hV [2, 28] 40
    simp only [InR, InL, inb, Int.toNat_natCast, wp1, wpc_z, wpc_s, stp_iconst, stp_bipush, stp_sipush, stp_lconst, stp_iload_n, stp_iload, stp_lload_n, stp_lload, stp_aload_n, stp_aload, stp_istore_n, stp_istore, stp_lstore_n, stp_lstore, stp_astore_n, stp_astore, stp_iinc, stp_iadd, stp_isub, stp_imul, stp_ineg, stp_idiv, stp_irem, stp_ladd, stp_lmul, stp_ldiv, stp_lrem, stp_ishl, stp_ishr, stp_iushr, stp_iand, stp_ior, stp_i2l, stp_i2b, stp_i2s, stp_lcmp, stp_dup, stp_dup2, stp_pop, stp_ifCond, stp_if_icmp, stp_goto, stp_tableswitch, stp_lookupswitch, stp_ldc, stp_ldc2_w, stp_getstatic, stp_getfield, stp_putfield, stp_iaload, stp_baload, stp_iastore, stp_bastore, stp_aaload, stp_aastore, stp_invokevirtual, stp_invokestatic, stp_ireturn, stp_lreturn, stp_return_, lg, lset, okl, spl, wd, c1, cnd, tg, swT, swL, f4_0, f4_1, f4_2, f4_3, f2_0, f2_1, List.mem_cons, List.not_mem_nil, List.length_cons, List.length_nil, List.cons_append, List.nil_append, Nat.reduceAdd, Nat.reduceMul, Nat.reduceLT, Nat.reduceEqDiff, Nat.reduceLeDiff, Int.reduceAdd, Int.reduceNeg, Int.reduceToNat, Int.cast_ofNat_Int, Int.reduceNatCast, Int.toNat_zero, Int.toNat_one, Int.reduceLE, Int.reduceLT, Int.reduceEq, Int.zero_add, Int.add_zero, or_false, false_or, or_true, true_or, and_true, true_and, and_false, false_and, reduceIte, not_true_eq_false, not_false_eq_true, forall_const, false_implies, true_implies, implies_true, ne_eq, reduceCtorEq, List.all_cons, List.all_nil, Bool.and_true, Bool.and_self, decide_eq_true_eq, decide_true, dX6_starts_0, dX6_starts_1, dX6_starts_2, dX6_starts_3, dX6_starts_5, dX6_starts_8, dX6_starts_9, dX6_starts_12, dX6_starts_13, dX6_starts_14, dX6_starts_17, dX6_starts_18, dX6_starts_19, dX6_starts_20, dX6_starts_23, dX6_starts_26, dX6_starts_27, dX6_starts_28, dX6_starts_29, dX6_starts_30, dX6_starts_33, dX6_starts_34, dX6_starts_37, dX6_starts_38, dX6_starts_39, dX6_starts_40, dX6_starts_43, dX6_starts_46, dX6_starts_47, dX6_starts_49, dX6_starts_52, dX6_starts_53, dX6_starts_54, dX6_starts_57, dX6_starts_58, dX6_starts_59, dX6_starts_62, dX6_starts_63, dX6_starts_64, dX6_starts_67, FX6_13, FX6_7, FX6_26, FX6_129, FX6_132, FX6_135, FX6_138, kd_66, kd_67, kd_68, kd_69, kd_70, kd_71, kd_72, kd_73, kd_74, kd_75, kd_76, kd_77, kd_78, ln_66, ln_67, ln_68, ln_69, ln_70, ln_71, ln_72, ln_73, ln_74, ln_75, ln_76, ln_77, ln_78]
    repeat' (first | exact trivial | omega | (with_reducible assumption) | exact absurd trivial (by with_reducible assumption) | contradiction | apply And.intro | intro _)
    have h := ih (n + 1) (by omega)
    rw [← wI_wB (v := rI (wB μ 68 n (rI μ 67)) 67 n) μ 68 n (rI μ 67) (by rw [rI_wB]; simp)] at h
    exact h
def T6_starts : TT := fun a μ K => match a with
  | [.inr (.inr o)] => o = 66 ∧ (K [] (stM μ))
  | _ => False
theorem rec_X6_starts : ∀ a μ K, T6_starts a μ K → ∃ k r, a = .inr (.inr k) :: r ∧ kd k = 6 := by
  intro a μ K h
  unfold T6_starts at h
  split at h
  · exact ⟨_, _, rfl, by rw [h.1]; rfl⟩
  · exact h.elim
theorem gk_X6_starts (l : Launch) : ∀ i n b T, G_X6_starts i = some (n, b, T) → CallOK l 0 RX6 i n b T := by
  intro i n b T h
  have hm : (i, n, b, T) ∈ GL_X6_starts := lk_mem h
  simp [GL_X6_starts] at hm
set_option maxRecDepth 20000 in
set_option maxHeartbeats 4000000 in
theorem body_X6_starts (o : Nat) (μ : Mem) (K : List AV → Mem → Prop) (V : Nat → List (Option AV) → List AV → Mem → Prop) (hV : Clos FX6 CX6 G_X6_starts 0 K cX6_starts V) (hT : o = 66 ∧ (K [] (stM μ))) : V 0 [some (.inr (.inr o)), none] [] μ := by
  obtain ⟨rfl, hK⟩ := hT
  apply hV [2] 40
  simp only [InR, InL, inb, Int.toNat_natCast, wp1, wpc_z, wpc_s, stp_iconst, stp_bipush, stp_sipush, stp_lconst, stp_iload_n, stp_iload, stp_lload_n, stp_lload, stp_aload_n, stp_aload, stp_istore_n, stp_istore, stp_lstore_n, stp_lstore, stp_astore_n, stp_astore, stp_iinc, stp_iadd, stp_isub, stp_imul, stp_ineg, stp_idiv, stp_irem, stp_ladd, stp_lmul, stp_ldiv, stp_lrem, stp_ishl, stp_ishr, stp_iushr, stp_iand, stp_ior, stp_i2l, stp_i2b, stp_i2s, stp_lcmp, stp_dup, stp_dup2, stp_pop, stp_ifCond, stp_if_icmp, stp_goto, stp_tableswitch, stp_lookupswitch, stp_ldc, stp_ldc2_w, stp_getstatic, stp_getfield, stp_putfield, stp_iaload, stp_baload, stp_iastore, stp_bastore, stp_aaload, stp_aastore, stp_invokevirtual, stp_invokestatic, stp_ireturn, stp_lreturn, stp_return_, lg, lset, okl, spl, wd, c1, cnd, tg, swT, swL, f4_0, f4_1, f4_2, f4_3, f2_0, f2_1, List.mem_cons, List.not_mem_nil, List.length_cons, List.length_nil, List.cons_append, List.nil_append, Nat.reduceAdd, Nat.reduceMul, Nat.reduceLT, Nat.reduceEqDiff, Nat.reduceLeDiff, Int.reduceAdd, Int.reduceNeg, Int.reduceToNat, Int.cast_ofNat_Int, Int.reduceNatCast, Int.toNat_zero, Int.toNat_one, Int.reduceLE, Int.reduceLT, Int.reduceEq, Int.zero_add, Int.add_zero, or_false, false_or, or_true, true_or, and_true, true_and, and_false, false_and, reduceIte, not_true_eq_false, not_false_eq_true, forall_const, false_implies, true_implies, implies_true, ne_eq, reduceCtorEq, List.all_cons, List.all_nil, Bool.and_true, Bool.and_self, decide_eq_true_eq, decide_true, dX6_starts_0, dX6_starts_1, dX6_starts_2, dX6_starts_3, dX6_starts_5, dX6_starts_8, dX6_starts_9, dX6_starts_12, dX6_starts_13, dX6_starts_14, dX6_starts_17, dX6_starts_18, dX6_starts_19, dX6_starts_20, dX6_starts_23, dX6_starts_26, dX6_starts_27, dX6_starts_28, dX6_starts_29, dX6_starts_30, dX6_starts_33, dX6_starts_34, dX6_starts_37, dX6_starts_38, dX6_starts_39, dX6_starts_40, dX6_starts_43, dX6_starts_46, dX6_starts_47, dX6_starts_49, dX6_starts_52, dX6_starts_53, dX6_starts_54, dX6_starts_57, dX6_starts_58, dX6_starts_59, dX6_starts_62, dX6_starts_63, dX6_starts_64, dX6_starts_67, FX6_13, FX6_7, FX6_26, FX6_129, FX6_132, FX6_135, FX6_138, kd_66, kd_67, kd_68, kd_69, kd_70, kd_71, kd_72, kd_73, kd_74, kd_75, kd_76, kd_77, kd_78, ln_66, ln_67, ln_68, ln_69, ln_70, ln_71, ln_72, ln_73, ln_74, ln_75, ln_76, ln_77, ln_78]
  have h := lp_starts1 V K hV μ hK 60 0 (by omega)
  rw [wB_0] at h
  exact h
theorem good_X6_starts (l : Launch) : Good l 0 yX6_starts cX6_starts 2 none T6_starts := by
  refine Good.mk 0 (by decide) rfl (by simp [retOK]) FOK6 COK6 (gk_X6_starts l) ?_ ?_
  · intro a μ K h
    unfold T6_starts at h
    split at h
    · simp [entl]
    · exact h.elim
  · intro a μ K V hV h
    unfold T6_starts at h
    split at h
    · exact body_X6_starts _ μ K V hV h
    · exact h.elim

def GL_X6_firstDraft : List (Nat × Nat × Bool × TT) := []
def G_X6_firstDraft : Nat → Option (Nat × Bool × TT) := fun i => GL_X6_firstDraft.lookup i

set_option maxRecDepth 20000 in
set_option maxHeartbeats 4000000 in
theorem lp_firstDraft (V : Nat → List (Option AV) → List AV → Mem → Prop) (K : List AV → Mem → Prop) (hV : Clos FX6 CX6 G_X6_firstDraft 0 K cX6_firstDraft V) (μ : Mem) (hK : K [] (wI (wB μ 70 60 (fun _ => 0)) 66 4 0)) : ∀ m n : Nat, n + m = 60 → V 2 [some (.inr (.inr 66)), some (.inl (n : Int))] [] (wB μ 70 n (fun _ => 0)) := by
  intro m
  induction m with
  | zero =>
    intro n hn
    apply hV [2] 40
    simp only [InR, InL, inb, Int.toNat_natCast, wp1, wpc_z, wpc_s, stp_iconst, stp_bipush, stp_sipush, stp_lconst, stp_iload_n, stp_iload, stp_lload_n, stp_lload, stp_aload_n, stp_aload, stp_istore_n, stp_istore, stp_lstore_n, stp_lstore, stp_astore_n, stp_astore, stp_iinc, stp_iadd, stp_isub, stp_imul, stp_ineg, stp_idiv, stp_irem, stp_ladd, stp_lmul, stp_ldiv, stp_lrem, stp_ishl, stp_ishr, stp_iushr, stp_iand, stp_ior, stp_i2l, stp_i2b, stp_i2s, stp_lcmp, stp_dup, stp_dup2, stp_pop, stp_ifCond, stp_if_icmp, stp_goto, stp_tableswitch, stp_lookupswitch, stp_ldc, stp_ldc2_w, stp_getstatic, stp_getfield, stp_putfield, stp_iaload, stp_baload, stp_iastore, stp_bastore, stp_aaload, stp_aastore, stp_invokevirtual, stp_invokestatic, stp_ireturn, stp_lreturn, stp_return_, lg, lset, okl, spl, wd, c1, cnd, tg, swT, swL, f4_0, f4_1, f4_2, f4_3, f2_0, f2_1, List.mem_cons, List.not_mem_nil, List.length_cons, List.length_nil, List.cons_append, List.nil_append, Nat.reduceAdd, Nat.reduceMul, Nat.reduceLT, Nat.reduceEqDiff, Nat.reduceLeDiff, Int.reduceAdd, Int.reduceNeg, Int.reduceToNat, Int.cast_ofNat_Int, Int.reduceNatCast, Int.toNat_zero, Int.toNat_one, Int.reduceLE, Int.reduceLT, Int.reduceEq, Int.zero_add, Int.add_zero, or_false, false_or, or_true, true_or, and_true, true_and, and_false, false_and, reduceIte, not_true_eq_false, not_false_eq_true, forall_const, false_implies, true_implies, implies_true, ne_eq, reduceCtorEq, List.all_cons, List.all_nil, Bool.and_true, Bool.and_self, decide_eq_true_eq, decide_true, dX6_firstDraft_0, dX6_firstDraft_1, dX6_firstDraft_2, dX6_firstDraft_3, dX6_firstDraft_5, dX6_firstDraft_8, dX6_firstDraft_9, dX6_firstDraft_12, dX6_firstDraft_13, dX6_firstDraft_14, dX6_firstDraft_15, dX6_firstDraft_18, dX6_firstDraft_21, dX6_firstDraft_22, dX6_firstDraft_23, dX6_firstDraft_26, FX6_20, FX6_53, kd_66, kd_67, kd_68, kd_69, kd_70, kd_71, kd_72, kd_73, kd_74, kd_75, kd_76, kd_77, kd_78, ln_66, ln_67, ln_68, ln_69, ln_70, ln_71, ln_72, ln_73, ln_74, ln_75, ln_76, ln_77, ln_78]
    repeat' (first | exact trivial | omega | (with_reducible assumption) | exact absurd trivial (by with_reducible assumption) | contradiction | apply And.intro | intro _)
    rw [show n = 60 by omega]
    exact hK
  | succ m ih =>
    intro n hn
    apply hV [2] 40
    simp only [InR, InL, inb, Int.toNat_natCast, wp1, wpc_z, wpc_s, stp_iconst, stp_bipush, stp_sipush, stp_lconst, stp_iload_n, stp_iload, stp_lload_n, stp_lload, stp_aload_n, stp_aload, stp_istore_n, stp_istore, stp_lstore_n, stp_lstore, stp_astore_n, stp_astore, stp_iinc, stp_iadd, stp_isub, stp_imul, stp_ineg, stp_idiv, stp_irem, stp_ladd, stp_lmul, stp_ldiv, stp_lrem, stp_ishl, stp_ishr, stp_iushr, stp_iand, stp_ior, stp_i2l, stp_i2b, stp_i2s, stp_lcmp, stp_dup, stp_dup2, stp_pop, stp_ifCond, stp_if_icmp, stp_goto, stp_tableswitch, stp_lookupswitch, stp_ldc, stp_ldc2_w, stp_getstatic, stp_getfield, stp_putfield, stp_iaload, stp_baload, stp_iastore, stp_bastore, stp_aaload, stp_aastore, stp_invokevirtual, stp_invokestatic, stp_ireturn, stp_lreturn, stp_return_, lg, lset, okl, spl, wd, c1, cnd, tg, swT, swL, f4_0, f4_1, f4_2, f4_3, f2_0, f2_1, List.mem_cons, List.not_mem_nil, List.length_cons, List.length_nil, List.cons_append, List.nil_append, Nat.reduceAdd, Nat.reduceMul, Nat.reduceLT, Nat.reduceEqDiff, Nat.reduceLeDiff, Int.reduceAdd, Int.reduceNeg, Int.reduceToNat, Int.cast_ofNat_Int, Int.reduceNatCast, Int.toNat_zero, Int.toNat_one, Int.reduceLE, Int.reduceLT, Int.reduceEq, Int.zero_add, Int.add_zero, or_false, false_or, or_true, true_or, and_true, true_and, and_false, false_and, reduceIte, not_true_eq_false, not_false_eq_true, forall_const, false_implies, true_implies, implies_true, ne_eq, reduceCtorEq, List.all_cons, List.all_nil, Bool.and_true, Bool.and_self, decide_eq_true_eq, decide_true, dX6_firstDraft_0, dX6_firstDraft_1, dX6_firstDraft_2, dX6_firstDraft_3, dX6_firstDraft_5, dX6_firstDraft_8, dX6_firstDraft_9, dX6_firstDraft_12, dX6_firstDraft_13, dX6_firstDraft_14, dX6_firstDraft_15, dX6_firstDraft_18, dX6_firstDraft_21, dX6_firstDraft_22, dX6_firstDraft_23, dX6_firstDraft_26, FX6_20, FX6_53, kd_66, kd_67, kd_68, kd_69, kd_70, kd_71, kd_72, kd_73, kd_74, kd_75, kd_76, kd_77, kd_78, ln_66, ln_67, ln_68, ln_69, ln_70, ln_71, ln_72, ln_73, ln_74, ln_75, ln_76, ln_77, ln_78]
    repeat' (first | exact trivial | omega | (with_reducible assumption) | exact absurd trivial (by with_reducible assumption) | contradiction | apply And.intro | intro _)
    have h := ih (n + 1) (by omega)
    rw [← wI_wB (v := 0) _ 70 n _ rfl] at h
    exact h
def T6_firstDraft : TT := fun a μ K => match a with
  | [.inr (.inr o)] => o = 66 ∧ (K [] (wI (wB μ 70 60 (fun _ => 0)) 66 4 0))
  | _ => False
theorem rec_X6_firstDraft : ∀ a μ K, T6_firstDraft a μ K → ∃ k r, a = .inr (.inr k) :: r ∧ kd k = 6 := by
  intro a μ K h
  unfold T6_firstDraft at h
  split at h
  · exact ⟨_, _, rfl, by rw [h.1]; rfl⟩
  · exact h.elim
theorem gk_X6_firstDraft (l : Launch) : ∀ i n b T, G_X6_firstDraft i = some (n, b, T) → CallOK l 0 RX6 i n b T := by
  intro i n b T h
  have hm : (i, n, b, T) ∈ GL_X6_firstDraft := lk_mem h
  simp [GL_X6_firstDraft] at hm
set_option maxRecDepth 20000 in
set_option maxHeartbeats 4000000 in
theorem body_X6_firstDraft (o : Nat) (μ : Mem) (K : List AV → Mem → Prop) (V : Nat → List (Option AV) → List AV → Mem → Prop) (hV : Clos FX6 CX6 G_X6_firstDraft 0 K cX6_firstDraft V) (hT : o = 66 ∧ (K [] (wI (wB μ 70 60 (fun _ => 0)) 66 4 0))) : V 0 [some (.inr (.inr o)), none] [] μ := by
  obtain ⟨rfl, hK⟩ := hT
  apply hV [2] 40
  simp only [InR, InL, inb, Int.toNat_natCast, wp1, wpc_z, wpc_s, stp_iconst, stp_bipush, stp_sipush, stp_lconst, stp_iload_n, stp_iload, stp_lload_n, stp_lload, stp_aload_n, stp_aload, stp_istore_n, stp_istore, stp_lstore_n, stp_lstore, stp_astore_n, stp_astore, stp_iinc, stp_iadd, stp_isub, stp_imul, stp_ineg, stp_idiv, stp_irem, stp_ladd, stp_lmul, stp_ldiv, stp_lrem, stp_ishl, stp_ishr, stp_iushr, stp_iand, stp_ior, stp_i2l, stp_i2b, stp_i2s, stp_lcmp, stp_dup, stp_dup2, stp_pop, stp_ifCond, stp_if_icmp, stp_goto, stp_tableswitch, stp_lookupswitch, stp_ldc, stp_ldc2_w, stp_getstatic, stp_getfield, stp_putfield, stp_iaload, stp_baload, stp_iastore, stp_bastore, stp_aaload, stp_aastore, stp_invokevirtual, stp_invokestatic, stp_ireturn, stp_lreturn, stp_return_, lg, lset, okl, spl, wd, c1, cnd, tg, swT, swL, f4_0, f4_1, f4_2, f4_3, f2_0, f2_1, List.mem_cons, List.not_mem_nil, List.length_cons, List.length_nil, List.cons_append, List.nil_append, Nat.reduceAdd, Nat.reduceMul, Nat.reduceLT, Nat.reduceEqDiff, Nat.reduceLeDiff, Int.reduceAdd, Int.reduceNeg, Int.reduceToNat, Int.cast_ofNat_Int, Int.reduceNatCast, Int.toNat_zero, Int.toNat_one, Int.reduceLE, Int.reduceLT, Int.reduceEq, Int.zero_add, Int.add_zero, or_false, false_or, or_true, true_or, and_true, true_and, and_false, false_and, reduceIte, not_true_eq_false, not_false_eq_true, forall_const, false_implies, true_implies, implies_true, ne_eq, reduceCtorEq, List.all_cons, List.all_nil, Bool.and_true, Bool.and_self, decide_eq_true_eq, decide_true, dX6_firstDraft_0, dX6_firstDraft_1, dX6_firstDraft_2, dX6_firstDraft_3, dX6_firstDraft_5, dX6_firstDraft_8, dX6_firstDraft_9, dX6_firstDraft_12, dX6_firstDraft_13, dX6_firstDraft_14, dX6_firstDraft_15, dX6_firstDraft_18, dX6_firstDraft_21, dX6_firstDraft_22, dX6_firstDraft_23, dX6_firstDraft_26, FX6_20, FX6_53, kd_66, kd_67, kd_68, kd_69, kd_70, kd_71, kd_72, kd_73, kd_74, kd_75, kd_76, kd_77, kd_78, ln_66, ln_67, ln_68, ln_69, ln_70, ln_71, ln_72, ln_73, ln_74, ln_75, ln_76, ln_77, ln_78]
  have h := lp_firstDraft V K hV μ hK 60 0 (by omega)
  rw [wB_0] at h
  exact h
theorem good_X6_firstDraft (l : Launch) : Good l 0 yX6_firstDraft cX6_firstDraft 2 none T6_firstDraft := by
  refine Good.mk 0 (by decide) rfl (by simp [retOK]) FOK6 COK6 (gk_X6_firstDraft l) ?_ ?_
  · intro a μ K h
    unfold T6_firstDraft at h
    split at h
    · simp [entl]
    · exact h.elim
  · intro a μ K V hV h
    unfold T6_firstDraft at h
    split at h
    · exact body_X6_firstDraft _ μ K V hV h
    · exact h.elim

def GL_X6_keepDraft : List (Nat × Nat × Bool × TT) := []
def G_X6_keepDraft : Nat → Option (Nat × Bool × TT) := fun i => GL_X6_keepDraft.lookup i

set_option maxRecDepth 20000 in
set_option maxHeartbeats 4000000 in
theorem lp_keepDraft (V : Nat → List (Option AV) → List AV → Mem → Prop) (K : List AV → Mem → Prop) (hV : Clos FX6 CX6 G_X6_keepDraft 0 K cX6_keepDraft V) (μ : Mem) (hK : K [] (wI (wI (wB μ 67 60 (rI μ 70)) 69 0 0) 69 1 0)) : ∀ m n : Nat, n + m = 60 → V 2 [some (.inr (.inr 66)), some (.inl (n : Int))] [] (wB μ 67 n (rI μ 70)) := by
  intro m
  induction m with
  | zero =>
    intro n hn
    apply hV [2] 40
    simp only [InR, InL, inb, Int.toNat_natCast, wp1, wpc_z, wpc_s, stp_iconst, stp_bipush, stp_sipush, stp_lconst, stp_iload_n, stp_iload, stp_lload_n, stp_lload, stp_aload_n, stp_aload, stp_istore_n, stp_istore, stp_lstore_n, stp_lstore, stp_astore_n, stp_astore, stp_iinc, stp_iadd, stp_isub, stp_imul, stp_ineg, stp_idiv, stp_irem, stp_ladd, stp_lmul, stp_ldiv, stp_lrem, stp_ishl, stp_ishr, stp_iushr, stp_iand, stp_ior, stp_i2l, stp_i2b, stp_i2s, stp_lcmp, stp_dup, stp_dup2, stp_pop, stp_ifCond, stp_if_icmp, stp_goto, stp_tableswitch, stp_lookupswitch, stp_ldc, stp_ldc2_w, stp_getstatic, stp_getfield, stp_putfield, stp_iaload, stp_baload, stp_iastore, stp_bastore, stp_aaload, stp_aastore, stp_invokevirtual, stp_invokestatic, stp_ireturn, stp_lreturn, stp_return_, lg, lset, okl, spl, wd, c1, cnd, tg, swT, swL, f4_0, f4_1, f4_2, f4_3, f2_0, f2_1, List.mem_cons, List.not_mem_nil, List.length_cons, List.length_nil, List.cons_append, List.nil_append, Nat.reduceAdd, Nat.reduceMul, Nat.reduceLT, Nat.reduceEqDiff, Nat.reduceLeDiff, Int.reduceAdd, Int.reduceNeg, Int.reduceToNat, Int.cast_ofNat_Int, Int.reduceNatCast, Int.toNat_zero, Int.toNat_one, Int.reduceLE, Int.reduceLT, Int.reduceEq, Int.zero_add, Int.add_zero, or_false, false_or, or_true, true_or, and_true, true_and, and_false, false_and, reduceIte, not_true_eq_false, not_false_eq_true, forall_const, false_implies, true_implies, implies_true, ne_eq, reduceCtorEq, List.all_cons, List.all_nil, Bool.and_true, Bool.and_self, decide_eq_true_eq, decide_true, dX6_keepDraft_0, dX6_keepDraft_1, dX6_keepDraft_2, dX6_keepDraft_3, dX6_keepDraft_5, dX6_keepDraft_8, dX6_keepDraft_9, dX6_keepDraft_12, dX6_keepDraft_13, dX6_keepDraft_14, dX6_keepDraft_17, dX6_keepDraft_18, dX6_keepDraft_19, dX6_keepDraft_20, dX6_keepDraft_23, dX6_keepDraft_26, dX6_keepDraft_27, dX6_keepDraft_30, dX6_keepDraft_31, dX6_keepDraft_32, dX6_keepDraft_33, dX6_keepDraft_34, dX6_keepDraft_37, dX6_keepDraft_38, dX6_keepDraft_39, dX6_keepDraft_40, FX6_7, FX6_20, FX6_16, kd_66, kd_67, kd_68, kd_69, kd_70, kd_71, kd_72, kd_73, kd_74, kd_75, kd_76, kd_77, kd_78, ln_66, ln_67, ln_68, ln_69, ln_70, ln_71, ln_72, ln_73, ln_74, ln_75, ln_76, ln_77, ln_78]
    repeat' (first | exact trivial | omega | (with_reducible assumption) | exact absurd trivial (by with_reducible assumption) | contradiction | apply And.intro | intro _)
    rw [show n = 60 by omega]
    exact hK
  | succ m ih =>
    intro n hn
    apply hV [2] 40
    simp only [InR, InL, inb, Int.toNat_natCast, wp1, wpc_z, wpc_s, stp_iconst, stp_bipush, stp_sipush, stp_lconst, stp_iload_n, stp_iload, stp_lload_n, stp_lload, stp_aload_n, stp_aload, stp_istore_n, stp_istore, stp_lstore_n, stp_lstore, stp_astore_n, stp_astore, stp_iinc, stp_iadd, stp_isub, stp_imul, stp_ineg, stp_idiv, stp_irem, stp_ladd, stp_lmul, stp_ldiv, stp_lrem, stp_ishl, stp_ishr, stp_iushr, stp_iand, stp_ior, stp_i2l, stp_i2b, stp_i2s, stp_lcmp, stp_dup, stp_dup2, stp_pop, stp_ifCond, stp_if_icmp, stp_goto, stp_tableswitch, stp_lookupswitch, stp_ldc, stp_ldc2_w, stp_getstatic, stp_getfield, stp_putfield, stp_iaload, stp_baload, stp_iastore, stp_bastore, stp_aaload, stp_aastore, stp_invokevirtual, stp_invokestatic, stp_ireturn, stp_lreturn, stp_return_, lg, lset, okl, spl, wd, c1, cnd, tg, swT, swL, f4_0, f4_1, f4_2, f4_3, f2_0, f2_1, List.mem_cons, List.not_mem_nil, List.length_cons, List.length_nil, List.cons_append, List.nil_append, Nat.reduceAdd, Nat.reduceMul, Nat.reduceLT, Nat.reduceEqDiff, Nat.reduceLeDiff, Int.reduceAdd, Int.reduceNeg, Int.reduceToNat, Int.cast_ofNat_Int, Int.reduceNatCast, Int.toNat_zero, Int.toNat_one, Int.reduceLE, Int.reduceLT, Int.reduceEq, Int.zero_add, Int.add_zero, or_false, false_or, or_true, true_or, and_true, true_and, and_false, false_and, reduceIte, not_true_eq_false, not_false_eq_true, forall_const, false_implies, true_implies, implies_true, ne_eq, reduceCtorEq, List.all_cons, List.all_nil, Bool.and_true, Bool.and_self, decide_eq_true_eq, decide_true, dX6_keepDraft_0, dX6_keepDraft_1, dX6_keepDraft_2, dX6_keepDraft_3, dX6_keepDraft_5, dX6_keepDraft_8, dX6_keepDraft_9, dX6_keepDraft_12, dX6_keepDraft_13, dX6_keepDraft_14, dX6_keepDraft_17, dX6_keepDraft_18, dX6_keepDraft_19, dX6_keepDraft_20, dX6_keepDraft_23, dX6_keepDraft_26, dX6_keepDraft_27, dX6_keepDraft_30, dX6_keepDraft_31, dX6_keepDraft_32, dX6_keepDraft_33, dX6_keepDraft_34, dX6_keepDraft_37, dX6_keepDraft_38, dX6_keepDraft_39, dX6_keepDraft_40, FX6_7, FX6_20, FX6_16, kd_66, kd_67, kd_68, kd_69, kd_70, kd_71, kd_72, kd_73, kd_74, kd_75, kd_76, kd_77, kd_78, ln_66, ln_67, ln_68, ln_69, ln_70, ln_71, ln_72, ln_73, ln_74, ln_75, ln_76, ln_77, ln_78]
    repeat' (first | exact trivial | omega | (with_reducible assumption) | exact absurd trivial (by with_reducible assumption) | contradiction | apply And.intro | intro _)
    have h := ih (n + 1) (by omega)
    rw [← wI_wB (v := rI (wB μ 67 n (rI μ 70)) 70 n) μ 67 n (rI μ 70) (by rw [rI_wB]; simp)] at h
    exact h
def T6_keepDraft : TT := fun a μ K => match a with
  | [.inr (.inr o)] => o = 66 ∧ (K [] (wI (wI (wB μ 67 60 (rI μ 70)) 69 0 0) 69 1 0))
  | _ => False
theorem rec_X6_keepDraft : ∀ a μ K, T6_keepDraft a μ K → ∃ k r, a = .inr (.inr k) :: r ∧ kd k = 6 := by
  intro a μ K h
  unfold T6_keepDraft at h
  split at h
  · exact ⟨_, _, rfl, by rw [h.1]; rfl⟩
  · exact h.elim
theorem gk_X6_keepDraft (l : Launch) : ∀ i n b T, G_X6_keepDraft i = some (n, b, T) → CallOK l 0 RX6 i n b T := by
  intro i n b T h
  have hm : (i, n, b, T) ∈ GL_X6_keepDraft := lk_mem h
  simp [GL_X6_keepDraft] at hm
set_option maxRecDepth 20000 in
set_option maxHeartbeats 4000000 in
theorem body_X6_keepDraft (o : Nat) (μ : Mem) (K : List AV → Mem → Prop) (V : Nat → List (Option AV) → List AV → Mem → Prop) (hV : Clos FX6 CX6 G_X6_keepDraft 0 K cX6_keepDraft V) (hT : o = 66 ∧ (K [] (wI (wI (wB μ 67 60 (rI μ 70)) 69 0 0) 69 1 0))) : V 0 [some (.inr (.inr o)), none] [] μ := by
  obtain ⟨rfl, hK⟩ := hT
  apply hV [2] 40
  simp only [InR, InL, inb, Int.toNat_natCast, wp1, wpc_z, wpc_s, stp_iconst, stp_bipush, stp_sipush, stp_lconst, stp_iload_n, stp_iload, stp_lload_n, stp_lload, stp_aload_n, stp_aload, stp_istore_n, stp_istore, stp_lstore_n, stp_lstore, stp_astore_n, stp_astore, stp_iinc, stp_iadd, stp_isub, stp_imul, stp_ineg, stp_idiv, stp_irem, stp_ladd, stp_lmul, stp_ldiv, stp_lrem, stp_ishl, stp_ishr, stp_iushr, stp_iand, stp_ior, stp_i2l, stp_i2b, stp_i2s, stp_lcmp, stp_dup, stp_dup2, stp_pop, stp_ifCond, stp_if_icmp, stp_goto, stp_tableswitch, stp_lookupswitch, stp_ldc, stp_ldc2_w, stp_getstatic, stp_getfield, stp_putfield, stp_iaload, stp_baload, stp_iastore, stp_bastore, stp_aaload, stp_aastore, stp_invokevirtual, stp_invokestatic, stp_ireturn, stp_lreturn, stp_return_, lg, lset, okl, spl, wd, c1, cnd, tg, swT, swL, f4_0, f4_1, f4_2, f4_3, f2_0, f2_1, List.mem_cons, List.not_mem_nil, List.length_cons, List.length_nil, List.cons_append, List.nil_append, Nat.reduceAdd, Nat.reduceMul, Nat.reduceLT, Nat.reduceEqDiff, Nat.reduceLeDiff, Int.reduceAdd, Int.reduceNeg, Int.reduceToNat, Int.cast_ofNat_Int, Int.reduceNatCast, Int.toNat_zero, Int.toNat_one, Int.reduceLE, Int.reduceLT, Int.reduceEq, Int.zero_add, Int.add_zero, or_false, false_or, or_true, true_or, and_true, true_and, and_false, false_and, reduceIte, not_true_eq_false, not_false_eq_true, forall_const, false_implies, true_implies, implies_true, ne_eq, reduceCtorEq, List.all_cons, List.all_nil, Bool.and_true, Bool.and_self, decide_eq_true_eq, decide_true, dX6_keepDraft_0, dX6_keepDraft_1, dX6_keepDraft_2, dX6_keepDraft_3, dX6_keepDraft_5, dX6_keepDraft_8, dX6_keepDraft_9, dX6_keepDraft_12, dX6_keepDraft_13, dX6_keepDraft_14, dX6_keepDraft_17, dX6_keepDraft_18, dX6_keepDraft_19, dX6_keepDraft_20, dX6_keepDraft_23, dX6_keepDraft_26, dX6_keepDraft_27, dX6_keepDraft_30, dX6_keepDraft_31, dX6_keepDraft_32, dX6_keepDraft_33, dX6_keepDraft_34, dX6_keepDraft_37, dX6_keepDraft_38, dX6_keepDraft_39, dX6_keepDraft_40, FX6_7, FX6_20, FX6_16, kd_66, kd_67, kd_68, kd_69, kd_70, kd_71, kd_72, kd_73, kd_74, kd_75, kd_76, kd_77, kd_78, ln_66, ln_67, ln_68, ln_69, ln_70, ln_71, ln_72, ln_73, ln_74, ln_75, ln_76, ln_77, ln_78]
  have h := lp_keepDraft V K hV μ hK 60 0 (by omega)
  rw [wB_0] at h
  exact h
theorem good_X6_keepDraft (l : Launch) : Good l 0 yX6_keepDraft cX6_keepDraft 2 none T6_keepDraft := by
  refine Good.mk 0 (by decide) rfl (by simp [retOK]) FOK6 COK6 (gk_X6_keepDraft l) ?_ ?_
  · intro a μ K h
    unfold T6_keepDraft at h
    split at h
    · simp [entl]
    · exact h.elim
  · intro a μ K V hV h
    unfold T6_keepDraft at h
    split at h
    · exact body_X6_keepDraft _ μ K V hV h
    · exact h.elim

def GL_X6_copies : List (Nat × Nat × Bool × TT) := []
def G_X6_copies : Nat → Option (Nat × Bool × TT) := fun i => GL_X6_copies.lookup i

set_option maxRecDepth 20000 in
set_option maxHeartbeats 4000000 in
theorem lp_copies (V : Nat → List (Option AV) → List AV → Mem → Prop) (K : List AV → Mem → Prop) (hV : Clos FX6 CX6 G_X6_copies 0 K cX6_copies V) (μ : Mem) (t s : Nat) (ht : t ≤ 120) (hs : s ≤ 120) (hd : t + 60 ≤ s ∨ s + 60 ≤ t) (hK : K [] (wC μ 67 s 67 t 60)) : ∀ m n : Nat, n + m = 60 → V 2 [some (.inr (.inr 66)), some (.inl (t : Int)), some (.inl (s : Int)), some (.inl (n : Int))] [] (wC μ 67 s 67 t n) := by
  intro m
  induction m with
  | zero =>
    intro n hn
    apply hV [2] 40
    simp only [InR, InL, inb, Int.toNat_natCast, wp1, wpc_z, wpc_s, stp_iconst, stp_bipush, stp_sipush, stp_lconst, stp_iload_n, stp_iload, stp_lload_n, stp_lload, stp_aload_n, stp_aload, stp_istore_n, stp_istore, stp_lstore_n, stp_lstore, stp_astore_n, stp_astore, stp_iinc, stp_iadd, stp_isub, stp_imul, stp_ineg, stp_idiv, stp_irem, stp_ladd, stp_lmul, stp_ldiv, stp_lrem, stp_ishl, stp_ishr, stp_iushr, stp_iand, stp_ior, stp_i2l, stp_i2b, stp_i2s, stp_lcmp, stp_dup, stp_dup2, stp_pop, stp_ifCond, stp_if_icmp, stp_goto, stp_tableswitch, stp_lookupswitch, stp_ldc, stp_ldc2_w, stp_getstatic, stp_getfield, stp_putfield, stp_iaload, stp_baload, stp_iastore, stp_bastore, stp_aaload, stp_aastore, stp_invokevirtual, stp_invokestatic, stp_ireturn, stp_lreturn, stp_return_, lg, lset, okl, spl, wd, c1, cnd, tg, swT, swL, f4_0, f4_1, f4_2, f4_3, f2_0, f2_1, List.mem_cons, List.not_mem_nil, List.length_cons, List.length_nil, List.cons_append, List.nil_append, Nat.reduceAdd, Nat.reduceMul, Nat.reduceLT, Nat.reduceEqDiff, Nat.reduceLeDiff, Int.reduceAdd, Int.reduceNeg, Int.reduceToNat, Int.cast_ofNat_Int, Int.reduceNatCast, Int.toNat_zero, Int.toNat_one, Int.reduceLE, Int.reduceLT, Int.reduceEq, Int.zero_add, Int.add_zero, or_false, false_or, or_true, true_or, and_true, true_and, and_false, false_and, reduceIte, not_true_eq_false, not_false_eq_true, forall_const, false_implies, true_implies, implies_true, ne_eq, reduceCtorEq, List.all_cons, List.all_nil, Bool.and_true, Bool.and_self, decide_eq_true_eq, decide_true, dX6_copies_0, dX6_copies_1, dX6_copies_2, dX6_copies_3, dX6_copies_5, dX6_copies_8, dX6_copies_9, dX6_copies_12, dX6_copies_13, dX6_copies_14, dX6_copies_15, dX6_copies_16, dX6_copies_19, dX6_copies_20, dX6_copies_21, dX6_copies_22, dX6_copies_23, dX6_copies_24, dX6_copies_27, dX6_copies_30, FX6_7, kd_66, kd_67, kd_68, kd_69, kd_70, kd_71, kd_72, kd_73, kd_74, kd_75, kd_76, kd_77, kd_78, ln_66, ln_67, ln_68, ln_69, ln_70, ln_71, ln_72, ln_73, ln_74, ln_75, ln_76, ln_77, ln_78]
    repeat' (first | exact trivial | omega | (with_reducible assumption) | exact absurd trivial (by with_reducible assumption) | contradiction | apply And.intro | intro _)
    rw [show n = 60 by omega]
    exact hK
  | succ m ih =>
    intro n hn
    apply hV [2] 40
    simp only [InR, InL, inb, Int.toNat_natCast, wp1, wpc_z, wpc_s, stp_iconst, stp_bipush, stp_sipush, stp_lconst, stp_iload_n, stp_iload, stp_lload_n, stp_lload, stp_aload_n, stp_aload, stp_istore_n, stp_istore, stp_lstore_n, stp_lstore, stp_astore_n, stp_astore, stp_iinc, stp_iadd, stp_isub, stp_imul, stp_ineg, stp_idiv, stp_irem, stp_ladd, stp_lmul, stp_ldiv, stp_lrem, stp_ishl, stp_ishr, stp_iushr, stp_iand, stp_ior, stp_i2l, stp_i2b, stp_i2s, stp_lcmp, stp_dup, stp_dup2, stp_pop, stp_ifCond, stp_if_icmp, stp_goto, stp_tableswitch, stp_lookupswitch, stp_ldc, stp_ldc2_w, stp_getstatic, stp_getfield, stp_putfield, stp_iaload, stp_baload, stp_iastore, stp_bastore, stp_aaload, stp_aastore, stp_invokevirtual, stp_invokestatic, stp_ireturn, stp_lreturn, stp_return_, lg, lset, okl, spl, wd, c1, cnd, tg, swT, swL, f4_0, f4_1, f4_2, f4_3, f2_0, f2_1, List.mem_cons, List.not_mem_nil, List.length_cons, List.length_nil, List.cons_append, List.nil_append, Nat.reduceAdd, Nat.reduceMul, Nat.reduceLT, Nat.reduceEqDiff, Nat.reduceLeDiff, Int.reduceAdd, Int.reduceNeg, Int.reduceToNat, Int.cast_ofNat_Int, Int.reduceNatCast, Int.toNat_zero, Int.toNat_one, Int.reduceLE, Int.reduceLT, Int.reduceEq, Int.zero_add, Int.add_zero, or_false, false_or, or_true, true_or, and_true, true_and, and_false, false_and, reduceIte, not_true_eq_false, not_false_eq_true, forall_const, false_implies, true_implies, implies_true, ne_eq, reduceCtorEq, List.all_cons, List.all_nil, Bool.and_true, Bool.and_self, decide_eq_true_eq, decide_true, dX6_copies_0, dX6_copies_1, dX6_copies_2, dX6_copies_3, dX6_copies_5, dX6_copies_8, dX6_copies_9, dX6_copies_12, dX6_copies_13, dX6_copies_14, dX6_copies_15, dX6_copies_16, dX6_copies_19, dX6_copies_20, dX6_copies_21, dX6_copies_22, dX6_copies_23, dX6_copies_24, dX6_copies_27, dX6_copies_30, FX6_7, kd_66, kd_67, kd_68, kd_69, kd_70, kd_71, kd_72, kd_73, kd_74, kd_75, kd_76, kd_77, kd_78, ln_66, ln_67, ln_68, ln_69, ln_70, ln_71, ln_72, ln_73, ln_74, ln_75, ln_76, ln_77, ln_78]
    have e1 : ((t : Int) + (n : Int)).toNat = t + n := by omega
    have e2 : ((s : Int) + (n : Int)).toNat = s + n := by omega
    rw [e1, e2]
    repeat' (first | exact trivial | omega | (with_reducible assumption) | exact absurd trivial (by with_reducible assumption) | contradiction | apply And.intro | intro _)
    have h := ih (n + 1) (by omega)
    rw [← wI_wC (v := rI (wC μ 67 s 67 t n) 67 (s + n)) μ 67 s 67 t n (by rw [rI_wC, if_neg (by omega)])] at h
    exact h
def T6_copies : TT := fun a μ K => match a with
  | [.inr (.inr o), .inl t, .inl s] => o = 66 ∧ ((0 ≤ t ∧ t ≤ 120 ∧ 0 ≤ s ∧ s ≤ 120) ∧ (t + 60 ≤ s ∨ s + 60 ≤ t) ∧ K [] (wC μ 67 s.toNat 67 t.toNat 60))
  | _ => False
theorem rec_X6_copies : ∀ a μ K, T6_copies a μ K → ∃ k r, a = .inr (.inr k) :: r ∧ kd k = 6 := by
  intro a μ K h
  unfold T6_copies at h
  split at h
  · exact ⟨_, _, rfl, by rw [h.1]; rfl⟩
  · exact h.elim
theorem gk_X6_copies (l : Launch) : ∀ i n b T, G_X6_copies i = some (n, b, T) → CallOK l 0 RX6 i n b T := by
  intro i n b T h
  have hm : (i, n, b, T) ∈ GL_X6_copies := lk_mem h
  simp [GL_X6_copies] at hm
set_option maxRecDepth 20000 in
set_option maxHeartbeats 4000000 in
theorem body_X6_copies (o : Nat) (t : Int) (s : Int) (μ : Mem) (K : List AV → Mem → Prop) (V : Nat → List (Option AV) → List AV → Mem → Prop) (hV : Clos FX6 CX6 G_X6_copies 0 K cX6_copies V) (hT : o = 66 ∧ ((0 ≤ t ∧ t ≤ 120 ∧ 0 ≤ s ∧ s ≤ 120) ∧ (t + 60 ≤ s ∨ s + 60 ≤ t) ∧ K [] (wC μ 67 s.toNat 67 t.toNat 60))) : V 0 [some (.inr (.inr o)), some (.inl t), some (.inl s), none] [] μ := by
  obtain ⟨rfl, ⟨h1, h2, h3, h4⟩, h5, hK⟩ := hT
  obtain ⟨t', rfl⟩ := Int.eq_ofNat_of_zero_le h1
  obtain ⟨s', rfl⟩ := Int.eq_ofNat_of_zero_le h3
  apply hV [2] 40
  simp only [InR, InL, inb, Int.toNat_natCast, wp1, wpc_z, wpc_s, stp_iconst, stp_bipush, stp_sipush, stp_lconst, stp_iload_n, stp_iload, stp_lload_n, stp_lload, stp_aload_n, stp_aload, stp_istore_n, stp_istore, stp_lstore_n, stp_lstore, stp_astore_n, stp_astore, stp_iinc, stp_iadd, stp_isub, stp_imul, stp_ineg, stp_idiv, stp_irem, stp_ladd, stp_lmul, stp_ldiv, stp_lrem, stp_ishl, stp_ishr, stp_iushr, stp_iand, stp_ior, stp_i2l, stp_i2b, stp_i2s, stp_lcmp, stp_dup, stp_dup2, stp_pop, stp_ifCond, stp_if_icmp, stp_goto, stp_tableswitch, stp_lookupswitch, stp_ldc, stp_ldc2_w, stp_getstatic, stp_getfield, stp_putfield, stp_iaload, stp_baload, stp_iastore, stp_bastore, stp_aaload, stp_aastore, stp_invokevirtual, stp_invokestatic, stp_ireturn, stp_lreturn, stp_return_, lg, lset, okl, spl, wd, c1, cnd, tg, swT, swL, f4_0, f4_1, f4_2, f4_3, f2_0, f2_1, List.mem_cons, List.not_mem_nil, List.length_cons, List.length_nil, List.cons_append, List.nil_append, Nat.reduceAdd, Nat.reduceMul, Nat.reduceLT, Nat.reduceEqDiff, Nat.reduceLeDiff, Int.reduceAdd, Int.reduceNeg, Int.reduceToNat, Int.cast_ofNat_Int, Int.reduceNatCast, Int.toNat_zero, Int.toNat_one, Int.reduceLE, Int.reduceLT, Int.reduceEq, Int.zero_add, Int.add_zero, or_false, false_or, or_true, true_or, and_true, true_and, and_false, false_and, reduceIte, not_true_eq_false, not_false_eq_true, forall_const, false_implies, true_implies, implies_true, ne_eq, reduceCtorEq, List.all_cons, List.all_nil, Bool.and_true, Bool.and_self, decide_eq_true_eq, decide_true, dX6_copies_0, dX6_copies_1, dX6_copies_2, dX6_copies_3, dX6_copies_5, dX6_copies_8, dX6_copies_9, dX6_copies_12, dX6_copies_13, dX6_copies_14, dX6_copies_15, dX6_copies_16, dX6_copies_19, dX6_copies_20, dX6_copies_21, dX6_copies_22, dX6_copies_23, dX6_copies_24, dX6_copies_27, dX6_copies_30, FX6_7, kd_66, kd_67, kd_68, kd_69, kd_70, kd_71, kd_72, kd_73, kd_74, kd_75, kd_76, kd_77, kd_78, ln_66, ln_67, ln_68, ln_69, ln_70, ln_71, ln_72, ln_73, ln_74, ln_75, ln_76, ln_77, ln_78]
  have h := lp_copies V K hV μ t' s' (by omega) (by omega) (by omega) hK 60 0 (by omega)
  rw [wC_0] at h
  exact h
theorem good_X6_copies (l : Launch) : Good l 0 yX6_copies cX6_copies 4 none T6_copies := by
  refine Good.mk 0 (by decide) rfl (by simp [retOK]) FOK6 COK6 (gk_X6_copies l) ?_ ?_
  · intro a μ K h
    unfold T6_copies at h
    split at h
    · simp [entl]
    · exact h.elim
  · intro a μ K V hV h
    unfold T6_copies at h
    split at h
    · exact body_X6_copies _ _ _ μ K V hV h
    · exact h.elim

/-- QUEUES, LINKS, GAINS summed -/
def sumF (f : Nat → Int) (w : Nat) : Nat → Int
  | 0 => 0
  | n + 1 => sumF f w n + f (7 * n + w)
def GL_X6_sumOf : List (Nat × Nat × Bool × TT) := [(145, 3, false, T6_of)]
def G_X6_sumOf : Nat → Option (Nat × Bool × TT) := fun i => GL_X6_sumOf.lookup i
theorem G_X6_sumOf_145 : G_X6_sumOf 145 = some (3, false, T6_of) := rfl

set_option maxRecDepth 20000 in
set_option maxHeartbeats 4000000 in
theorem lp_sumOf (V : Nat → List (Option AV) → List AV → Mem → Prop) (K : List AV → Mem → Prop) (hV : Clos FX6 CX6 G_X6_sumOf 1 K cX6_sumOf V) (μ : Mem) (w : Nat) (hw : w < 7) (hm : 0 ≤ rI μ 68 35 ∧ rI μ 68 35 ≤ 5) (hK : K [.inl (sumF (rI μ 68) w (rI μ 68 35).toNat)] μ) : ∀ m n : Nat, n + m = (rI μ 68 35).toNat → V 4 [some (.inr (.inr 66)), some (.inl (w : Int)), some (.inl (sumF (rI μ 68) w n)), some (.inl (n : Int))] [] μ := by
  intro m
  induction m with
  | zero =>
    intro n hn
    apply hV [4] 40
    simp only [InR, InL, inb, Int.toNat_natCast, wp1, wpc_z, wpc_s, stp_iconst, stp_bipush, stp_sipush, stp_lconst, stp_iload_n, stp_iload, stp_lload_n, stp_lload, stp_aload_n, stp_aload, stp_istore_n, stp_istore, stp_lstore_n, stp_lstore, stp_astore_n, stp_astore, stp_iinc, stp_iadd, stp_isub, stp_imul, stp_ineg, stp_idiv, stp_irem, stp_ladd, stp_lmul, stp_ldiv, stp_lrem, stp_ishl, stp_ishr, stp_iushr, stp_iand, stp_ior, stp_i2l, stp_i2b, stp_i2s, stp_lcmp, stp_dup, stp_dup2, stp_pop, stp_ifCond, stp_if_icmp, stp_goto, stp_tableswitch, stp_lookupswitch, stp_ldc, stp_ldc2_w, stp_getstatic, stp_getfield, stp_putfield, stp_iaload, stp_baload, stp_iastore, stp_bastore, stp_aaload, stp_aastore, stp_invokevirtual, stp_invokestatic, stp_ireturn, stp_lreturn, stp_return_, lg, lset, okl, spl, wd, c1, cnd, tg, swT, swL, f4_0, f4_1, f4_2, f4_3, f2_0, f2_1, List.mem_cons, List.not_mem_nil, List.length_cons, List.length_nil, List.cons_append, List.nil_append, Nat.reduceAdd, Nat.reduceMul, Nat.reduceLT, Nat.reduceEqDiff, Nat.reduceLeDiff, Int.reduceAdd, Int.reduceNeg, Int.reduceToNat, Int.cast_ofNat_Int, Int.reduceNatCast, Int.toNat_zero, Int.toNat_one, Int.reduceLE, Int.reduceLT, Int.reduceEq, Int.zero_add, Int.add_zero, or_false, false_or, or_true, true_or, and_true, true_and, and_false, false_and, reduceIte, not_true_eq_false, not_false_eq_true, forall_const, false_implies, true_implies, implies_true, ne_eq, reduceCtorEq, List.all_cons, List.all_nil, Bool.and_true, Bool.and_self, decide_eq_true_eq, decide_true, dX6_sumOf_0, dX6_sumOf_1, dX6_sumOf_2, dX6_sumOf_3, dX6_sumOf_4, dX6_sumOf_5, dX6_sumOf_6, dX6_sumOf_9, dX6_sumOf_11, dX6_sumOf_12, dX6_sumOf_15, dX6_sumOf_16, dX6_sumOf_17, dX6_sumOf_18, dX6_sumOf_19, dX6_sumOf_22, dX6_sumOf_23, dX6_sumOf_24, dX6_sumOf_27, dX6_sumOf_30, dX6_sumOf_31, FX6_13, G_X6_sumOf_145, kd_66, kd_67, kd_68, kd_69, kd_70, kd_71, kd_72, kd_73, kd_74, kd_75, kd_76, kd_77, kd_78, ln_66, ln_67, ln_68, ln_69, ln_70, ln_71, ln_72, ln_73, ln_74, ln_75, ln_76, ln_77, ln_78, T6_of]
    repeat' (first | exact trivial | omega | (with_reducible assumption) | exact absurd trivial (by with_reducible assumption) | contradiction | apply And.intro | intro _)
    rw [show n = (rI μ 68 35).toNat by omega]
    exact hK
  | succ m ih =>
    intro n hn
    apply hV [4] 40
    simp only [InR, InL, inb, Int.toNat_natCast, wp1, wpc_z, wpc_s, stp_iconst, stp_bipush, stp_sipush, stp_lconst, stp_iload_n, stp_iload, stp_lload_n, stp_lload, stp_aload_n, stp_aload, stp_istore_n, stp_istore, stp_lstore_n, stp_lstore, stp_astore_n, stp_astore, stp_iinc, stp_iadd, stp_isub, stp_imul, stp_ineg, stp_idiv, stp_irem, stp_ladd, stp_lmul, stp_ldiv, stp_lrem, stp_ishl, stp_ishr, stp_iushr, stp_iand, stp_ior, stp_i2l, stp_i2b, stp_i2s, stp_lcmp, stp_dup, stp_dup2, stp_pop, stp_ifCond, stp_if_icmp, stp_goto, stp_tableswitch, stp_lookupswitch, stp_ldc, stp_ldc2_w, stp_getstatic, stp_getfield, stp_putfield, stp_iaload, stp_baload, stp_iastore, stp_bastore, stp_aaload, stp_aastore, stp_invokevirtual, stp_invokestatic, stp_ireturn, stp_lreturn, stp_return_, lg, lset, okl, spl, wd, c1, cnd, tg, swT, swL, f4_0, f4_1, f4_2, f4_3, f2_0, f2_1, List.mem_cons, List.not_mem_nil, List.length_cons, List.length_nil, List.cons_append, List.nil_append, Nat.reduceAdd, Nat.reduceMul, Nat.reduceLT, Nat.reduceEqDiff, Nat.reduceLeDiff, Int.reduceAdd, Int.reduceNeg, Int.reduceToNat, Int.cast_ofNat_Int, Int.reduceNatCast, Int.toNat_zero, Int.toNat_one, Int.reduceLE, Int.reduceLT, Int.reduceEq, Int.zero_add, Int.add_zero, or_false, false_or, or_true, true_or, and_true, true_and, and_false, false_and, reduceIte, not_true_eq_false, not_false_eq_true, forall_const, false_implies, true_implies, implies_true, ne_eq, reduceCtorEq, List.all_cons, List.all_nil, Bool.and_true, Bool.and_self, decide_eq_true_eq, decide_true, dX6_sumOf_0, dX6_sumOf_1, dX6_sumOf_2, dX6_sumOf_3, dX6_sumOf_4, dX6_sumOf_5, dX6_sumOf_6, dX6_sumOf_9, dX6_sumOf_11, dX6_sumOf_12, dX6_sumOf_15, dX6_sumOf_16, dX6_sumOf_17, dX6_sumOf_18, dX6_sumOf_19, dX6_sumOf_22, dX6_sumOf_23, dX6_sumOf_24, dX6_sumOf_27, dX6_sumOf_30, dX6_sumOf_31, FX6_13, G_X6_sumOf_145, kd_66, kd_67, kd_68, kd_69, kd_70, kd_71, kd_72, kd_73, kd_74, kd_75, kd_76, kd_77, kd_78, ln_66, ln_67, ln_68, ln_69, ln_70, ln_71, ln_72, ln_73, ln_74, ln_75, ln_76, ln_77, ln_78, T6_of]
    have e1 : (7 * (n : Int) + (w : Int)).toNat = 7 * n + w := by omega
    rw [e1]
    repeat' (first | exact trivial | omega | (with_reducible assumption) | exact absurd trivial (by with_reducible assumption) | contradiction | apply And.intro | intro _)
    exact ih (n + 1) (by omega)
def T6_sumOf : TT := fun a μ K => match a with
  | [.inr (.inr o), .inl w] => o = 66 ∧ ((0 ≤ w ∧ w < 7) ∧ (0 ≤ rI μ 68 35 ∧ rI μ 68 35 ≤ 5) ∧ K [.inl (sumF (rI μ 68) w.toNat (rI μ 68 35).toNat)] μ)
  | _ => False
theorem rec_X6_sumOf : ∀ a μ K, T6_sumOf a μ K → ∃ k r, a = .inr (.inr k) :: r ∧ kd k = 6 := by
  intro a μ K h
  unfold T6_sumOf at h
  split at h
  · exact ⟨_, _, rfl, by rw [h.1]; rfl⟩
  · exact h.elim
theorem gk_X6_sumOf (l : Launch) : ∀ i n b T, G_X6_sumOf i = some (n, b, T) → CallOK l 1 RX6 i n b T := by
  intro i n b T h
  have hm : (i, n, b, T) ∈ GL_X6_sumOf := lk_mem h
  simp only [GL_X6_sumOf, List.mem_cons, List.not_mem_nil, or_false, Prod.mk.injEq] at hm
  rcases hm with ⟨rfl, rfl, rfl, rfl⟩
  · exact CallOK.V (d := 1) (own := RX6) (i := 145) (n := 2) (ci := 6) (good_X6_of l) (by decide) (by decide) rfl (by decide) rec_X6_of (mg 777 (by decide +kernel) (by decide +kernel)) (mg 779 (by decide +kernel) (by decide +kernel)) (mgs 35 (by decide +kernel) (by decide +kernel)) (mg 7 (by decide +kernel) (by decide +kernel)) (mg 780 (by decide +kernel) (by decide +kernel)) (by decide +kernel)
set_option maxRecDepth 20000 in
set_option maxHeartbeats 4000000 in
theorem body_X6_sumOf (o : Nat) (w : Int) (μ : Mem) (K : List AV → Mem → Prop) (V : Nat → List (Option AV) → List AV → Mem → Prop) (hV : Clos FX6 CX6 G_X6_sumOf 1 K cX6_sumOf V) (hT : o = 66 ∧ ((0 ≤ w ∧ w < 7) ∧ (0 ≤ rI μ 68 35 ∧ rI μ 68 35 ≤ 5) ∧ K [.inl (sumF (rI μ 68) w.toNat (rI μ 68 35).toNat)] μ)) : V 0 [some (.inr (.inr o)), some (.inl w), none, none] [] μ := by
  obtain ⟨rfl, ⟨h1, h2⟩, h3, hK⟩ := hT
  obtain ⟨w', rfl⟩ := Int.eq_ofNat_of_zero_le h1
  apply hV [4] 40
  simp only [InR, InL, inb, Int.toNat_natCast, wp1, wpc_z, wpc_s, stp_iconst, stp_bipush, stp_sipush, stp_lconst, stp_iload_n, stp_iload, stp_lload_n, stp_lload, stp_aload_n, stp_aload, stp_istore_n, stp_istore, stp_lstore_n, stp_lstore, stp_astore_n, stp_astore, stp_iinc, stp_iadd, stp_isub, stp_imul, stp_ineg, stp_idiv, stp_irem, stp_ladd, stp_lmul, stp_ldiv, stp_lrem, stp_ishl, stp_ishr, stp_iushr, stp_iand, stp_ior, stp_i2l, stp_i2b, stp_i2s, stp_lcmp, stp_dup, stp_dup2, stp_pop, stp_ifCond, stp_if_icmp, stp_goto, stp_tableswitch, stp_lookupswitch, stp_ldc, stp_ldc2_w, stp_getstatic, stp_getfield, stp_putfield, stp_iaload, stp_baload, stp_iastore, stp_bastore, stp_aaload, stp_aastore, stp_invokevirtual, stp_invokestatic, stp_ireturn, stp_lreturn, stp_return_, lg, lset, okl, spl, wd, c1, cnd, tg, swT, swL, f4_0, f4_1, f4_2, f4_3, f2_0, f2_1, List.mem_cons, List.not_mem_nil, List.length_cons, List.length_nil, List.cons_append, List.nil_append, Nat.reduceAdd, Nat.reduceMul, Nat.reduceLT, Nat.reduceEqDiff, Nat.reduceLeDiff, Int.reduceAdd, Int.reduceNeg, Int.reduceToNat, Int.cast_ofNat_Int, Int.reduceNatCast, Int.toNat_zero, Int.toNat_one, Int.reduceLE, Int.reduceLT, Int.reduceEq, Int.zero_add, Int.add_zero, or_false, false_or, or_true, true_or, and_true, true_and, and_false, false_and, reduceIte, not_true_eq_false, not_false_eq_true, forall_const, false_implies, true_implies, implies_true, ne_eq, reduceCtorEq, List.all_cons, List.all_nil, Bool.and_true, Bool.and_self, decide_eq_true_eq, decide_true, dX6_sumOf_0, dX6_sumOf_1, dX6_sumOf_2, dX6_sumOf_3, dX6_sumOf_4, dX6_sumOf_5, dX6_sumOf_6, dX6_sumOf_9, dX6_sumOf_11, dX6_sumOf_12, dX6_sumOf_15, dX6_sumOf_16, dX6_sumOf_17, dX6_sumOf_18, dX6_sumOf_19, dX6_sumOf_22, dX6_sumOf_23, dX6_sumOf_24, dX6_sumOf_27, dX6_sumOf_30, dX6_sumOf_31, FX6_13, G_X6_sumOf_145, kd_66, kd_67, kd_68, kd_69, kd_70, kd_71, kd_72, kd_73, kd_74, kd_75, kd_76, kd_77, kd_78, ln_66, ln_67, ln_68, ln_69, ln_70, ln_71, ln_72, ln_73, ln_74, ln_75, ln_76, ln_77, ln_78]
  exact lp_sumOf V K hV μ w' (by omega) h3 hK (rI μ 68 35).toNat 0 (by omega)
theorem good_X6_sumOf (l : Launch) : Good l 1 yX6_sumOf cX6_sumOf 4 (some .int) T6_sumOf := by
  refine Good.mk 1 (by decide) rfl (by simp [retOK]) FOK6 COK6 (gk_X6_sumOf l) ?_ ?_
  · intro a μ K h
    unfold T6_sumOf at h
    split at h
    · simp [entl]
    · exact h.elim
  · intro a μ K V hV h
    unfold T6_sumOf at h
    split at h
    · exact body_X6_sumOf _ _ μ K V hV h
    · exact h.elim

def GL_X6_isOutdone : List (Nat × Nat × Bool × TT) := [(145, 3, false, T6_of)]
def G_X6_isOutdone : Nat → Option (Nat × Bool × TT) := fun i => GL_X6_isOutdone.lookup i
theorem G_X6_isOutdone_145 : G_X6_isOutdone 145 = some (3, false, T6_of) := rfl

set_option maxRecDepth 20000 in
set_option maxHeartbeats 4000000 in
theorem lp_isOutdone (V : Nat → List (Option AV) → List AV → Mem → Prop) (K : List AV → Mem → Prop) (hV : Clos FX6 CX6 G_X6_isOutdone 2 K cX6_isOutdone V) (μ : Mem) (i : Nat) (hi : i < 5) (hm : 0 ≤ rI μ 68 35 ∧ rI μ 68 35 ≤ 5) (hq : ∀ k : Nat, k < 5 → ((k : Int) < rI μ 68 35 ∨ k = i) → InR (rI μ 68 (7 * k + 1))) (hK : K [.inl (if outB (rI μ 68) (rI μ 68 (7 * i + 1)) (rI μ 68 35).toNat = true then 1 else 0)] μ) : ∀ m n : Nat, n + m = (rI μ 68 35).toNat → V 4 [some (.inr (.inr 66)), some (.inl (i : Int)), some (.inl (if outB (rI μ 68) (rI μ 68 (7 * i + 1)) n = true then 1 else 0)), some (.inl (n : Int))] [] μ := by
  intro m
  induction m with
  | zero =>
    intro n hn
    apply hV [4] 40
    simp only [InR, InL, inb, Int.toNat_natCast, wp1, wpc_z, wpc_s, stp_iconst, stp_bipush, stp_sipush, stp_lconst, stp_iload_n, stp_iload, stp_lload_n, stp_lload, stp_aload_n, stp_aload, stp_istore_n, stp_istore, stp_lstore_n, stp_lstore, stp_astore_n, stp_astore, stp_iinc, stp_iadd, stp_isub, stp_imul, stp_ineg, stp_idiv, stp_irem, stp_ladd, stp_lmul, stp_ldiv, stp_lrem, stp_ishl, stp_ishr, stp_iushr, stp_iand, stp_ior, stp_i2l, stp_i2b, stp_i2s, stp_lcmp, stp_dup, stp_dup2, stp_pop, stp_ifCond, stp_if_icmp, stp_goto, stp_tableswitch, stp_lookupswitch, stp_ldc, stp_ldc2_w, stp_getstatic, stp_getfield, stp_putfield, stp_iaload, stp_baload, stp_iastore, stp_bastore, stp_aaload, stp_aastore, stp_invokevirtual, stp_invokestatic, stp_ireturn, stp_lreturn, stp_return_, lg, lset, okl, spl, wd, c1, cnd, tg, swT, swL, f4_0, f4_1, f4_2, f4_3, f2_0, f2_1, List.mem_cons, List.not_mem_nil, List.length_cons, List.length_nil, List.cons_append, List.nil_append, Nat.reduceAdd, Nat.reduceMul, Nat.reduceLT, Nat.reduceEqDiff, Nat.reduceLeDiff, Int.reduceAdd, Int.reduceNeg, Int.reduceToNat, Int.cast_ofNat_Int, Int.reduceNatCast, Int.toNat_zero, Int.toNat_one, Int.reduceLE, Int.reduceLT, Int.reduceEq, Int.zero_add, Int.add_zero, or_false, false_or, or_true, true_or, and_true, true_and, and_false, false_and, reduceIte, not_true_eq_false, not_false_eq_true, forall_const, false_implies, true_implies, implies_true, ne_eq, reduceCtorEq, List.all_cons, List.all_nil, Bool.and_true, Bool.and_self, decide_eq_true_eq, decide_true, dX6_isOutdone_0, dX6_isOutdone_1, dX6_isOutdone_2, dX6_isOutdone_3, dX6_isOutdone_4, dX6_isOutdone_5, dX6_isOutdone_6, dX6_isOutdone_9, dX6_isOutdone_11, dX6_isOutdone_12, dX6_isOutdone_15, dX6_isOutdone_16, dX6_isOutdone_19, dX6_isOutdone_20, dX6_isOutdone_21, dX6_isOutdone_22, dX6_isOutdone_25, dX6_isOutdone_26, dX6_isOutdone_27, dX6_isOutdone_28, dX6_isOutdone_31, dX6_isOutdone_34, dX6_isOutdone_35, dX6_isOutdone_38, dX6_isOutdone_39, dX6_isOutdone_40, dX6_isOutdone_43, dX6_isOutdone_46, dX6_isOutdone_47, FX6_13, G_X6_isOutdone_145, kd_66, kd_67, kd_68, kd_69, kd_70, kd_71, kd_72, kd_73, kd_74, kd_75, kd_76, kd_77, kd_78, ln_66, ln_67, ln_68, ln_69, ln_70, ln_71, ln_72, ln_73, ln_74, ln_75, ln_76, ln_77, ln_78, T6_of]
    repeat' (first | exact trivial | omega | (with_reducible assumption) | exact absurd trivial (by with_reducible assumption) | contradiction | apply And.intro | intro _)
    all_goals (rw [show n = (rI μ 68 35).toNat by omega]; exact hK)
  | succ m ih =>
    intro n hn
    apply hV [4] 40
    simp only [InR, InL, inb, Int.toNat_natCast, wp1, wpc_z, wpc_s, stp_iconst, stp_bipush, stp_sipush, stp_lconst, stp_iload_n, stp_iload, stp_lload_n, stp_lload, stp_aload_n, stp_aload, stp_istore_n, stp_istore, stp_lstore_n, stp_lstore, stp_astore_n, stp_astore, stp_iinc, stp_iadd, stp_isub, stp_imul, stp_ineg, stp_idiv, stp_irem, stp_ladd, stp_lmul, stp_ldiv, stp_lrem, stp_ishl, stp_ishr, stp_iushr, stp_iand, stp_ior, stp_i2l, stp_i2b, stp_i2s, stp_lcmp, stp_dup, stp_dup2, stp_pop, stp_ifCond, stp_if_icmp, stp_goto, stp_tableswitch, stp_lookupswitch, stp_ldc, stp_ldc2_w, stp_getstatic, stp_getfield, stp_putfield, stp_iaload, stp_baload, stp_iastore, stp_bastore, stp_aaload, stp_aastore, stp_invokevirtual, stp_invokestatic, stp_ireturn, stp_lreturn, stp_return_, lg, lset, okl, spl, wd, c1, cnd, tg, swT, swL, f4_0, f4_1, f4_2, f4_3, f2_0, f2_1, List.mem_cons, List.not_mem_nil, List.length_cons, List.length_nil, List.cons_append, List.nil_append, Nat.reduceAdd, Nat.reduceMul, Nat.reduceLT, Nat.reduceEqDiff, Nat.reduceLeDiff, Int.reduceAdd, Int.reduceNeg, Int.reduceToNat, Int.cast_ofNat_Int, Int.reduceNatCast, Int.toNat_zero, Int.toNat_one, Int.reduceLE, Int.reduceLT, Int.reduceEq, Int.zero_add, Int.add_zero, or_false, false_or, or_true, true_or, and_true, true_and, and_false, false_and, reduceIte, not_true_eq_false, not_false_eq_true, forall_const, false_implies, true_implies, implies_true, ne_eq, reduceCtorEq, List.all_cons, List.all_nil, Bool.and_true, Bool.and_self, decide_eq_true_eq, decide_true, dX6_isOutdone_0, dX6_isOutdone_1, dX6_isOutdone_2, dX6_isOutdone_3, dX6_isOutdone_4, dX6_isOutdone_5, dX6_isOutdone_6, dX6_isOutdone_9, dX6_isOutdone_11, dX6_isOutdone_12, dX6_isOutdone_15, dX6_isOutdone_16, dX6_isOutdone_19, dX6_isOutdone_20, dX6_isOutdone_21, dX6_isOutdone_22, dX6_isOutdone_25, dX6_isOutdone_26, dX6_isOutdone_27, dX6_isOutdone_28, dX6_isOutdone_31, dX6_isOutdone_34, dX6_isOutdone_35, dX6_isOutdone_38, dX6_isOutdone_39, dX6_isOutdone_40, dX6_isOutdone_43, dX6_isOutdone_46, dX6_isOutdone_47, FX6_13, G_X6_isOutdone_145, kd_66, kd_67, kd_68, kd_69, kd_70, kd_71, kd_72, kd_73, kd_74, kd_75, kd_76, kd_77, kd_78, ln_66, ln_67, ln_68, ln_69, ln_70, ln_71, ln_72, ln_73, ln_74, ln_75, ln_76, ln_77, ln_78, T6_of]
    have e1 : (7 * (n : Int) + 1).toNat = 7 * n + 1 := by omega
    have e2 : (7 * (i : Int) + 1).toNat = 7 * i + 1 := by omega
    rw [e1, e2]
    have q1 := hq n (by omega) (by omega)
    have q2 := hq i hi (by omega)
    simp only [InR] at q1 q2
    have h := ih (n + 1) (by omega)
    rw [show ((n + 1 : Nat) : Int) = (n : Int) + 1 by omega] at h
    simp only [outB] at h
    by_cases e : outB (rI μ 68) (rI μ 68 (7 * i + 1)) n = true
    · simp only [e, Bool.true_or, if_true] at h ⊢
      repeat' (first | exact trivial | omega | (with_reducible assumption) | exact absurd trivial (by with_reducible assumption) | contradiction | apply And.intro | intro _)
    · simp only [e, Bool.false_or, Bool.false_eq_true, if_false, decide_eq_true_eq] at h ⊢
      by_cases e2 : rI μ 68 (7 * i + 1) < rI μ 68 (7 * n + 1)
      · rw [if_pos e2] at h
        repeat' (first | exact trivial | omega | (with_reducible assumption) | exact absurd trivial (by with_reducible assumption) | contradiction | apply And.intro | intro _)
      · rw [if_neg e2] at h
        repeat' (first | exact trivial | omega | (with_reducible assumption) | exact absurd trivial (by with_reducible assumption) | contradiction | apply And.intro | intro _)
def T6_isOutdone : TT := fun a μ K => match a with
  | [.inr (.inr o), .inl i] => o = 66 ∧ ((0 ≤ i ∧ i < 5) ∧ (0 ≤ rI μ 68 35 ∧ rI μ 68 35 ≤ 5) ∧ (∀ k : Nat, k < 5 → ((k : Int) < rI μ 68 35 ∨ k = i.toNat) → InR (rI μ 68 (7 * k + 1))) ∧ (outB (rI μ 68) (rI μ 68 (7 * i.toNat + 1)) (rI μ 68 35).toNat = true → K [.inl 1] μ) ∧ (¬ outB (rI μ 68) (rI μ 68 (7 * i.toNat + 1)) (rI μ 68 35).toNat = true → K [.inl 0] μ))
  | _ => False
theorem rec_X6_isOutdone : ∀ a μ K, T6_isOutdone a μ K → ∃ k r, a = .inr (.inr k) :: r ∧ kd k = 6 := by
  intro a μ K h
  unfold T6_isOutdone at h
  split at h
  · exact ⟨_, _, rfl, by rw [h.1]; rfl⟩
  · exact h.elim
theorem gk_X6_isOutdone (l : Launch) : ∀ i n b T, G_X6_isOutdone i = some (n, b, T) → CallOK l 1 RX6 i n b T := by
  intro i n b T h
  have hm : (i, n, b, T) ∈ GL_X6_isOutdone := lk_mem h
  simp only [GL_X6_isOutdone, List.mem_cons, List.not_mem_nil, or_false, Prod.mk.injEq] at hm
  rcases hm with ⟨rfl, rfl, rfl, rfl⟩
  · exact CallOK.V (d := 1) (own := RX6) (i := 145) (n := 2) (ci := 6) (good_X6_of l) (by decide) (by decide) rfl (by decide) rec_X6_of (mg 777 (by decide +kernel) (by decide +kernel)) (mg 779 (by decide +kernel) (by decide +kernel)) (mgs 35 (by decide +kernel) (by decide +kernel)) (mg 7 (by decide +kernel) (by decide +kernel)) (mg 780 (by decide +kernel) (by decide +kernel)) (by decide +kernel)
set_option maxRecDepth 20000 in
set_option maxHeartbeats 4000000 in
theorem body_X6_isOutdone (o : Nat) (i : Int) (μ : Mem) (K : List AV → Mem → Prop) (V : Nat → List (Option AV) → List AV → Mem → Prop) (hV : Clos FX6 CX6 G_X6_isOutdone 2 K cX6_isOutdone V) (hT : o = 66 ∧ ((0 ≤ i ∧ i < 5) ∧ (0 ≤ rI μ 68 35 ∧ rI μ 68 35 ≤ 5) ∧ (∀ k : Nat, k < 5 → ((k : Int) < rI μ 68 35 ∨ k = i.toNat) → InR (rI μ 68 (7 * k + 1))) ∧ (outB (rI μ 68) (rI μ 68 (7 * i.toNat + 1)) (rI μ 68 35).toNat = true → K [.inl 1] μ) ∧ (¬ outB (rI μ 68) (rI μ 68 (7 * i.toNat + 1)) (rI μ 68 35).toNat = true → K [.inl 0] μ))) : V 0 [some (.inr (.inr o)), some (.inl i), none, none] [] μ := by
  obtain ⟨rfl, ⟨h1, h2⟩, h3, h4, h5, h6⟩ := hT
  obtain ⟨i', rfl⟩ := Int.eq_ofNat_of_zero_le h1
  rw [Int.toNat_natCast] at h4 h5 h6
  apply hV [4] 40
  simp only [InR, InL, inb, Int.toNat_natCast, wp1, wpc_z, wpc_s, stp_iconst, stp_bipush, stp_sipush, stp_lconst, stp_iload_n, stp_iload, stp_lload_n, stp_lload, stp_aload_n, stp_aload, stp_istore_n, stp_istore, stp_lstore_n, stp_lstore, stp_astore_n, stp_astore, stp_iinc, stp_iadd, stp_isub, stp_imul, stp_ineg, stp_idiv, stp_irem, stp_ladd, stp_lmul, stp_ldiv, stp_lrem, stp_ishl, stp_ishr, stp_iushr, stp_iand, stp_ior, stp_i2l, stp_i2b, stp_i2s, stp_lcmp, stp_dup, stp_dup2, stp_pop, stp_ifCond, stp_if_icmp, stp_goto, stp_tableswitch, stp_lookupswitch, stp_ldc, stp_ldc2_w, stp_getstatic, stp_getfield, stp_putfield, stp_iaload, stp_baload, stp_iastore, stp_bastore, stp_aaload, stp_aastore, stp_invokevirtual, stp_invokestatic, stp_ireturn, stp_lreturn, stp_return_, lg, lset, okl, spl, wd, c1, cnd, tg, swT, swL, f4_0, f4_1, f4_2, f4_3, f2_0, f2_1, List.mem_cons, List.not_mem_nil, List.length_cons, List.length_nil, List.cons_append, List.nil_append, Nat.reduceAdd, Nat.reduceMul, Nat.reduceLT, Nat.reduceEqDiff, Nat.reduceLeDiff, Int.reduceAdd, Int.reduceNeg, Int.reduceToNat, Int.cast_ofNat_Int, Int.reduceNatCast, Int.toNat_zero, Int.toNat_one, Int.reduceLE, Int.reduceLT, Int.reduceEq, Int.zero_add, Int.add_zero, or_false, false_or, or_true, true_or, and_true, true_and, and_false, false_and, reduceIte, not_true_eq_false, not_false_eq_true, forall_const, false_implies, true_implies, implies_true, ne_eq, reduceCtorEq, List.all_cons, List.all_nil, Bool.and_true, Bool.and_self, decide_eq_true_eq, decide_true, dX6_isOutdone_0, dX6_isOutdone_1, dX6_isOutdone_2, dX6_isOutdone_3, dX6_isOutdone_4, dX6_isOutdone_5, dX6_isOutdone_6, dX6_isOutdone_9, dX6_isOutdone_11, dX6_isOutdone_12, dX6_isOutdone_15, dX6_isOutdone_16, dX6_isOutdone_19, dX6_isOutdone_20, dX6_isOutdone_21, dX6_isOutdone_22, dX6_isOutdone_25, dX6_isOutdone_26, dX6_isOutdone_27, dX6_isOutdone_28, dX6_isOutdone_31, dX6_isOutdone_34, dX6_isOutdone_35, dX6_isOutdone_38, dX6_isOutdone_39, dX6_isOutdone_40, dX6_isOutdone_43, dX6_isOutdone_46, dX6_isOutdone_47, FX6_13, G_X6_isOutdone_145, kd_66, kd_67, kd_68, kd_69, kd_70, kd_71, kd_72, kd_73, kd_74, kd_75, kd_76, kd_77, kd_78, ln_66, ln_67, ln_68, ln_69, ln_70, ln_71, ln_72, ln_73, ln_74, ln_75, ln_76, ln_77, ln_78]
  refine lp_isOutdone V K hV μ i' (by omega) h3 h4 ?_ (rI μ 68 35).toNat 0 (by omega)
  split
  · rename_i h; exact h5 h
  · rename_i h; exact h6 h
theorem good_X6_isOutdone (l : Launch) : Good l 1 yX6_isOutdone cX6_isOutdone 4 (some .boolean) T6_isOutdone := by
  refine Good.mk 2 (by decide) rfl (by simp [retOK]) FOK6 COK6 (gk_X6_isOutdone l) ?_ ?_
  · intro a μ K h
    unfold T6_isOutdone at h
    split at h
    · simp [entl]
    · exact h.elim
  · intro a μ K V hV h
    unfold T6_isOutdone at h
    split at h
    · exact body_X6_isOutdone _ _ μ K V hV h
    · exact h.elim
end
section
/-! the reference: what is sent, what comes -/
theorem tn7_0 (n : Nat) : (7 * (n : Int) + 0).toNat = 7 * n := by omega
theorem tn7_00 (n : Nat) : (7 * (n : Int)).toNat = 7 * n := by omega
theorem tn7_1 (n : Nat) : (7 * (n : Int) + 1).toNat = 7 * n + 1 := by omega
theorem tn7_2 (n : Nat) : (7 * (n : Int) + 2).toNat = 7 * n + 2 := by omega
theorem tn7_3 (n : Nat) : (7 * (n : Int) + 3).toNat = 7 * n + 3 := by omega
theorem tn7_4 (n : Nat) : (7 * (n : Int) + 4).toNat = 7 * n + 4 := by omega
theorem tn7_5 (n : Nat) : (7 * (n : Int) + 5).toNat = 7 * n + 5 := by omega
theorem tn7_6 (n : Nat) : (7 * (n : Int) + 6).toNat = 7 * n + 6 := by omega
def T6_sendsNow : TT := fun a μ K => match a with
  | [.inr (.inr o), .inl i] => o = 66 ∧ (0 ≤ i ∧ i < rI μ 68 35 ∧ rI μ 68 35 ≤ 5 ∧ (∀ k : Nat, (k : Int) < rI μ 68 35 → SOK (rI μ 68) k) ∧ K [.inl (due (rI μ 68) i.toNat)] μ)
  | _ => False
theorem rec_X6_sendsNow : ∀ a μ K, T6_sendsNow a μ K → ∃ k r, a = .inr (.inr k) :: r ∧ kd k = 6 := by
  intro a μ K h
  unfold T6_sendsNow at h
  split at h
  · exact ⟨_, _, rfl, by rw [h.1]; rfl⟩
  · exact h.elim
def GL_X6_sendsNow : List (Nat × Nat × Bool × TT) := [(145, 3, false, T6_of), (142, 2, true, T6_lesser), (148, 2, false, T6_isOutdone)]
def G_X6_sendsNow : Nat → Option (Nat × Bool × TT) := fun i => GL_X6_sendsNow.lookup i
theorem G_X6_sendsNow_145 : G_X6_sendsNow 145 = some (3, false, T6_of) := rfl
theorem G_X6_sendsNow_142 : G_X6_sendsNow 142 = some (2, true, T6_lesser) := rfl
theorem G_X6_sendsNow_148 : G_X6_sendsNow 148 = some (2, false, T6_isOutdone) := rfl
theorem gk_X6_sendsNow (l : Launch) : ∀ i n b T, G_X6_sendsNow i = some (n, b, T) → CallOK l 2 RX6 i n b T := by
  intro i n b T h
  have hm : (i, n, b, T) ∈ GL_X6_sendsNow := lk_mem h
  simp only [GL_X6_sendsNow, List.mem_cons, List.not_mem_nil, or_false, Prod.mk.injEq] at hm
  rcases hm with ⟨rfl, rfl, rfl, rfl⟩ | ⟨rfl, rfl, rfl, rfl⟩ | ⟨rfl, rfl, rfl, rfl⟩
  · exact CallOK.V (d := 2) (own := RX6) (i := 145) (n := 2) (ci := 6) (good_X6_of l) (by decide) (by decide) rfl (by decide) rec_X6_of (mg 777 (by decide +kernel) (by decide +kernel)) (mg 779 (by decide +kernel) (by decide +kernel)) (mgs 35 (by decide +kernel) (by decide +kernel)) (mg 7 (by decide +kernel) (by decide +kernel)) (mg 780 (by decide +kernel) (by decide +kernel)) (by decide +kernel)
  · exact CallOK.S (d := 2) (own := RX6) (i := 142) (n := 2) (good_X6_lesser l) (by decide) (by decide) (mg 785 (by decide +kernel) (by decide +kernel)) (mg 786 (by decide +kernel) (by decide +kernel)) (mg 7 (by decide +kernel) (by decide +kernel)) (mg 787 (by decide +kernel) (by decide +kernel)) (by decide +kernel)
  · exact CallOK.V (d := 2) (own := RX6) (i := 148) (n := 1) (ci := 6) (good_X6_isOutdone l) (by decide) (by decide) rfl (by decide) rec_X6_isOutdone (mg 788 (by decide +kernel) (by decide +kernel)) (mg 790 (by decide +kernel) (by decide +kernel)) (mgs 37 (by decide +kernel) (by decide +kernel)) (mg 7 (by decide +kernel) (by decide +kernel)) (mg 791 (by decide +kernel) (by decide +kernel)) (by decide +kernel)
set_option maxRecDepth 20000 in
set_option maxHeartbeats 4000000 in
theorem body_X6_sendsNow (o : Nat) (i : Int) (μ : Mem) (K : List AV → Mem → Prop) (V : Nat → List (Option AV) → List AV → Mem → Prop) (hV : Clos FX6 CX6 G_X6_sendsNow 1 K cX6_sendsNow V) (hT : o = 66 ∧ (0 ≤ i ∧ i < rI μ 68 35 ∧ rI μ 68 35 ≤ 5 ∧ (∀ k : Nat, (k : Int) < rI μ 68 35 → SOK (rI μ 68) k) ∧ K [.inl (due (rI μ 68) i.toNat)] μ)) : V 0 [some (.inr (.inr o)), some (.inl i), none, none] [] μ := by
  obtain ⟨rfl, h1, h2, h3, h4, hK⟩ := hT
  obtain ⟨n, rfl⟩ := Int.eq_ofNat_of_zero_le h1
  rw [Int.toNat_natCast] at hK
  have hq : ∀ k : Nat, k < 5 → ((k : Int) < rI μ 68 35 ∨ k = n) → InR (rI μ 68 (7 * k + 1)) := fun k _ hk => by
    have := (h4 k (by omega)).2.1
    exact ⟨by omega, by omega⟩
  simp only [InR] at hq
  have hs := h4 n (by omega)
  unfold SOK at hs
  obtain ⟨s1, s2, s3, s4, s5, s6, s7⟩ := hs
  apply hV [] 80
  simp only [InR, InL, inb, Int.toNat_natCast, wp1, wpc_z, wpc_s, stp_iconst, stp_bipush, stp_sipush, stp_lconst, stp_iload_n, stp_iload, stp_lload_n, stp_lload, stp_aload_n, stp_aload, stp_istore_n, stp_istore, stp_lstore_n, stp_lstore, stp_astore_n, stp_astore, stp_iinc, stp_iadd, stp_isub, stp_imul, stp_ineg, stp_idiv, stp_irem, stp_ladd, stp_lmul, stp_ldiv, stp_lrem, stp_ishl, stp_ishr, stp_iushr, stp_iand, stp_ior, stp_i2l, stp_i2b, stp_i2s, stp_lcmp, stp_dup, stp_dup2, stp_pop, stp_ifCond, stp_if_icmp, stp_goto, stp_tableswitch, stp_lookupswitch, stp_ldc, stp_ldc2_w, stp_getstatic, stp_getfield, stp_putfield, stp_iaload, stp_baload, stp_iastore, stp_bastore, stp_aaload, stp_aastore, stp_invokevirtual, stp_invokestatic, stp_ireturn, stp_lreturn, stp_return_, lg, lset, okl, spl, wd, c1, cnd, tg, swT, swL, f4_0, f4_1, f4_2, f4_3, f2_0, f2_1, List.mem_cons, List.not_mem_nil, List.length_cons, List.length_nil, List.cons_append, List.nil_append, Nat.reduceAdd, Nat.reduceMul, Nat.reduceLT, Nat.reduceEqDiff, Nat.reduceLeDiff, Int.reduceAdd, Int.reduceNeg, Int.reduceToNat, Int.cast_ofNat_Int, Int.reduceNatCast, Int.toNat_zero, Int.toNat_one, Int.reduceLE, Int.reduceLT, Int.reduceEq, Int.zero_add, Int.add_zero, or_false, false_or, or_true, true_or, and_true, true_and, and_false, false_and, reduceIte, not_true_eq_false, not_false_eq_true, forall_const, false_implies, true_implies, implies_true, ne_eq, reduceCtorEq, List.all_cons, List.all_nil, Bool.and_true, Bool.and_self, decide_eq_true_eq, decide_true, dX6_sendsNow_0, dX6_sendsNow_1, dX6_sendsNow_2, dX6_sendsNow_3, dX6_sendsNow_6, dX6_sendsNow_7, dX6_sendsNow_8, dX6_sendsNow_9, dX6_sendsNow_10, dX6_sendsNow_13, dX6_sendsNow_14, dX6_sendsNow_15, dX6_sendsNow_18, dX6_sendsNow_19, dX6_sendsNow_20, dX6_sendsNow_21, dX6_sendsNow_22, dX6_sendsNow_25, dX6_sendsNow_26, dX6_sendsNow_29, dX6_sendsNow_30, dX6_sendsNow_31, dX6_sendsNow_32, dX6_sendsNow_35, dX6_sendsNow_38, dX6_sendsNow_39, dX6_sendsNow_40, dX6_sendsNow_41, dX6_sendsNow_44, dX6_sendsNow_45, dX6_sendsNow_46, dX6_sendsNow_48, dX6_sendsNow_51, dX6_sendsNow_52, dX6_sendsNow_55, dX6_sendsNow_56, dX6_sendsNow_57, dX6_sendsNow_58, dX6_sendsNow_59, dX6_sendsNow_62, dX6_sendsNow_63, dX6_sendsNow_64, dX6_sendsNow_67, dX6_sendsNow_68, dX6_sendsNow_71, dX6_sendsNow_72, dX6_sendsNow_73, dX6_sendsNow_76, dX6_sendsNow_79, dX6_sendsNow_80, dX6_sendsNow_81, dX6_sendsNow_82, dX6_sendsNow_85, dX6_sendsNow_86, G_X6_sendsNow_145, G_X6_sendsNow_142, G_X6_sendsNow_148, kd_66, kd_67, kd_68, kd_69, kd_70, kd_71, kd_72, kd_73, kd_74, kd_75, kd_76, kd_77, kd_78, ln_66, ln_67, ln_68, ln_69, ln_70, ln_71, ln_72, ln_73, ln_74, ln_75, ln_76, ln_77, ln_78, T6_of, T6_lesser, T6_isOutdone, tn7_0, tn7_00, tn7_1, tn7_2, tn7_6]
  unfold due dm at hK
  by_cases e1 : rI μ 68 (7 * n) = 1
  · have e3 : ¬ rI μ 68 (7 * n) = 3 := by omega
    have e2 : ¬ rI μ 68 (7 * n) = 2 := by omega
    simp only [e1, e2, e3, if_true, false_and, if_false, or_self, false_or, Int.reduceEq] at hK
    repeat' (first | exact trivial | omega | (with_reducible assumption) | exact absurd trivial (by with_reducible assumption) | contradiction | apply And.intro | intro _)
  · simp only [e1, if_false] at hK
    by_cases e3 : rI μ 68 (7 * n) = 3
    · simp only [e3, true_and, or_true] at hK
      by_cases e6 : rI μ 68 (7 * n + 6) = 1
      · simp only [e6, if_true] at hK
        repeat' (first | exact trivial | omega | (with_reducible assumption) | exact absurd trivial (by with_reducible assumption) | contradiction | apply And.intro | intro _)
      · simp only [e6, if_false] at hK
        by_cases ep : 0 < min (rI μ 68 (7 * n + 1)) (rI μ 68 (7 * n + 2))
        · simp only [ep, true_and] at hK
          by_cases eo : outB (rI μ 68) (rI μ 68 (7 * n + 1)) (rI μ 68 35).toNat = true
          · simp only [eo, if_true] at hK
            repeat' (first | exact trivial | omega | (with_reducible assumption) | exact absurd trivial (by with_reducible assumption) | contradiction | apply And.intro | intro _)
          · simp only [eo, Bool.false_eq_true, if_false] at hK
            repeat' (first | exact trivial | omega | (with_reducible assumption) | exact absurd trivial (by with_reducible assumption) | contradiction | apply And.intro | intro _)
        · simp only [ep, false_and, if_false] at hK
          repeat' (first | exact trivial | omega | (with_reducible assumption) | exact absurd trivial (by with_reducible assumption) | contradiction | apply And.intro | intro _)
    · simp only [e3, false_and, if_false, or_false] at hK
      by_cases e2 : rI μ 68 (7 * n) = 2
      · simp only [e2, true_and] at hK
        by_cases ep : 0 < min (rI μ 68 (7 * n + 1)) (rI μ 68 (7 * n + 2))
        · simp only [ep, true_and] at hK
          by_cases eo : outB (rI μ 68) (rI μ 68 (7 * n + 1)) (rI μ 68 35).toNat = true
          · simp only [eo, if_true] at hK
            repeat' (first | exact trivial | omega | (with_reducible assumption) | exact absurd trivial (by with_reducible assumption) | contradiction | apply And.intro | intro _)
          · simp only [eo, Bool.false_eq_true, if_false] at hK
            repeat' (first | exact trivial | omega | (with_reducible assumption) | exact absurd trivial (by with_reducible assumption) | contradiction | apply And.intro | intro _)
        · simp only [ep, false_and, if_false] at hK
          repeat' (first | exact trivial | omega | (with_reducible assumption) | exact absurd trivial (by with_reducible assumption) | contradiction | apply And.intro | intro _)
      · simp only [e2, false_and, if_false] at hK
        repeat' (first | exact trivial | omega | (with_reducible assumption) | exact absurd trivial (by with_reducible assumption) | contradiction | apply And.intro | intro _)
theorem good_X6_sendsNow (l : Launch) : Good l 2 yX6_sendsNow cX6_sendsNow 4 (some .int) T6_sendsNow := by
  refine Good.mk 1 (by decide) rfl (by simp [retOK]) FOK6 COK6 (gk_X6_sendsNow l) ?_ ?_
  · intro a μ K h
    unfold T6_sendsNow at h
    split at h
    · simp [entl]
    · exact h.elim
  · intro a μ K V hV h
    unfold T6_sendsNow at h
    split at h
    · exact body_X6_sendsNow _ _ μ K V hV h
    · exact h.elim

def T6_comesTo : TT := fun a μ K => match a with
  | [.inr (.inr o), .inl i, .inl n] => o = 66 ∧ ((0 ≤ i ∧ i < 5) ∧ (0 ≤ rI μ 68 (7 * i.toNat + 1) ∧ rI μ 68 (7 * i.toNat + 1) ≤ 99) ∧ (0 ≤ n ∧ n ≤ 1000) ∧ (0 ≤ rI μ 68 40 ∧ rI μ 68 40 ≤ 999999) ∧ K [.inl (n - min n (99 - rI μ 68 (7 * i.toNat + 1)))] (wI (wI (wI μ 68 (7 * i.toNat + 1) (rI μ 68 (7 * i.toNat + 1) + min n (99 - rI μ 68 (7 * i.toNat + 1)))) 66 16 (rI μ 66 16 + (n - min n (99 - rI μ 68 (7 * i.toNat + 1))))) 68 40 (min 999999 (rI μ 68 40 + (n - min n (99 - rI μ 68 (7 * i.toNat + 1)))))))
  | _ => False
theorem rec_X6_comesTo : ∀ a μ K, T6_comesTo a μ K → ∃ k r, a = .inr (.inr k) :: r ∧ kd k = 6 := by
  intro a μ K h
  unfold T6_comesTo at h
  split at h
  · exact ⟨_, _, rfl, by rw [h.1]; rfl⟩
  · exact h.elim
def GL_X6_comesTo : List (Nat × Nat × Bool × TT) := [(145, 3, false, T6_of), (142, 2, true, T6_lesser), (152, 4, false, T6_becomesOf), (156, 3, false, T6_growsTo)]
def G_X6_comesTo : Nat → Option (Nat × Bool × TT) := fun i => GL_X6_comesTo.lookup i
theorem G_X6_comesTo_145 : G_X6_comesTo 145 = some (3, false, T6_of) := rfl
theorem G_X6_comesTo_142 : G_X6_comesTo 142 = some (2, true, T6_lesser) := rfl
theorem G_X6_comesTo_152 : G_X6_comesTo 152 = some (4, false, T6_becomesOf) := rfl
theorem G_X6_comesTo_156 : G_X6_comesTo 156 = some (3, false, T6_growsTo) := rfl
theorem gk_X6_comesTo (l : Launch) : ∀ i n b T, G_X6_comesTo i = some (n, b, T) → CallOK l 2 RX6 i n b T := by
  intro i n b T h
  have hm : (i, n, b, T) ∈ GL_X6_comesTo := lk_mem h
  simp only [GL_X6_comesTo, List.mem_cons, List.not_mem_nil, or_false, Prod.mk.injEq] at hm
  rcases hm with ⟨rfl, rfl, rfl, rfl⟩ | ⟨rfl, rfl, rfl, rfl⟩ | ⟨rfl, rfl, rfl, rfl⟩ | ⟨rfl, rfl, rfl, rfl⟩
  · exact CallOK.V (d := 2) (own := RX6) (i := 145) (n := 2) (ci := 6) (good_X6_of l) (by decide) (by decide) rfl (by decide) rec_X6_of (mg 777 (by decide +kernel) (by decide +kernel)) (mg 779 (by decide +kernel) (by decide +kernel)) (mgs 35 (by decide +kernel) (by decide +kernel)) (mg 7 (by decide +kernel) (by decide +kernel)) (mg 780 (by decide +kernel) (by decide +kernel)) (by decide +kernel)
  · exact CallOK.S (d := 2) (own := RX6) (i := 142) (n := 2) (good_X6_lesser l) (by decide) (by decide) (mg 785 (by decide +kernel) (by decide +kernel)) (mg 786 (by decide +kernel) (by decide +kernel)) (mg 7 (by decide +kernel) (by decide +kernel)) (mg 787 (by decide +kernel) (by decide +kernel)) (by decide +kernel)
  · exact CallOK.V (d := 2) (own := RX6) (i := 152) (n := 3) (ci := 6) (good_X6_becomesOf l) (by decide) (by decide) rfl (by decide) rec_X6_becomesOf (mg 823 (by decide +kernel) (by decide +kernel)) (mg 825 (by decide +kernel) (by decide +kernel)) (mgs 41 (by decide +kernel) (by decide +kernel)) (mg 7 (by decide +kernel) (by decide +kernel)) (mg 826 (by decide +kernel) (by decide +kernel)) (by decide +kernel)
  · exact CallOK.V (d := 2) (own := RX6) (i := 156) (n := 2) (ci := 6) (good_X6_growsTo l) (by decide) (by decide) rfl (by decide) rec_X6_growsTo (mg 827 (by decide +kernel) (by decide +kernel)) (mg 829 (by decide +kernel) (by decide +kernel)) (mgs 42 (by decide +kernel) (by decide +kernel)) (mg 7 (by decide +kernel) (by decide +kernel)) (mg 830 (by decide +kernel) (by decide +kernel)) (by decide +kernel)
set_option maxRecDepth 20000 in
set_option maxHeartbeats 4000000 in
theorem body_X6_comesTo (o : Nat) (i : Int) (n : Int) (μ : Mem) (K : List AV → Mem → Prop) (V : Nat → List (Option AV) → List AV → Mem → Prop) (hV : Clos FX6 CX6 G_X6_comesTo 1 K cX6_comesTo V) (hT : o = 66 ∧ ((0 ≤ i ∧ i < 5) ∧ (0 ≤ rI μ 68 (7 * i.toNat + 1) ∧ rI μ 68 (7 * i.toNat + 1) ≤ 99) ∧ (0 ≤ n ∧ n ≤ 1000) ∧ (0 ≤ rI μ 68 40 ∧ rI μ 68 40 ≤ 999999) ∧ K [.inl (n - min n (99 - rI μ 68 (7 * i.toNat + 1)))] (wI (wI (wI μ 68 (7 * i.toNat + 1) (rI μ 68 (7 * i.toNat + 1) + min n (99 - rI μ 68 (7 * i.toNat + 1)))) 66 16 (rI μ 66 16 + (n - min n (99 - rI μ 68 (7 * i.toNat + 1))))) 68 40 (min 999999 (rI μ 68 40 + (n - min n (99 - rI μ 68 (7 * i.toNat + 1)))))))) : V 0 [some (.inr (.inr o)), some (.inl i), some (.inl n), none] [] μ := by
  obtain ⟨rfl, ⟨h1, h2⟩, h3, h4, h5, hK⟩ := hT
  obtain ⟨k, rfl⟩ := Int.eq_ofNat_of_zero_le h1
  rw [Int.toNat_natCast] at hK h3
  apply hV [] 80
  have e40 : ¬ (40 = 7 * k + 1) := by omega
  simp only [InR, InL, inb, Int.toNat_natCast, wp1, wpc_z, wpc_s, stp_iconst, stp_bipush, stp_sipush, stp_lconst, stp_iload_n, stp_iload, stp_lload_n, stp_lload, stp_aload_n, stp_aload, stp_istore_n, stp_istore, stp_lstore_n, stp_lstore, stp_astore_n, stp_astore, stp_iinc, stp_iadd, stp_isub, stp_imul, stp_ineg, stp_idiv, stp_irem, stp_ladd, stp_lmul, stp_ldiv, stp_lrem, stp_ishl, stp_ishr, stp_iushr, stp_iand, stp_ior, stp_i2l, stp_i2b, stp_i2s, stp_lcmp, stp_dup, stp_dup2, stp_pop, stp_ifCond, stp_if_icmp, stp_goto, stp_tableswitch, stp_lookupswitch, stp_ldc, stp_ldc2_w, stp_getstatic, stp_getfield, stp_putfield, stp_iaload, stp_baload, stp_iastore, stp_bastore, stp_aaload, stp_aastore, stp_invokevirtual, stp_invokestatic, stp_ireturn, stp_lreturn, stp_return_, lg, lset, okl, spl, wd, c1, cnd, tg, swT, swL, f4_0, f4_1, f4_2, f4_3, f2_0, f2_1, List.mem_cons, List.not_mem_nil, List.length_cons, List.length_nil, List.cons_append, List.nil_append, Nat.reduceAdd, Nat.reduceMul, Nat.reduceLT, Nat.reduceEqDiff, Nat.reduceLeDiff, Int.reduceAdd, Int.reduceNeg, Int.reduceToNat, Int.cast_ofNat_Int, Int.reduceNatCast, Int.toNat_zero, Int.toNat_one, Int.reduceLE, Int.reduceLT, Int.reduceEq, Int.zero_add, Int.add_zero, or_false, false_or, or_true, true_or, and_true, true_and, and_false, false_and, reduceIte, not_true_eq_false, not_false_eq_true, forall_const, false_implies, true_implies, implies_true, ne_eq, reduceCtorEq, List.all_cons, List.all_nil, Bool.and_true, Bool.and_self, decide_eq_true_eq, decide_true, dX6_comesTo_0, dX6_comesTo_1, dX6_comesTo_3, dX6_comesTo_4, dX6_comesTo_5, dX6_comesTo_6, dX6_comesTo_9, dX6_comesTo_10, dX6_comesTo_13, dX6_comesTo_14, dX6_comesTo_15, dX6_comesTo_16, dX6_comesTo_17, dX6_comesTo_18, dX6_comesTo_19, dX6_comesTo_20, dX6_comesTo_23, dX6_comesTo_24, dX6_comesTo_25, dX6_comesTo_28, dX6_comesTo_29, dX6_comesTo_30, dX6_comesTo_33, dX6_comesTo_34, dX6_comesTo_35, dX6_comesTo_36, dX6_comesTo_37, dX6_comesTo_40, dX6_comesTo_41, dX6_comesTo_43, dX6_comesTo_44, dX6_comesTo_45, dX6_comesTo_46, dX6_comesTo_49, dX6_comesTo_50, dX6_comesTo_51, dX6_comesTo_52, FX6_138, G_X6_comesTo_145, G_X6_comesTo_142, G_X6_comesTo_152, G_X6_comesTo_156, kd_66, kd_67, kd_68, kd_69, kd_70, kd_71, kd_72, kd_73, kd_74, kd_75, kd_76, kd_77, kd_78, ln_66, ln_67, ln_68, ln_69, ln_70, ln_71, ln_72, ln_73, ln_74, ln_75, ln_76, ln_77, ln_78, T6_of, T6_lesser, T6_becomesOf, T6_growsTo, tn7_1, rI_wI, e40, and_self]
  repeat' (first | exact trivial | omega | (with_reducible assumption) | exact absurd trivial (by with_reducible assumption) | contradiction | apply And.intro | intro _)
theorem good_X6_comesTo (l : Launch) : Good l 2 yX6_comesTo cX6_comesTo 4 (some .int) T6_comesTo := by
  refine Good.mk 1 (by decide) rfl (by simp [retOK]) FOK6 COK6 (gk_X6_comesTo l) ?_ ?_
  · intro a μ K h
    unfold T6_comesTo at h
    split at h
    · simp [entl]
    · exact h.elim
  · intro a μ K V hV h
    unfold T6_comesTo at h
    split at h
    · exact body_X6_comesTo _ _ _ μ K V hV h
    · exact h.elim
end
section
/-! the reference: a visit -/
theorem SOK_congr {f f' : Nat → Int} (h : ∀ x, x < 35 → f' x = f x) (h38 : f 38 ≤ f' 38) {k : Nat} (hk : k < 5) (hs : SOK f k) : SOK f' k := by
  unfold SOK at hs ⊢
  rw [h (7 * k) (by omega), h (7 * k + 1) (by omega), h (7 * k + 2) (by omega), h (7 * k + 3) (by omega), h (7 * k + 4) (by omega), h (7 * k + 5) (by omega), h (7 * k + 6) (by omega)]
  omega
theorem outB_congr {f f' : Nat → Int} (h : ∀ x, x < 35 → f' x = f x) (q : Int) : ∀ n, n ≤ 5 → outB f' q n = outB f q n
  | 0, _ => rfl
  | n + 1, hn => by
    simp only [outB]
    rw [outB_congr h q n (by omega), h _ (by omega)]
theorem due_congr {f f' : Nat → Int} (h : ∀ x, x ≤ 35 → f' x = f x) (h5 : f 35 ≤ 5) {i : Nat} (hi : i < 5) : due f' i = due f i := by
  unfold due dm
  rw [h 35 (by omega), h (7 * i) (by omega), h (7 * i + 1) (by omega), h (7 * i + 2) (by omega), h (7 * i + 6) (by omega), outB_congr (fun x hx => h x (by omega)) _ _ (by omega)]
theorem cmG_congr {f f' : Nat → Int} {t : Int} (h : ∀ x, x < 39 → f x = f' x) {k : Nat} (hk : k < 5) : cmG f t k = cmG f' t k := by
  unfold cmG
  rw [h _ (by omega), h _ (by omega)]
theorem cmF_congr {f f' : Nat → Int} {t : Int} (h : ∀ x, x < 39 → f x = f' x) : ∀ n, n ≤ 5 → ∀ x, x < 39 → cmF f t n x = cmF f' t n x
  | 0, _, x, hx => h x hx
  | n + 1, hn, x, hx => by
    simp only [cmF, upF]
    rw [cmF_congr h n (by omega) x hx, cmG_congr h (by omega), h (7 * n + 1) (by omega)]
theorem cmL_congr {f f' : Nat → Int} {t : Int} (h : ∀ x, x < 39 → f x = f' x) : ∀ n, n ≤ 5 → cmL f t n = cmL f' t n
  | 0, _ => rfl
  | n + 1, hn => by
    simp only [cmL]
    rw [cmL_congr h n (by omega), cmG_congr h (by omega), h (7 * n + 3) (by omega)]
/-- what a visit does to the state at hand and its counts -/
def VP (μ μ' : Mem) (may : Bool) : Prop :=
  (∀ j, j < 39 → rI μ' 68 j = nxt (rI μ 68) may j) ∧ rI μ' 68 39 = min 999999 (rI μ 68 39 + sndI (rI μ 68) may) ∧ rI μ' 68 40 = min 999999 (rI μ 68 40 + lstI (rI μ 68) may) ∧ (∀ j, 41 ≤ j → rI μ' 68 j = rI μ 68 j) ∧
  rI μ' 66 14 = rI μ 66 14 + sndI (rI μ 68) may ∧ rI μ' 66 15 = rI μ 66 15 + (nxt (rI μ 68) may 37 - rI μ 68 37) ∧ rI μ' 66 16 = rI μ 66 16 + lstI (rI μ 68) may ∧ (∀ j, j ≠ 14 → j ≠ 15 → j ≠ 16 → rI μ' 66 j = rI μ 66 j) ∧
  (∀ j, j < 5 → rI μ' 72 j = rI μ 72 j + (if rI μ 68 35 ≠ 0 ∧ j = (rI μ 68 36).toNat then sndI (rI μ 68) may else 0)) ∧
  (∀ a, a ≠ 66 → a ≠ 68 → a ≠ 72 → ∀ j, rI μ' a j = rI μ a j) ∧ ∀ a j, rR μ' a j = rR μ a j
/-- while letters come -/
def LI (μ ν : Mem) (t : Int) (k : Nat) : Prop :=
  (∀ j, j ≠ 40 → rI ν 68 j = cmF (rI μ 68) t k j) ∧ rI ν 68 40 = min 999999 (rI μ 68 40 + cmL (rI μ 68) t k) ∧ rI ν 66 16 = rI μ 66 16 + cmL (rI μ 68) t k ∧ (∀ j, j ≠ 16 → rI ν 66 j = rI μ 66 j) ∧ (∀ a, a ≠ 66 → a ≠ 68 → ∀ j, rI ν a j = rI μ a j) ∧ ∀ a j, rR ν a j = rR μ a j
theorem cmL_nn {f : Nat → Int} {t : Int} (ht : 0 ≤ t ∧ t ≤ 3) : ∀ n : Nat, (∀ k : Nat, k < n → SOK f k) → 0 ≤ cmL f t n ∧ cmL f t n ≤ 27 * n
  | 0, _ => by simp [cmL]
  | n + 1, h => by
    have h1 := cmL_nn ht n (fun k hk => h k (by omega))
    have h2 := cmG_in (h n (by omega)) ht
    simp only [cmL]
    omega
def GL_X6_visitGoes : List (Nat × Nat × Bool × TT) := [(160, 2, false, T6_sendsNow), (145, 3, false, T6_of), (152, 4, false, T6_becomesOf), (163, 1, true, T6_flag), (142, 2, true, T6_lesser), (156, 3, false, T6_growsTo), (167, 3, false, T6_comesTo)]
def G_X6_visitGoes : Nat → Option (Nat × Bool × TT) := fun i => GL_X6_visitGoes.lookup i
theorem G_X6_visitGoes_160 : G_X6_visitGoes 160 = some (2, false, T6_sendsNow) := rfl
theorem G_X6_visitGoes_145 : G_X6_visitGoes 145 = some (3, false, T6_of) := rfl
theorem G_X6_visitGoes_152 : G_X6_visitGoes 152 = some (4, false, T6_becomesOf) := rfl
theorem G_X6_visitGoes_163 : G_X6_visitGoes 163 = some (1, true, T6_flag) := rfl
theorem G_X6_visitGoes_142 : G_X6_visitGoes 142 = some (2, true, T6_lesser) := rfl
theorem G_X6_visitGoes_156 : G_X6_visitGoes 156 = some (3, false, T6_growsTo) := rfl
theorem G_X6_visitGoes_167 : G_X6_visitGoes 167 = some (3, false, T6_comesTo) := rfl

set_option maxRecDepth 20000 in
set_option maxHeartbeats 4000000 in
theorem lp_visit (V : Nat → List (Option AV) → List AV → Mem → Prop) (K : List AV → Mem → Prop) (hV : Clos FX6 CX6 G_X6_visitGoes 0 K cX6_visitGoes V) (μ : Mem) (t : Int) (b i s f : AV) (hi : i = .inl (rI μ 68 36)) (ht : 0 ≤ t ∧ t ≤ 3) (hm : 0 < rI μ 68 35 ∧ rI μ 68 35 ≤ 5) (hw : 0 ≤ rI μ 68 36 ∧ rI μ 68 36 < rI μ 68 35) (hs : ∀ k : Nat, (k : Int) < rI μ 68 35 → SOK (rI μ 68) k) (h40 : 0 ≤ rI μ 68 40 ∧ rI μ 68 40 ≤ 999999)
    (hK : ∀ ν, LI μ ν t (rI μ 68 35).toNat → K [] (wI ν 68 36 (if rI μ 68 36 + 1 < rI μ 68 35 then rI μ 68 36 + 1 else 0))) : ∀ m n : Nat, n + m = (rI μ 68 35).toNat → ∀ ν, LI μ ν t n → V 192 [some (.inr (.inr 66)), some b, some i, some s, some f, some (.inl t), some (.inl (n : Int))] [] ν := by
  intro m
  subst hi
  induction m with
  | zero =>
    intro n hn ν hL
    have hL' := hL
    obtain ⟨l1, l2, l3, l4, l5, l6⟩ := hL
    have e35 : rI ν 68 35 = rI μ 68 35 := by rw [l1 35 (by omega), cmF_out _ _ _ _ (fun k hk => by omega)]
    apply hV [192] 60
    simp only [InR, InL, inb, Int.toNat_natCast, wp1, wpc_z, wpc_s, stp_iconst, stp_bipush, stp_sipush, stp_lconst, stp_iload_n, stp_iload, stp_lload_n, stp_lload, stp_aload_n, stp_aload, stp_istore_n, stp_istore, stp_lstore_n, stp_lstore, stp_astore_n, stp_astore, stp_iinc, stp_iadd, stp_isub, stp_imul, stp_ineg, stp_idiv, stp_irem, stp_ladd, stp_lmul, stp_ldiv, stp_lrem, stp_ishl, stp_ishr, stp_iushr, stp_iand, stp_ior, stp_i2l, stp_i2b, stp_i2s, stp_lcmp, stp_dup, stp_dup2, stp_pop, stp_ifCond, stp_if_icmp, stp_goto, stp_tableswitch, stp_lookupswitch, stp_ldc, stp_ldc2_w, stp_getstatic, stp_getfield, stp_putfield, stp_iaload, stp_baload, stp_iastore, stp_bastore, stp_aaload, stp_aastore, stp_invokevirtual, stp_invokestatic, stp_ireturn, stp_lreturn, stp_return_, lg, lset, okl, spl, wd, c1, cnd, tg, swT, swL, f4_0, f4_1, f4_2, f4_3, f2_0, f2_1, List.mem_cons, List.not_mem_nil, List.length_cons, List.length_nil, List.cons_append, List.nil_append, Nat.reduceAdd, Nat.reduceMul, Nat.reduceLT, Nat.reduceEqDiff, Nat.reduceLeDiff, Int.reduceAdd, Int.reduceNeg, Int.reduceToNat, Int.cast_ofNat_Int, Int.reduceNatCast, Int.toNat_zero, Int.toNat_one, Int.reduceLE, Int.reduceLT, Int.reduceEq, Int.zero_add, Int.add_zero, or_false, false_or, or_true, true_or, and_true, true_and, and_false, false_and, reduceIte, not_true_eq_false, not_false_eq_true, forall_const, false_implies, true_implies, implies_true, ne_eq, reduceCtorEq, List.all_cons, List.all_nil, Bool.and_true, Bool.and_self, decide_eq_true_eq, decide_true, dX6_visitGoes_0, dX6_visitGoes_1, dX6_visitGoes_4, dX6_visitGoes_6, dX6_visitGoes_7, dX6_visitGoes_8, dX6_visitGoes_9, dX6_visitGoes_10, dX6_visitGoes_11, dX6_visitGoes_12, dX6_visitGoes_15, dX6_visitGoes_17, dX6_visitGoes_18, dX6_visitGoes_21, dX6_visitGoes_22, dX6_visitGoes_23, dX6_visitGoes_26, dX6_visitGoes_28, dX6_visitGoes_29, dX6_visitGoes_30, dX6_visitGoes_31, dX6_visitGoes_34, dX6_visitGoes_35, dX6_visitGoes_36, dX6_visitGoes_39, dX6_visitGoes_42, dX6_visitGoes_43, dX6_visitGoes_46, dX6_visitGoes_47, dX6_visitGoes_48, dX6_visitGoes_51, dX6_visitGoes_52, dX6_visitGoes_53, dX6_visitGoes_56, dX6_visitGoes_58, dX6_visitGoes_59, dX6_visitGoes_61, dX6_visitGoes_62, dX6_visitGoes_63, dX6_visitGoes_64, dX6_visitGoes_65, dX6_visitGoes_66, dX6_visitGoes_67, dX6_visitGoes_70, dX6_visitGoes_71, dX6_visitGoes_72, dX6_visitGoes_75, dX6_visitGoes_76, dX6_visitGoes_77, dX6_visitGoes_79, dX6_visitGoes_80, dX6_visitGoes_83, dX6_visitGoes_84, dX6_visitGoes_87, dX6_visitGoes_88, dX6_visitGoes_91, dX6_visitGoes_94, dX6_visitGoes_95, dX6_visitGoes_96, dX6_visitGoes_97, dX6_visitGoes_99, dX6_visitGoes_100, dX6_visitGoes_101, dX6_visitGoes_102, dX6_visitGoes_105, dX6_visitGoes_106, dX6_visitGoes_107, dX6_visitGoes_110, dX6_visitGoes_113, dX6_visitGoes_114, dX6_visitGoes_117, dX6_visitGoes_118, dX6_visitGoes_119, dX6_visitGoes_120, dX6_visitGoes_121, dX6_visitGoes_122, dX6_visitGoes_123, dX6_visitGoes_124, dX6_visitGoes_125, dX6_visitGoes_128, dX6_visitGoes_129, dX6_visitGoes_130, dX6_visitGoes_133, dX6_visitGoes_134, dX6_visitGoes_135, dX6_visitGoes_138, dX6_visitGoes_139, dX6_visitGoes_140, dX6_visitGoes_141, dX6_visitGoes_142, dX6_visitGoes_145, dX6_visitGoes_146, dX6_visitGoes_147, dX6_visitGoes_150, dX6_visitGoes_151, dX6_visitGoes_153, dX6_visitGoes_154, dX6_visitGoes_157, dX6_visitGoes_158, dX6_visitGoes_160, dX6_visitGoes_161, dX6_visitGoes_162, dX6_visitGoes_163, dX6_visitGoes_164, dX6_visitGoes_167, dX6_visitGoes_168, dX6_visitGoes_171, dX6_visitGoes_172, dX6_visitGoes_175, dX6_visitGoes_177, dX6_visitGoes_178, dX6_visitGoes_180, dX6_visitGoes_181, dX6_visitGoes_183, dX6_visitGoes_185, dX6_visitGoes_186, dX6_visitGoes_187, dX6_visitGoes_189, dX6_visitGoes_190, dX6_visitGoes_192, dX6_visitGoes_194, dX6_visitGoes_195, dX6_visitGoes_198, dX6_visitGoes_200, dX6_visitGoes_201, dX6_visitGoes_204, dX6_visitGoes_205, dX6_visitGoes_207, dX6_visitGoes_209, dX6_visitGoes_210, dX6_visitGoes_212, dX6_visitGoes_213, dX6_visitGoes_216, dX6_visitGoes_217, dX6_visitGoes_220, dX6_visitGoes_221, dX6_visitGoes_224, dX6_visitGoes_227, dX6_visitGoes_228, dX6_visitGoes_231, dX6_visitGoes_233, dX6_visitGoes_234, dX6_visitGoes_235, dX6_visitGoes_236, dX6_visitGoes_237, dX6_visitGoes_240, dX6_visitGoes_242, dX6_visitGoes_243, dX6_visitGoes_244, dX6_visitGoes_245, FX6_13, FX6_129, CX6_141, FX6_26, FX6_132, FX6_135, G_X6_visitGoes_160, G_X6_visitGoes_145, G_X6_visitGoes_152, G_X6_visitGoes_163, G_X6_visitGoes_142, G_X6_visitGoes_156, G_X6_visitGoes_167, kd_66, kd_67, kd_68, kd_69, kd_70, kd_71, kd_72, kd_73, kd_74, kd_75, kd_76, kd_77, kd_78, ln_66, ln_67, ln_68, ln_69, ln_70, ln_71, ln_72, ln_73, ln_74, ln_75, ln_76, ln_77, ln_78, e35]
    have e : (rI μ 68 36 + 1) % rI μ 68 35 = (if rI μ 68 36 + 1 < rI μ 68 35 then rI μ 68 36 + 1 else 0) := by
      split
      · exact Int.emod_eq_of_lt (by omega) (by omega)
      · rw [show rI μ 68 36 + 1 = rI μ 68 35 by omega, Int.emod_self]
    have := hK ν (by rw [show (rI μ 68 35).toNat = n by omega]; exact hL')
    rw [← e] at this
    repeat' (first | exact trivial | omega | (with_reducible assumption) | exact absurd trivial (by with_reducible assumption) | contradiction | apply And.intro | intro _)
  | succ m ih =>
    intro n hn ν hL
    obtain ⟨l1, l2, l3, l4, l5, l6⟩ := hL
    have hn5 : n < 5 := by omega
    have e35 : rI ν 68 35 = rI μ 68 35 := by rw [l1 35 (by omega), cmF_out _ _ _ _ (fun k hk => by omega)]
    have eg : rI ν 68 (7 * n + 3) = rI μ 68 (7 * n + 3) := by rw [l1 _ (by omega), cmF_out _ _ _ _ (fun k hk => by omega)]
    have eq : rI ν 68 (7 * n + 1) = rI μ 68 (7 * n + 1) := by rw [l1 _ (by omega), cmF_out _ _ _ _ (fun k hk => by omega)]
    have hsn := hs n (by omega)
    have hc := cmG_in hsn ht
    have hl := cmL_nn ht n (fun k hk => hs k (by omega))
    have hq := hsn.2.1
    apply hV [192] 60
    simp only [InR, InL, inb, Int.toNat_natCast, wp1, wpc_z, wpc_s, stp_iconst, stp_bipush, stp_sipush, stp_lconst, stp_iload_n, stp_iload, stp_lload_n, stp_lload, stp_aload_n, stp_aload, stp_istore_n, stp_istore, stp_lstore_n, stp_lstore, stp_astore_n, stp_astore, stp_iinc, stp_iadd, stp_isub, stp_imul, stp_ineg, stp_idiv, stp_irem, stp_ladd, stp_lmul, stp_ldiv, stp_lrem, stp_ishl, stp_ishr, stp_iushr, stp_iand, stp_ior, stp_i2l, stp_i2b, stp_i2s, stp_lcmp, stp_dup, stp_dup2, stp_pop, stp_ifCond, stp_if_icmp, stp_goto, stp_tableswitch, stp_lookupswitch, stp_ldc, stp_ldc2_w, stp_getstatic, stp_getfield, stp_putfield, stp_iaload, stp_baload, stp_iastore, stp_bastore, stp_aaload, stp_aastore, stp_invokevirtual, stp_invokestatic, stp_ireturn, stp_lreturn, stp_return_, lg, lset, okl, spl, wd, c1, cnd, tg, swT, swL, f4_0, f4_1, f4_2, f4_3, f2_0, f2_1, List.mem_cons, List.not_mem_nil, List.length_cons, List.length_nil, List.cons_append, List.nil_append, Nat.reduceAdd, Nat.reduceMul, Nat.reduceLT, Nat.reduceEqDiff, Nat.reduceLeDiff, Int.reduceAdd, Int.reduceNeg, Int.reduceToNat, Int.cast_ofNat_Int, Int.reduceNatCast, Int.toNat_zero, Int.toNat_one, Int.reduceLE, Int.reduceLT, Int.reduceEq, Int.zero_add, Int.add_zero, or_false, false_or, or_true, true_or, and_true, true_and, and_false, false_and, reduceIte, not_true_eq_false, not_false_eq_true, forall_const, false_implies, true_implies, implies_true, ne_eq, reduceCtorEq, List.all_cons, List.all_nil, Bool.and_true, Bool.and_self, decide_eq_true_eq, decide_true, dX6_visitGoes_0, dX6_visitGoes_1, dX6_visitGoes_4, dX6_visitGoes_6, dX6_visitGoes_7, dX6_visitGoes_8, dX6_visitGoes_9, dX6_visitGoes_10, dX6_visitGoes_11, dX6_visitGoes_12, dX6_visitGoes_15, dX6_visitGoes_17, dX6_visitGoes_18, dX6_visitGoes_21, dX6_visitGoes_22, dX6_visitGoes_23, dX6_visitGoes_26, dX6_visitGoes_28, dX6_visitGoes_29, dX6_visitGoes_30, dX6_visitGoes_31, dX6_visitGoes_34, dX6_visitGoes_35, dX6_visitGoes_36, dX6_visitGoes_39, dX6_visitGoes_42, dX6_visitGoes_43, dX6_visitGoes_46, dX6_visitGoes_47, dX6_visitGoes_48, dX6_visitGoes_51, dX6_visitGoes_52, dX6_visitGoes_53, dX6_visitGoes_56, dX6_visitGoes_58, dX6_visitGoes_59, dX6_visitGoes_61, dX6_visitGoes_62, dX6_visitGoes_63, dX6_visitGoes_64, dX6_visitGoes_65, dX6_visitGoes_66, dX6_visitGoes_67, dX6_visitGoes_70, dX6_visitGoes_71, dX6_visitGoes_72, dX6_visitGoes_75, dX6_visitGoes_76, dX6_visitGoes_77, dX6_visitGoes_79, dX6_visitGoes_80, dX6_visitGoes_83, dX6_visitGoes_84, dX6_visitGoes_87, dX6_visitGoes_88, dX6_visitGoes_91, dX6_visitGoes_94, dX6_visitGoes_95, dX6_visitGoes_96, dX6_visitGoes_97, dX6_visitGoes_99, dX6_visitGoes_100, dX6_visitGoes_101, dX6_visitGoes_102, dX6_visitGoes_105, dX6_visitGoes_106, dX6_visitGoes_107, dX6_visitGoes_110, dX6_visitGoes_113, dX6_visitGoes_114, dX6_visitGoes_117, dX6_visitGoes_118, dX6_visitGoes_119, dX6_visitGoes_120, dX6_visitGoes_121, dX6_visitGoes_122, dX6_visitGoes_123, dX6_visitGoes_124, dX6_visitGoes_125, dX6_visitGoes_128, dX6_visitGoes_129, dX6_visitGoes_130, dX6_visitGoes_133, dX6_visitGoes_134, dX6_visitGoes_135, dX6_visitGoes_138, dX6_visitGoes_139, dX6_visitGoes_140, dX6_visitGoes_141, dX6_visitGoes_142, dX6_visitGoes_145, dX6_visitGoes_146, dX6_visitGoes_147, dX6_visitGoes_150, dX6_visitGoes_151, dX6_visitGoes_153, dX6_visitGoes_154, dX6_visitGoes_157, dX6_visitGoes_158, dX6_visitGoes_160, dX6_visitGoes_161, dX6_visitGoes_162, dX6_visitGoes_163, dX6_visitGoes_164, dX6_visitGoes_167, dX6_visitGoes_168, dX6_visitGoes_171, dX6_visitGoes_172, dX6_visitGoes_175, dX6_visitGoes_177, dX6_visitGoes_178, dX6_visitGoes_180, dX6_visitGoes_181, dX6_visitGoes_183, dX6_visitGoes_185, dX6_visitGoes_186, dX6_visitGoes_187, dX6_visitGoes_189, dX6_visitGoes_190, dX6_visitGoes_192, dX6_visitGoes_194, dX6_visitGoes_195, dX6_visitGoes_198, dX6_visitGoes_200, dX6_visitGoes_201, dX6_visitGoes_204, dX6_visitGoes_205, dX6_visitGoes_207, dX6_visitGoes_209, dX6_visitGoes_210, dX6_visitGoes_212, dX6_visitGoes_213, dX6_visitGoes_216, dX6_visitGoes_217, dX6_visitGoes_220, dX6_visitGoes_221, dX6_visitGoes_224, dX6_visitGoes_227, dX6_visitGoes_228, dX6_visitGoes_231, dX6_visitGoes_233, dX6_visitGoes_234, dX6_visitGoes_235, dX6_visitGoes_236, dX6_visitGoes_237, dX6_visitGoes_240, dX6_visitGoes_242, dX6_visitGoes_243, dX6_visitGoes_244, dX6_visitGoes_245, FX6_13, FX6_129, CX6_141, FX6_26, FX6_132, FX6_135, G_X6_visitGoes_160, G_X6_visitGoes_145, G_X6_visitGoes_152, G_X6_visitGoes_163, G_X6_visitGoes_142, G_X6_visitGoes_156, G_X6_visitGoes_167, kd_66, kd_67, kd_68, kd_69, kd_70, kd_71, kd_72, kd_73, kd_74, kd_75, kd_76, kd_77, kd_78, ln_66, ln_67, ln_68, ln_69, ln_70, ln_71, ln_72, ln_73, ln_74, ln_75, ln_76, ln_77, ln_78, T6_of, T6_comesTo, tn7_3, e35, eg, eq]
    have h := ih (n + 1) (by omega) (wI (wI (wI ν 68 (7 * n + 1) (rI μ 68 (7 * n + 1) + min (t * rI μ 68 (7 * n + 3)) (99 - rI μ 68 (7 * n + 1)))) 66 16 (rI ν 66 16 + (t * rI μ 68 (7 * n + 3) - min (t * rI μ 68 (7 * n + 3)) (99 - rI μ 68 (7 * n + 1))))) 68 40 (min 999999 (rI ν 68 40 + (t * rI μ 68 (7 * n + 3) - min (t * rI μ 68 (7 * n + 3)) (99 - rI μ 68 (7 * n + 1)))))) (by
      refine ⟨?_, ?_, ?_, ?_, ?_, ?_⟩
      · intro j hj
        simp only [rI_wI, cmF, upF, cmG]
        rw [if_neg (by omega), if_neg (by omega)]
        by_cases ej : j = 7 * n + 1
        · rw [if_pos ⟨trivial, ej⟩, if_pos ej]
        · rw [if_neg (by omega), if_neg ej]; exact l1 j hj
      · simp only [rI_wI, and_self, if_true, cmL]
        rw [l2]
        unfold cmG at hc ⊢
        omega
      · simp only [rI_wI, cmL, cmG]
        rw [if_neg (by omega), if_pos ⟨trivial, trivial⟩, l3]
        omega
      · intro j hj
        simp only [rI_wI]
        rw [if_neg (by omega), if_neg (by omega), if_neg (by omega)]
        exact l4 j hj
      · intro a h1 h2 j
        simp only [rI_wI]
        rw [if_neg (by omega), if_neg (by omega), if_neg (by omega)]
        exact l5 a h1 h2 j
      · intro a j
        simp only [rR_wI]
        exact l6 a j)
    rw [show ((n + 1 : Nat) : Int) = (n : Int) + 1 by omega] at h
    repeat' (first | exact trivial | omega | (with_reducible assumption) | exact absurd trivial (by with_reducible assumption) | contradiction | apply And.intro | intro _)
set_option maxRecDepth 20000 in
set_option maxHeartbeats 4000000 in
theorem b_visit51 (V : Nat → List (Option AV) → List AV → Mem → Prop) (K : List AV → Mem → Prop) (hV : Clos FX6 CX6 G_X6_visitGoes 0 K cX6_visitGoes V) (μ : Mem) (b : Int) (s : Int) (may : Bool) (hs : s = sndI (rI μ 68) may) (hW : WF (rI μ 68)) (h0 : rI μ 68 35 ≠ 0) (h38 : rI μ 68 38 ≤ 20000) (h39 : 0 ≤ rI μ 68 39 ∧ rI μ 68 39 ≤ 999999) (h40 : 0 ≤ rI μ 68 40 ∧ rI μ 68 40 ≤ 999999) (hK : ∀ μ', VP μ μ' may → K [] μ') : V 51 [some (.inr (.inr 66)), some (.inl b), some (.inl (rI μ 68 36)), none, none, none, none] [.inl s] (wI μ 68 38 (rI μ 68 38 + 1)) := by
  have hW' := hW
  obtain ⟨w1, w2, w3, w4⟩ := hW
  have w2 := w2 h0
  obtain ⟨i, hi⟩ := Int.eq_ofNat_of_zero_le w2.1
  have hi5 : i < 5 := by omega
  have hsn := snd_in hW' may
  have hS := w4 i (by omega)
  have hS' := hS
  unfold SOK at hS
  obtain ⟨s1, s2, s3, s4, s5, s6, s7⟩ := hS
  rw [← hs] at hsn
  have hs3 := hsn.2.2 h0
  rw [hi, Int.toNat_natCast] at hs3
  have ne1 : ¬ (7 * i + 1 = 38) := by omega
  have ne2 : ¬ (7 * i + 5 = 38) := by omega
  have ne3 : ¬ (7 * i + 4 = 38) := by omega
  have ne4 : ¬ (7 * i + 5 = 7 * i + 1) := by omega
  have ne5 : ¬ (7 * i + 5 = 7 * i + 6) := by omega
  have ne6 : ¬ (7 * i + 4 = 7 * i + 1) := by omega
  have ne7 : ¬ (7 * i + 4 = 7 * i + 6) := by omega
  have ne8 : ¬ (7 * i + 4 = 7 * i + 5) := by omega
  have ne9 : ¬ (39 = 7 * i + 1) := by omega
  have ne10 : ¬ (39 = 7 * i + 5) := by omega
  have ne11 : ¬ (39 = 7 * i + 6) := by omega
  have ne12 : ¬ (37 = 7 * i + 1) := by omega
  have ne13 : ¬ (37 = 7 * i + 5) := by omega
  have ne14 : ¬ (37 = 7 * i + 6) := by omega
  have ne15 : ¬ (7 * i + 4 = 39) := by omega
  have m1 : min 999999 (rI μ 68 (7 * i + 5) + s) = rI μ 68 (7 * i + 5) + s := by omega
  have m2 : min 999999 (rI μ 68 37 + (s + rI μ 68 (7 * i + 4))) = rI μ 68 37 + (s + rI μ 68 (7 * i + 4)) := by omega
  have ht := tms_in (i := i) (s := s) hS' w3.2.1 ⟨hsn.1, hsn.2.1⟩
  have key : ∀ fl : Int, fl = (if 0 < s then 1 else 0) → V 192 [some (.inr (.inr 66)), some (.inl b), some (.inl (i : Int)), some (.inl s), some (.inl (rI μ 68 37)), some (.inl (tms (rI μ 68) i s)), some (.inl 0)] [] (wI (wI (wI (wI (wI (wI (wI (wI (wI μ 68 38 (rI μ 68 38 + 1)) 68 (7 * i + 1) (rI μ 68 (7 * i + 1) - s)) 68 (7 * i + 6) fl) 68 (7 * i + 5) (rI μ 68 (7 * i + 5) + s)) 72 i (rI μ 72 i + s)) 66 14 (rI μ 66 14 + s)) 66 15 (rI μ 66 15 + (s + rI μ 68 (7 * i + 4)))) 68 39 (min 999999 (rI μ 68 39 + s))) 68 37 (rI μ 68 37 + (s + rI μ 68 (7 * i + 4)))) := by
    intro fl hfl
    generalize hν : (wI (wI (wI (wI (wI (wI (wI (wI (wI μ 68 38 (rI μ 68 38 + 1)) 68 (7 * i + 1) (rI μ 68 (7 * i + 1) - s)) 68 (7 * i + 6) fl) 68 (7 * i + 5) (rI μ 68 (7 * i + 5) + s)) 72 i (rI μ 72 i + s)) 66 14 (rI μ 66 14 + s)) 66 15 (rI μ 66 15 + (s + rI μ 68 (7 * i + 4)))) 68 39 (min 999999 (rI μ 68 39 + s))) 68 37 (rI μ 68 37 + (s + rI μ 68 (7 * i + 4)))) = ν
    have c68 : ∀ j, j < 39 → rI ν 68 j = mid (rI μ 68) i s j := by
      intro j hj
      rw [← hν]
      simp only [rI_wI, mid, upF, ← hfl, true_and]
      have z1 : ¬ ((68 : Nat) = 72) := by omega
      have z2 : ¬ ((68 : Nat) = 66) := by omega
      simp only [z1, z2, false_and, if_false, show ¬ j = 39 by omega]
    have c39 : rI ν 68 39 = min 999999 (rI μ 68 39 + s) := by
      rw [← hν]; simp [rI_wI]
    have cge : ∀ j, 40 ≤ j → rI ν 68 j = rI μ 68 j := by
      intro j hj
      rw [← hν]
      simp only [rI_wI]
      rw [if_neg (by omega), if_neg (by omega), if_neg (by omega), if_neg (by omega), if_neg (by omega), if_neg (by omega), if_neg (by omega), if_neg (by omega), if_neg (by omega)]
    have c66 : ∀ j, rI ν 66 j = if j = 15 then rI μ 66 15 + (s + rI μ 68 (7 * i + 4)) else if j = 14 then rI μ 66 14 + s else rI μ 66 j := by
      intro j
      rw [← hν]
      simp [rI_wI]
    have c72 : ∀ j, rI ν 72 j = if j = i then rI μ 72 i + s else rI μ 72 j := by
      intro j
      rw [← hν]
      simp [rI_wI]
    have cR : ∀ a j, rR ν a j = rR μ a j := by
      intro a j
      rw [← hν]
      rfl
    have coth : ∀ a, a ≠ 66 → a ≠ 68 → a ≠ 72 → ∀ j, rI ν a j = rI μ a j := by
      intro a h1 h2 h3 j
      rw [← hν]
      simp [rI_wI, h1, h2, h3]
    have i35 : rI ν 68 35 = rI μ 68 35 := by rw [c68 35 (by omega), mid_o _ _ _ _ hi5 (by omega)]; simp
    have i36 : rI ν 68 36 = rI μ 68 36 := by rw [c68 36 (by omega), mid_o _ _ _ _ hi5 (by omega)]; simp
    have e36 : (rI μ 68 36).toNat = i := by omega
    have hSν : ∀ k : Nat, (k : Int) < rI ν 68 35 → SOK (rI ν 68) k := by
      intro k hk
      rw [i35] at hk
      have := mid_SOK (may := may) hW' h0 hk
      rw [e36, ← hs] at this
      unfold SOK at this ⊢
      rw [c68 _ (by omega), c68 _ (by omega), c68 _ (by omega), c68 _ (by omega), c68 _ (by omega), c68 _ (by omega), c68 _ (by omega), c68 _ (by omega)]
      exact this
    have h := lp_visit V K hV ν (tms (rI μ 68) i s) (.inl b) (.inl (i : Int)) (.inl s) (.inl (rI μ 68 37)) (by rw [i36, hi]) ht (by rw [i35]; omega) (by rw [i35, i36]; exact w2) hSν (by rw [cge 40 (by omega)]; exact h40) (fun ρ hρ => ?_) (rI ν 68 35).toNat 0 (by omega) ν ?_
    · exact h
    · obtain ⟨l1, l2, l3, l4, l5, l6⟩ := hρ
      rw [i35, i36]
      have n5 : (rI μ 68 35).toNat ≤ 5 := by omega
      have hnx : ∀ j, nxt (rI μ 68) may j = upF (cmF (mid (rI μ 68) i s) (tms (rI μ 68) i s) (rI μ 68 35).toNat) 36 (if rI μ 68 36 + 1 < rI μ 68 35 then rI μ 68 36 + 1 else 0) j := by
        intro j
        unfold nxt
        rw [if_neg h0, e36, ← hs]
      have hls : lstI (rI μ 68) may = cmL (mid (rI μ 68) i s) (tms (rI μ 68) i s) (rI μ 68 35).toNat := by
        unfold lstI
        rw [if_neg h0, e36, ← hs]
      rw [i35] at l1 l2 l3
      have hcl := cmL_congr (t := tms (rI μ 68) i s) (fun x hx => c68 x hx) (rI μ 68 35).toNat n5
      refine hK _ ⟨?_, ?_, ?_, ?_, ?_, ?_, ?_, ?_, ?_, ?_, ?_⟩
      · intro j hj
        rw [hnx j]
        simp only [rI_wI, upF]
        by_cases e : j = 36
        · rw [if_pos ⟨trivial, e⟩, if_pos e]
        · rw [if_neg (fun z => e z.2), if_neg e, l1 j (by omega)]
          exact cmF_congr (fun x hx => c68 x hx) _ n5 j hj
      · rw [← hs]
        simp only [rI_wI]
        rw [if_neg (by omega), l1 39 (by omega), cmF_out _ _ _ _ (fun k hk => by omega), c39]
      · rw [hls]
        simp only [rI_wI]
        rw [if_neg (by omega), l2, cge 40 (by omega), hcl]
      · intro j hj
        simp only [rI_wI]
        rw [if_neg (by omega), l1 j (by omega), cmF_out _ _ _ _ (fun k hk => by omega), cge j (by omega)]
      · rw [← hs]
        simp only [rI_wI]
        rw [if_neg (by omega), l4 14 (by omega), c66 14]
        simp
      · rw [(nxt_t (rI μ 68) may hW' h0).1, e36, ← hs]
        simp only [rI_wI]
        rw [if_neg (by omega), l4 15 (by omega), c66 15]
        simp only [if_true]
        omega
      · rw [hls]
        simp only [rI_wI]
        rw [if_neg (by omega), l3, hcl, c66 16]
        simp
      · intro j j1 j2 j3
        simp only [rI_wI]
        rw [if_neg (by omega), l4 j j3, c66 j, if_neg j2, if_neg j1]
      · intro j hj
        simp only [rI_wI]
        rw [if_neg (by omega), l5 72 (by omega) (by omega), c72 j, e36, ← hs]
        by_cases e : j = i
        · subst e; simp [h0]
        · simp [e]
      · intro a h1 h2 h3 j
        simp only [rI_wI]
        rw [if_neg (by omega), l5 a h1 h2 j, coth a h1 h2 h3 j]
      · intro a j
        rw [rR_wI, l6, cR]
    · refine ⟨fun j _ => rfl, ?_, ?_, fun j _ => rfl, fun a _ _ j => rfl, fun a j => rfl⟩
      · simp only [cmL, Int.add_zero]
        rw [cge 40 (by omega)]
        omega
      · simp only [cmL, Int.add_zero]
  rw [hi]
  apply hV [192] 100
  simp only [InR, InL, inb, Int.toNat_natCast, wp1, wpc_z, wpc_s, stp_iconst, stp_bipush, stp_sipush, stp_lconst, stp_iload_n, stp_iload, stp_lload_n, stp_lload, stp_aload_n, stp_aload, stp_istore_n, stp_istore, stp_lstore_n, stp_lstore, stp_astore_n, stp_astore, stp_iinc, stp_iadd, stp_isub, stp_imul, stp_ineg, stp_idiv, stp_irem, stp_ladd, stp_lmul, stp_ldiv, stp_lrem, stp_ishl, stp_ishr, stp_iushr, stp_iand, stp_ior, stp_i2l, stp_i2b, stp_i2s, stp_lcmp, stp_dup, stp_dup2, stp_pop, stp_ifCond, stp_if_icmp, stp_goto, stp_tableswitch, stp_lookupswitch, stp_ldc, stp_ldc2_w, stp_getstatic, stp_getfield, stp_putfield, stp_iaload, stp_baload, stp_iastore, stp_bastore, stp_aaload, stp_aastore, stp_invokevirtual, stp_invokestatic, stp_ireturn, stp_lreturn, stp_return_, lg, lset, okl, spl, wd, c1, cnd, tg, swT, swL, f4_0, f4_1, f4_2, f4_3, f2_0, f2_1, List.mem_cons, List.not_mem_nil, List.length_cons, List.length_nil, List.cons_append, List.nil_append, Nat.reduceAdd, Nat.reduceMul, Nat.reduceLT, Nat.reduceEqDiff, Nat.reduceLeDiff, Int.reduceAdd, Int.reduceNeg, Int.reduceToNat, Int.cast_ofNat_Int, Int.reduceNatCast, Int.toNat_zero, Int.toNat_one, Int.reduceLE, Int.reduceLT, Int.reduceEq, Int.zero_add, Int.add_zero, or_false, false_or, or_true, true_or, and_true, true_and, and_false, false_and, reduceIte, not_true_eq_false, not_false_eq_true, forall_const, false_implies, true_implies, implies_true, ne_eq, reduceCtorEq, List.all_cons, List.all_nil, Bool.and_true, Bool.and_self, decide_eq_true_eq, decide_true, dX6_visitGoes_0, dX6_visitGoes_1, dX6_visitGoes_4, dX6_visitGoes_6, dX6_visitGoes_7, dX6_visitGoes_8, dX6_visitGoes_9, dX6_visitGoes_10, dX6_visitGoes_11, dX6_visitGoes_12, dX6_visitGoes_15, dX6_visitGoes_17, dX6_visitGoes_18, dX6_visitGoes_21, dX6_visitGoes_22, dX6_visitGoes_23, dX6_visitGoes_26, dX6_visitGoes_28, dX6_visitGoes_29, dX6_visitGoes_30, dX6_visitGoes_31, dX6_visitGoes_34, dX6_visitGoes_35, dX6_visitGoes_36, dX6_visitGoes_39, dX6_visitGoes_42, dX6_visitGoes_43, dX6_visitGoes_46, dX6_visitGoes_47, dX6_visitGoes_48, dX6_visitGoes_51, dX6_visitGoes_52, dX6_visitGoes_53, dX6_visitGoes_56, dX6_visitGoes_58, dX6_visitGoes_59, dX6_visitGoes_61, dX6_visitGoes_62, dX6_visitGoes_63, dX6_visitGoes_64, dX6_visitGoes_65, dX6_visitGoes_66, dX6_visitGoes_67, dX6_visitGoes_70, dX6_visitGoes_71, dX6_visitGoes_72, dX6_visitGoes_75, dX6_visitGoes_76, dX6_visitGoes_77, dX6_visitGoes_79, dX6_visitGoes_80, dX6_visitGoes_83, dX6_visitGoes_84, dX6_visitGoes_87, dX6_visitGoes_88, dX6_visitGoes_91, dX6_visitGoes_94, dX6_visitGoes_95, dX6_visitGoes_96, dX6_visitGoes_97, dX6_visitGoes_99, dX6_visitGoes_100, dX6_visitGoes_101, dX6_visitGoes_102, dX6_visitGoes_105, dX6_visitGoes_106, dX6_visitGoes_107, dX6_visitGoes_110, dX6_visitGoes_113, dX6_visitGoes_114, dX6_visitGoes_117, dX6_visitGoes_118, dX6_visitGoes_119, dX6_visitGoes_120, dX6_visitGoes_121, dX6_visitGoes_122, dX6_visitGoes_123, dX6_visitGoes_124, dX6_visitGoes_125, dX6_visitGoes_128, dX6_visitGoes_129, dX6_visitGoes_130, dX6_visitGoes_133, dX6_visitGoes_134, dX6_visitGoes_135, dX6_visitGoes_138, dX6_visitGoes_139, dX6_visitGoes_140, dX6_visitGoes_141, dX6_visitGoes_142, dX6_visitGoes_145, dX6_visitGoes_146, dX6_visitGoes_147, dX6_visitGoes_150, dX6_visitGoes_151, dX6_visitGoes_153, dX6_visitGoes_154, dX6_visitGoes_157, dX6_visitGoes_158, dX6_visitGoes_160, dX6_visitGoes_161, dX6_visitGoes_162, dX6_visitGoes_163, dX6_visitGoes_164, dX6_visitGoes_167, dX6_visitGoes_168, dX6_visitGoes_171, dX6_visitGoes_172, dX6_visitGoes_175, dX6_visitGoes_177, dX6_visitGoes_178, dX6_visitGoes_180, dX6_visitGoes_181, dX6_visitGoes_183, dX6_visitGoes_185, dX6_visitGoes_186, dX6_visitGoes_187, dX6_visitGoes_189, dX6_visitGoes_190, dX6_visitGoes_192, dX6_visitGoes_194, dX6_visitGoes_195, dX6_visitGoes_198, dX6_visitGoes_200, dX6_visitGoes_201, dX6_visitGoes_204, dX6_visitGoes_205, dX6_visitGoes_207, dX6_visitGoes_209, dX6_visitGoes_210, dX6_visitGoes_212, dX6_visitGoes_213, dX6_visitGoes_216, dX6_visitGoes_217, dX6_visitGoes_220, dX6_visitGoes_221, dX6_visitGoes_224, dX6_visitGoes_227, dX6_visitGoes_228, dX6_visitGoes_231, dX6_visitGoes_233, dX6_visitGoes_234, dX6_visitGoes_235, dX6_visitGoes_236, dX6_visitGoes_237, dX6_visitGoes_240, dX6_visitGoes_242, dX6_visitGoes_243, dX6_visitGoes_244, dX6_visitGoes_245, FX6_13, FX6_129, CX6_141, FX6_26, FX6_132, FX6_135, G_X6_visitGoes_160, G_X6_visitGoes_145, G_X6_visitGoes_152, G_X6_visitGoes_163, G_X6_visitGoes_142, G_X6_visitGoes_156, G_X6_visitGoes_167, kd_66, kd_67, kd_68, kd_69, kd_70, kd_71, kd_72, kd_73, kd_74, kd_75, kd_76, kd_77, kd_78, ln_66, ln_67, ln_68, ln_69, ln_70, ln_71, ln_72, ln_73, ln_74, ln_75, ln_76, ln_77, ln_78, T6_of, T6_becomesOf, T6_flag, T6_growsTo, T6_lesser, tn7_1, tn7_4, tn7_5, tn7_6, rI_wI, ne1, ne2, ne3, ne4, ne5, ne6, ne7, ne8, ne9, ne10, ne11, ne12, ne13, ne14, ne15, m1, m2]
  have k1 := key 1
  have k0 := key 0
  unfold tms at k1 k0
  by_cases e : 0 < s
  · have k1 := k1 (by rw [if_pos e])
    repeat' (first | exact trivial | omega | (with_reducible assumption) | exact absurd trivial (by with_reducible assumption) | contradiction | apply And.intro | intro _)
  · have k0 := k0 (by rw [if_neg e])
    repeat' (first | exact trivial | omega | (with_reducible assumption) | exact absurd trivial (by with_reducible assumption) | contradiction | apply And.intro | intro _)
def T6_visitGoes : TT := fun a μ K => match a with
  | [.inr (.inr o), .inl b] => o = 66 ∧ ((b = 0 ∨ b = 1) ∧ WF (rI μ 68) ∧ rI μ 68 38 ≤ 20000 ∧ (0 ≤ rI μ 68 39 ∧ rI μ 68 39 ≤ 999999) ∧ (0 ≤ rI μ 68 40 ∧ rI μ 68 40 ≤ 999999) ∧ InR (rI μ 66 13) ∧ ∀ μ', VP μ μ' (decide (b = 0 ∧ rI μ 68 36 ≠ rI μ 66 13)) → K [] μ')
  | _ => False
theorem rec_X6_visitGoes : ∀ a μ K, T6_visitGoes a μ K → ∃ k r, a = .inr (.inr k) :: r ∧ kd k = 6 := by
  intro a μ K h
  unfold T6_visitGoes at h
  split at h
  · exact ⟨_, _, rfl, by rw [h.1]; rfl⟩
  · exact h.elim
theorem gk_X6_visitGoes (l : Launch) : ∀ i n b T, G_X6_visitGoes i = some (n, b, T) → CallOK l 3 RX6 i n b T := by
  intro i n b T h
  have hm : (i, n, b, T) ∈ GL_X6_visitGoes := lk_mem h
  simp only [GL_X6_visitGoes, List.mem_cons, List.not_mem_nil, or_false, Prod.mk.injEq] at hm
  rcases hm with ⟨rfl, rfl, rfl, rfl⟩ | ⟨rfl, rfl, rfl, rfl⟩ | ⟨rfl, rfl, rfl, rfl⟩ | ⟨rfl, rfl, rfl, rfl⟩ | ⟨rfl, rfl, rfl, rfl⟩ | ⟨rfl, rfl, rfl, rfl⟩ | ⟨rfl, rfl, rfl, rfl⟩
  · exact CallOK.V (d := 3) (own := RX6) (i := 160) (n := 1) (ci := 6) (good_X6_sendsNow l) (by decide) (by decide) rfl (by decide) rec_X6_sendsNow (mg 781 (by decide +kernel) (by decide +kernel)) (mg 783 (by decide +kernel) (by decide +kernel)) (mgs 36 (by decide +kernel) (by decide +kernel)) (mg 7 (by decide +kernel) (by decide +kernel)) (mg 784 (by decide +kernel) (by decide +kernel)) (by decide +kernel)
  · exact CallOK.V (d := 3) (own := RX6) (i := 145) (n := 2) (ci := 6) (good_X6_of l) (by decide) (by decide) rfl (by decide) rec_X6_of (mg 777 (by decide +kernel) (by decide +kernel)) (mg 779 (by decide +kernel) (by decide +kernel)) (mgs 35 (by decide +kernel) (by decide +kernel)) (mg 7 (by decide +kernel) (by decide +kernel)) (mg 780 (by decide +kernel) (by decide +kernel)) (by decide +kernel)
  · exact CallOK.V (d := 3) (own := RX6) (i := 152) (n := 3) (ci := 6) (good_X6_becomesOf l) (by decide) (by decide) rfl (by decide) rec_X6_becomesOf (mg 823 (by decide +kernel) (by decide +kernel)) (mg 825 (by decide +kernel) (by decide +kernel)) (mgs 41 (by decide +kernel) (by decide +kernel)) (mg 7 (by decide +kernel) (by decide +kernel)) (mg 826 (by decide +kernel) (by decide +kernel)) (by decide +kernel)
  · exact CallOK.S (d := 3) (own := RX6) (i := 163) (n := 1) (good_X6_flag l) (by decide) (by decide) (mg 857 (by decide +kernel) (by decide +kernel)) (mg 858 (by decide +kernel) (by decide +kernel)) (mg 7 (by decide +kernel) (by decide +kernel)) (mg 859 (by decide +kernel) (by decide +kernel)) (by decide +kernel)
  · exact CallOK.S (d := 3) (own := RX6) (i := 142) (n := 2) (good_X6_lesser l) (by decide) (by decide) (mg 785 (by decide +kernel) (by decide +kernel)) (mg 786 (by decide +kernel) (by decide +kernel)) (mg 7 (by decide +kernel) (by decide +kernel)) (mg 787 (by decide +kernel) (by decide +kernel)) (by decide +kernel)
  · exact CallOK.V (d := 3) (own := RX6) (i := 156) (n := 2) (ci := 6) (good_X6_growsTo l) (by decide) (by decide) rfl (by decide) rec_X6_growsTo (mg 827 (by decide +kernel) (by decide +kernel)) (mg 829 (by decide +kernel) (by decide +kernel)) (mgs 42 (by decide +kernel) (by decide +kernel)) (mg 7 (by decide +kernel) (by decide +kernel)) (mg 830 (by decide +kernel) (by decide +kernel)) (by decide +kernel)
  · exact CallOK.V (d := 3) (own := RX6) (i := 167) (n := 2) (ci := 6) (good_X6_comesTo l) (by decide) (by decide) rfl (by decide) rec_X6_comesTo (mg 819 (by decide +kernel) (by decide +kernel)) (mg 821 (by decide +kernel) (by decide +kernel)) (mgs 40 (by decide +kernel) (by decide +kernel)) (mg 7 (by decide +kernel) (by decide +kernel)) (mg 822 (by decide +kernel) (by decide +kernel)) (by decide +kernel)
set_option maxRecDepth 20000 in
set_option maxHeartbeats 4000000 in
theorem body_X6_visitGoes (o : Nat) (b : Int) (μ : Mem) (K : List AV → Mem → Prop) (V : Nat → List (Option AV) → List AV → Mem → Prop) (hV : Clos FX6 CX6 G_X6_visitGoes 0 K cX6_visitGoes V) (hT : o = 66 ∧ ((b = 0 ∨ b = 1) ∧ WF (rI μ 68) ∧ rI μ 68 38 ≤ 20000 ∧ (0 ≤ rI μ 68 39 ∧ rI μ 68 39 ≤ 999999) ∧ (0 ≤ rI μ 68 40 ∧ rI μ 68 40 ≤ 999999) ∧ InR (rI μ 66 13) ∧ ∀ μ', VP μ μ' (decide (b = 0 ∧ rI μ 68 36 ≠ rI μ 66 13)) → K [] μ')) : V 0 [some (.inr (.inr o)), some (.inl b), none, none, none, none, none] [] μ := by
  obtain ⟨rfl, hb, hW, h38, h39, h40, hp, hK⟩ := hT
  simp only [InR] at hp
  have hW' := hW
  obtain ⟨w1, w2, w3, w4⟩ := hW
  apply hV [51] 60
  simp only [InR, InL, inb, Int.toNat_natCast, wp1, wpc_z, wpc_s, stp_iconst, stp_bipush, stp_sipush, stp_lconst, stp_iload_n, stp_iload, stp_lload_n, stp_lload, stp_aload_n, stp_aload, stp_istore_n, stp_istore, stp_lstore_n, stp_lstore, stp_astore_n, stp_astore, stp_iinc, stp_iadd, stp_isub, stp_imul, stp_ineg, stp_idiv, stp_irem, stp_ladd, stp_lmul, stp_ldiv, stp_lrem, stp_ishl, stp_ishr, stp_iushr, stp_iand, stp_ior, stp_i2l, stp_i2b, stp_i2s, stp_lcmp, stp_dup, stp_dup2, stp_pop, stp_ifCond, stp_if_icmp, stp_goto, stp_tableswitch, stp_lookupswitch, stp_ldc, stp_ldc2_w, stp_getstatic, stp_getfield, stp_putfield, stp_iaload, stp_baload, stp_iastore, stp_bastore, stp_aaload, stp_aastore, stp_invokevirtual, stp_invokestatic, stp_ireturn, stp_lreturn, stp_return_, lg, lset, okl, spl, wd, c1, cnd, tg, swT, swL, f4_0, f4_1, f4_2, f4_3, f2_0, f2_1, List.mem_cons, List.not_mem_nil, List.length_cons, List.length_nil, List.cons_append, List.nil_append, Nat.reduceAdd, Nat.reduceMul, Nat.reduceLT, Nat.reduceEqDiff, Nat.reduceLeDiff, Int.reduceAdd, Int.reduceNeg, Int.reduceToNat, Int.cast_ofNat_Int, Int.reduceNatCast, Int.toNat_zero, Int.toNat_one, Int.reduceLE, Int.reduceLT, Int.reduceEq, Int.zero_add, Int.add_zero, or_false, false_or, or_true, true_or, and_true, true_and, and_false, false_and, reduceIte, not_true_eq_false, not_false_eq_true, forall_const, false_implies, true_implies, implies_true, ne_eq, reduceCtorEq, List.all_cons, List.all_nil, Bool.and_true, Bool.and_self, decide_eq_true_eq, decide_true, dX6_visitGoes_0, dX6_visitGoes_1, dX6_visitGoes_4, dX6_visitGoes_6, dX6_visitGoes_7, dX6_visitGoes_8, dX6_visitGoes_9, dX6_visitGoes_10, dX6_visitGoes_11, dX6_visitGoes_12, dX6_visitGoes_15, dX6_visitGoes_17, dX6_visitGoes_18, dX6_visitGoes_21, dX6_visitGoes_22, dX6_visitGoes_23, dX6_visitGoes_26, dX6_visitGoes_28, dX6_visitGoes_29, dX6_visitGoes_30, dX6_visitGoes_31, dX6_visitGoes_34, dX6_visitGoes_35, dX6_visitGoes_36, dX6_visitGoes_39, dX6_visitGoes_42, dX6_visitGoes_43, dX6_visitGoes_46, dX6_visitGoes_47, dX6_visitGoes_48, dX6_visitGoes_51, dX6_visitGoes_52, dX6_visitGoes_53, dX6_visitGoes_56, dX6_visitGoes_58, dX6_visitGoes_59, dX6_visitGoes_61, dX6_visitGoes_62, dX6_visitGoes_63, dX6_visitGoes_64, dX6_visitGoes_65, dX6_visitGoes_66, dX6_visitGoes_67, dX6_visitGoes_70, dX6_visitGoes_71, dX6_visitGoes_72, dX6_visitGoes_75, dX6_visitGoes_76, dX6_visitGoes_77, dX6_visitGoes_79, dX6_visitGoes_80, dX6_visitGoes_83, dX6_visitGoes_84, dX6_visitGoes_87, dX6_visitGoes_88, dX6_visitGoes_91, dX6_visitGoes_94, dX6_visitGoes_95, dX6_visitGoes_96, dX6_visitGoes_97, dX6_visitGoes_99, dX6_visitGoes_100, dX6_visitGoes_101, dX6_visitGoes_102, dX6_visitGoes_105, dX6_visitGoes_106, dX6_visitGoes_107, dX6_visitGoes_110, dX6_visitGoes_113, dX6_visitGoes_114, dX6_visitGoes_117, dX6_visitGoes_118, dX6_visitGoes_119, dX6_visitGoes_120, dX6_visitGoes_121, dX6_visitGoes_122, dX6_visitGoes_123, dX6_visitGoes_124, dX6_visitGoes_125, dX6_visitGoes_128, dX6_visitGoes_129, dX6_visitGoes_130, dX6_visitGoes_133, dX6_visitGoes_134, dX6_visitGoes_135, dX6_visitGoes_138, dX6_visitGoes_139, dX6_visitGoes_140, dX6_visitGoes_141, dX6_visitGoes_142, dX6_visitGoes_145, dX6_visitGoes_146, dX6_visitGoes_147, dX6_visitGoes_150, dX6_visitGoes_151, dX6_visitGoes_153, dX6_visitGoes_154, dX6_visitGoes_157, dX6_visitGoes_158, dX6_visitGoes_160, dX6_visitGoes_161, dX6_visitGoes_162, dX6_visitGoes_163, dX6_visitGoes_164, dX6_visitGoes_167, dX6_visitGoes_168, dX6_visitGoes_171, dX6_visitGoes_172, dX6_visitGoes_175, dX6_visitGoes_177, dX6_visitGoes_178, dX6_visitGoes_180, dX6_visitGoes_181, dX6_visitGoes_183, dX6_visitGoes_185, dX6_visitGoes_186, dX6_visitGoes_187, dX6_visitGoes_189, dX6_visitGoes_190, dX6_visitGoes_192, dX6_visitGoes_194, dX6_visitGoes_195, dX6_visitGoes_198, dX6_visitGoes_200, dX6_visitGoes_201, dX6_visitGoes_204, dX6_visitGoes_205, dX6_visitGoes_207, dX6_visitGoes_209, dX6_visitGoes_210, dX6_visitGoes_212, dX6_visitGoes_213, dX6_visitGoes_216, dX6_visitGoes_217, dX6_visitGoes_220, dX6_visitGoes_221, dX6_visitGoes_224, dX6_visitGoes_227, dX6_visitGoes_228, dX6_visitGoes_231, dX6_visitGoes_233, dX6_visitGoes_234, dX6_visitGoes_235, dX6_visitGoes_236, dX6_visitGoes_237, dX6_visitGoes_240, dX6_visitGoes_242, dX6_visitGoes_243, dX6_visitGoes_244, dX6_visitGoes_245, FX6_13, FX6_129, CX6_141, FX6_26, FX6_132, FX6_135, G_X6_visitGoes_160, G_X6_visitGoes_145, G_X6_visitGoes_152, G_X6_visitGoes_163, G_X6_visitGoes_142, G_X6_visitGoes_156, G_X6_visitGoes_167, kd_66, kd_67, kd_68, kd_69, kd_70, kd_71, kd_72, kd_73, kd_74, kd_75, kd_76, kd_77, kd_78, ln_66, ln_67, ln_68, ln_69, ln_70, ln_71, ln_72, ln_73, ln_74, ln_75, ln_76, ln_77, ln_78, T6_sendsNow, rI_wI]
  by_cases h0 : rI μ 68 35 = 0
  · have h := hK (wI μ 68 38 (rI μ 68 38 + 1)) (by
      refine ⟨?_, ?_, ?_, ?_, ?_, ?_, ?_, ?_, ?_, ?_, ?_⟩
      · intro j hj
        simp only [rI_wI, nxt, if_pos h0, upF]
        by_cases e : j = 38 <;> simp [e]
      · simp only [rI_wI, sndI, if_pos h0]; simp; omega
      · simp only [rI_wI, lstI, if_pos h0]; simp; omega
      · intro j hj
        simp only [rI_wI]
        rw [if_neg (by omega)]
      · simp only [rI_wI, sndI, if_pos h0]; simp
      · simp only [rI_wI, nxt, if_pos h0, upF]; simp
      · simp only [rI_wI, lstI, if_pos h0]; simp
      · intro j _ _ _; simp [rI_wI]
      · intro j _; simp [rI_wI, h0]
      · intro a _ h2 _ j; simp [rI_wI, h2]
      · intro a j; rfl)
    repeat' (first | exact trivial | omega | (with_reducible assumption) | exact absurd trivial (by with_reducible assumption) | contradiction | apply And.intro | intro _)
  · have w2 := w2 h0
    obtain ⟨i, hi⟩ := Int.eq_ofNat_of_zero_le w2.1
    have hSv : ∀ k : Nat, (k : Int) < rI μ 68 35 → SOK (rI (wI μ 68 38 (rI μ 68 38 + 1)) 68) k := by
      intro k hk
      exact SOK_congr (fun x hx => by rw [rI_wI, if_neg (by omega)]) (by rw [rI_wI, if_pos ⟨rfl, rfl⟩]; omega) (by omega) (w4 k hk)
    have k51 := fun (s : Int) (hs : s = sndI (rI μ 68) (decide (b = 0 ∧ rI μ 68 36 ≠ rI μ 66 13))) => b_visit51 V K hV μ b s _ hs hW' h0 h38 h39 h40 hK
    by_cases eb : b = 0
    · by_cases ep : rI μ 68 36 = rI μ 66 13
      · have k := k51 0 (by simp [sndI, ep])
        subst eb
        repeat' (first | exact trivial | omega | (with_reducible assumption) | exact absurd trivial (by with_reducible assumption) | contradiction | apply And.intro | intro _)
      · have k := k51 (due (rI μ 68) i) (by
          simp only [sndI, if_neg h0]
          rw [if_pos (by simp [eb, ep]), hi, Int.toNat_natCast])
        have ed : due (rI (wI μ 68 38 (rI μ 68 38 + 1)) 68) i = due (rI μ 68) i := by
          exact due_congr (fun x hx => by rw [rI_wI, if_neg (by omega)]) (by omega) (by omega)
        subst eb
        simp only [hi, Int.toNat_natCast, ed]
        rw [hi] at ep k
        repeat' (first | exact trivial | omega | (with_reducible assumption) | exact absurd trivial (by with_reducible assumption) | contradiction | apply And.intro | intro _)
        all_goals first | exact hSv _ (by omega) | (rw [← hi]; assumption) | omega
    · have eb1 : b = 1 := by omega
      have k := k51 0 (by simp [sndI, eb])
      subst eb1
      repeat' (first | exact trivial | omega | (with_reducible assumption) | exact absurd trivial (by with_reducible assumption) | contradiction | apply And.intro | intro _)
theorem good_X6_visitGoes (l : Launch) : Good l 3 yX6_visitGoes cX6_visitGoes 7 none T6_visitGoes := by
  refine Good.mk 0 (by decide) rfl (by simp [retOK]) FOK6 COK6 (gk_X6_visitGoes l) ?_ ?_
  · intro a μ K h
    unfold T6_visitGoes at h
    split at h
    · simp [entl]
    · exact h.elim
  · intro a μ K V hV h
    unfold T6_visitGoes at h
    split at h
    · exact body_X6_visitGoes _ _ μ K V hV h
    · exact h.elim
end
section
/-! the class: rings. A ring at B stands for a flat state f -/
theorem ringk0 : ∀ B, B < 79 → kd B = 1 → kd (B + 1) = 12 ∧ ln (B + 1) = 5 ∧ ∀ t, t < 5 → kd (B + 2 + t) = 7 ∧ ln (B + 2 + t) = 7 := by decide +kernel
theorem ringk {B : Nat} (h : kd B = 1) : kd (B + 1) = 12 ∧ ln (B + 1) = 5 ∧ ∀ k, B + 2 ≤ k → k ≤ B + 6 → kd k = 7 ∧ ln k = 7 := by
  obtain ⟨h1, h2, h3⟩ := ringk0 B (kd_lt h (by omega) (by omega)) h
  refine ⟨h1, h2, fun k a b => ?_⟩
  have := h3 (k - (B + 2)) (by omega)
  rw [show B + 2 + (k - (B + 2)) = k by omega] at this
  exact this
def RP (μ : Mem) (B : Nat) : Prop := (∀ i, i < 5 → B + 2 ≤ rR μ (B + 1) i ∧ rR μ (B + 1) i ≤ B + 6) ∧ ∀ i j, i < 5 → j < 5 → rR μ (B + 1) i = rR μ (B + 1) j → i = j
def RG (μ : Mem) (B : Nat) (f : Nat → Int) : Prop := RP μ B ∧ rI μ B 1 = f 35 ∧ rI μ B 2 = (if f 35 = 0 then -4 else f 36) ∧ rI μ B 3 = f 37 ∧ rI μ B 4 = f 38 ∧ ∀ i t : Nat, (i : Int) < f 35 → t < 7 → rI μ (rR μ (B + 1) i) t = f (7 * i + t)
/-- nothing but the ring at B has changed, its rows' order neither -/
def FR (B : Nat) (μ μ' : Mem) : Prop := (∀ k, (k < B ∨ B + 6 < k) → ∀ j, rI μ' k j = rI μ k j) ∧ ∀ k j, rR μ' k j = rR μ k j
theorem FR.rf {B : Nat} {μ : Mem} : FR B μ μ := ⟨fun _ _ _ => rfl, fun _ _ => rfl⟩
theorem FR.tr {B : Nat} {μ ν ρ : Mem} (h : FR B μ ν) (h2 : FR B ν ρ) : FR B μ ρ := ⟨fun k hk j => (h2.1 k hk j).trans (h.1 k hk j), fun k j => (h2.2 k j).trans (h.2 k j)⟩
theorem RP.of {μ μ' : Mem} {B : Nat} (h : RP μ B) (e : ∀ j, rR μ' (B + 1) j = rR μ (B + 1) j) : RP μ' B := by
  refine ⟨fun i hi => ?_, fun i j hi hj => ?_⟩
  · rw [e]; exact h.1 i hi
  · rw [e, e]; exact h.2 i j hi hj
theorem elr {μ : Mem} {B : Nat} (h : kd (B + 1) = 12) (j : Nat) : el μ (B + 1) j = rR μ (B + 1) j := if_pos h
def T5_isOutside : TT := fun a μ K => match a with
  | [.inl v, .inl lo, .inl hi] => InR v ∧ InR lo ∧ InR hi ∧ (¬ (lo ≤ v ∧ v ≤ hi) → K [.inl 1] μ) ∧ (lo ≤ v ∧ v ≤ hi → K [.inl 0] μ)
  | _ => False
def GL_X5_isOutside : List (Nat × Nat × Bool × TT) := []
def G_X5_isOutside : Nat → Option (Nat × Bool × TT) := fun i => GL_X5_isOutside.lookup i
theorem gk_X5_isOutside (l : Launch) : ∀ i n b T, G_X5_isOutside i = some (n, b, T) → CallOK l 0 RX5 i n b T := by
  intro i n b T h
  have hm : (i, n, b, T) ∈ GL_X5_isOutside := lk_mem h
  simp [GL_X5_isOutside] at hm
set_option maxRecDepth 20000 in
set_option maxHeartbeats 4000000 in
theorem body_X5_isOutside (v : Int) (lo : Int) (hi : Int) (μ : Mem) (K : List AV → Mem → Prop) (V : Nat → List (Option AV) → List AV → Mem → Prop) (hV : Clos FX5 CX5 G_X5_isOutside 2 K cX5_isOutside V) (hT : InR v ∧ InR lo ∧ InR hi ∧ (¬ (lo ≤ v ∧ v ≤ hi) → K [.inl 1] μ) ∧ (lo ≤ v ∧ v ≤ hi → K [.inl 0] μ)) : V 0 [some (.inl v), some (.inl lo), some (.inl hi)] [] μ := by
  simp only [InR] at hT
  obtain ⟨h1, h2, h3, h4, h5⟩ := hT
  apply hV [] 60
  simp only [InR, InL, inb, Int.toNat_natCast, wp1, wpc_z, wpc_s, stp_iconst, stp_bipush, stp_sipush, stp_lconst, stp_iload_n, stp_iload, stp_lload_n, stp_lload, stp_aload_n, stp_aload, stp_istore_n, stp_istore, stp_lstore_n, stp_lstore, stp_astore_n, stp_astore, stp_iinc, stp_iadd, stp_isub, stp_imul, stp_ineg, stp_idiv, stp_irem, stp_ladd, stp_lmul, stp_ldiv, stp_lrem, stp_ishl, stp_ishr, stp_iushr, stp_iand, stp_ior, stp_i2l, stp_i2b, stp_i2s, stp_lcmp, stp_dup, stp_dup2, stp_pop, stp_ifCond, stp_if_icmp, stp_goto, stp_tableswitch, stp_lookupswitch, stp_ldc, stp_ldc2_w, stp_getstatic, stp_getfield, stp_putfield, stp_iaload, stp_baload, stp_iastore, stp_bastore, stp_aaload, stp_aastore, stp_invokevirtual, stp_invokestatic, stp_ireturn, stp_lreturn, stp_return_, lg, lset, okl, spl, wd, c1, cnd, tg, swT, swL, f4_0, f4_1, f4_2, f4_3, f2_0, f2_1, List.mem_cons, List.not_mem_nil, List.length_cons, List.length_nil, List.cons_append, List.nil_append, Nat.reduceAdd, Nat.reduceMul, Nat.reduceLT, Nat.reduceEqDiff, Nat.reduceLeDiff, Int.reduceAdd, Int.reduceNeg, Int.reduceToNat, Int.cast_ofNat_Int, Int.reduceNatCast, Int.toNat_zero, Int.toNat_one, Int.reduceLE, Int.reduceLT, Int.reduceEq, Int.zero_add, Int.add_zero, or_false, false_or, or_true, true_or, and_true, true_and, and_false, false_and, reduceIte, not_true_eq_false, not_false_eq_true, forall_const, false_implies, true_implies, implies_true, ne_eq, reduceCtorEq, List.all_cons, List.all_nil, Bool.and_true, Bool.and_self, decide_eq_true_eq, decide_true, dX5_isOutside_0, dX5_isOutside_1, dX5_isOutside_2, dX5_isOutside_5, dX5_isOutside_6, dX5_isOutside_7, dX5_isOutside_10, dX5_isOutside_11, dX5_isOutside_14, dX5_isOutside_15]
  repeat' (first | exact trivial | omega | (with_reducible assumption) | exact absurd trivial (by with_reducible assumption) | contradiction | apply And.intro | intro _)
  all_goals first | exact h4 (by omega) | exact h5 ⟨by omega, by omega⟩
theorem good_X5_isOutside (l : Launch) : Good l 0 yX5_isOutside cX5_isOutside 3 (some .boolean) T5_isOutside := by
  refine Good.mk 2 (by decide) rfl (by simp [retOK]) FOK5 COK5 (gk_X5_isOutside l) ?_ ?_
  · intro a μ K h
    unfold T5_isOutside at h
    split at h
    · simp [entl]
    · exact h.elim
  · intro a μ K V hV h
    unfold T5_isOutside at h
    split at h
    · exact body_X5_isOutside _ _ _ μ K V hV h
    · exact h.elim

def T1_has : TT := fun a μ K => match a with
  | [.inr (.inr B), .inl i] => kd B = 1 ∧ (InR i ∧ (0 ≤ rI μ B 1 ∧ rI μ B 1 ≤ 5) ∧ (0 ≤ i ∧ i < rI μ B 1 → K [.inl 1] μ) ∧ (¬ (0 ≤ i ∧ i < rI μ B 1) → K [.inl 0] μ))
  | _ => False
theorem rec_X1_has : ∀ a μ K, T1_has a μ K → ∃ k r, a = .inr (.inr k) :: r ∧ kd k = 1 := by
  intro a μ K h
  unfold T1_has at h
  split at h
  · exact ⟨_, _, rfl, h.1⟩
  · exact h.elim
def GL_X1_has : List (Nat × Nat × Bool × TT) := []
def G_X1_has : Nat → Option (Nat × Bool × TT) := fun i => GL_X1_has.lookup i
theorem gk_X1_has (l : Launch) : ∀ i n b T, G_X1_has i = some (n, b, T) → CallOK l 0 RX1 i n b T := by
  intro i n b T h
  have hm : (i, n, b, T) ∈ GL_X1_has := lk_mem h
  simp [GL_X1_has] at hm
set_option maxRecDepth 20000 in
set_option maxHeartbeats 4000000 in
theorem body_X1_has (B : Nat) (i : Int) (μ : Mem) (K : List AV → Mem → Prop) (V : Nat → List (Option AV) → List AV → Mem → Prop) (hV : Clos FX1 CX1 G_X1_has 2 K cX1_has V) (hT : kd B = 1 ∧ (InR i ∧ (0 ≤ rI μ B 1 ∧ rI μ B 1 ≤ 5) ∧ (0 ≤ i ∧ i < rI μ B 1 → K [.inl 1] μ) ∧ (¬ (0 ≤ i ∧ i < rI μ B 1) → K [.inl 0] μ))) : V 0 [some (.inr (.inr B)), some (.inl i)] [] μ := by
  simp only [InR] at hT
  obtain ⟨hB, h1, h2, h3, h4⟩ := hT
  apply hV [] 60
  simp only [InR, InL, inb, Int.toNat_natCast, wp1, wpc_z, wpc_s, stp_iconst, stp_bipush, stp_sipush, stp_lconst, stp_iload_n, stp_iload, stp_lload_n, stp_lload, stp_aload_n, stp_aload, stp_istore_n, stp_istore, stp_lstore_n, stp_lstore, stp_astore_n, stp_astore, stp_iinc, stp_iadd, stp_isub, stp_imul, stp_ineg, stp_idiv, stp_irem, stp_ladd, stp_lmul, stp_ldiv, stp_lrem, stp_ishl, stp_ishr, stp_iushr, stp_iand, stp_ior, stp_i2l, stp_i2b, stp_i2s, stp_lcmp, stp_dup, stp_dup2, stp_pop, stp_ifCond, stp_if_icmp, stp_goto, stp_tableswitch, stp_lookupswitch, stp_ldc, stp_ldc2_w, stp_getstatic, stp_getfield, stp_putfield, stp_iaload, stp_baload, stp_iastore, stp_bastore, stp_aaload, stp_aastore, stp_invokevirtual, stp_invokestatic, stp_ireturn, stp_lreturn, stp_return_, lg, lset, okl, spl, wd, c1, cnd, tg, swT, swL, f4_0, f4_1, f4_2, f4_3, f2_0, f2_1, List.mem_cons, List.not_mem_nil, List.length_cons, List.length_nil, List.cons_append, List.nil_append, Nat.reduceAdd, Nat.reduceMul, Nat.reduceLT, Nat.reduceEqDiff, Nat.reduceLeDiff, Int.reduceAdd, Int.reduceNeg, Int.reduceToNat, Int.cast_ofNat_Int, Int.reduceNatCast, Int.toNat_zero, Int.toNat_one, Int.reduceLE, Int.reduceLT, Int.reduceEq, Int.zero_add, Int.add_zero, or_false, false_or, or_true, true_or, and_true, true_and, and_false, false_and, reduceIte, not_true_eq_false, not_false_eq_true, forall_const, false_implies, true_implies, implies_true, ne_eq, reduceCtorEq, List.all_cons, List.all_nil, Bool.and_true, Bool.and_self, decide_eq_true_eq, decide_true, dX1_has_0, dX1_has_1, dX1_has_4, dX1_has_5, dX1_has_6, dX1_has_9, dX1_has_12, dX1_has_13, dX1_has_16, dX1_has_17, FX1_20, hB]
  repeat' (first | exact trivial | omega | (with_reducible assumption) | exact absurd trivial (by with_reducible assumption) | contradiction | apply And.intro | intro _)
  all_goals first | exact h3 ⟨by omega, by omega⟩ | exact h4 (by omega)
theorem good_X1_has (l : Launch) : Good l 0 yX1_has cX1_has 2 (some .boolean) T1_has := by
  refine Good.mk 2 (by decide) rfl (by simp [retOK]) FOK1 COK1 (gk_X1_has l) ?_ ?_
  · intro a μ K h
    unfold T1_has at h
    split at h
    · simp [entl]
    · exact h.elim
  · intro a μ K V hV h
    unfold T1_has at h
    split at h
    · exact body_X1_has _ _ μ K V hV h
    · exact h.elim

def T1_takes : TT := fun a μ K => match a with
  | [.inr (.inr B), .inl i, .inl n] => kd B = 1 ∧ (InR i ∧ InR n ∧ (0 ≤ rI μ B 1 ∧ rI μ B 1 ≤ 5) ∧ ((0 ≤ i ∧ i < rI μ B 1) ∧ 0 ≤ n ∧ n ≤ 99 → K [.inl 1] μ) ∧ (¬ ((0 ≤ i ∧ i < rI μ B 1) ∧ 0 ≤ n ∧ n ≤ 99) → K [.inl 0] μ))
  | _ => False
theorem rec_X1_takes : ∀ a μ K, T1_takes a μ K → ∃ k r, a = .inr (.inr k) :: r ∧ kd k = 1 := by
  intro a μ K h
  unfold T1_takes at h
  split at h
  · exact ⟨_, _, rfl, h.1⟩
  · exact h.elim
def GL_X1_takes : List (Nat × Nat × Bool × TT) := [(41, 2, false, T1_has), (45, 3, true, T5_isOutside)]
def G_X1_takes : Nat → Option (Nat × Bool × TT) := fun i => GL_X1_takes.lookup i
theorem G_X1_takes_41 : G_X1_takes 41 = some (2, false, T1_has) := rfl
theorem G_X1_takes_45 : G_X1_takes 45 = some (3, true, T5_isOutside) := rfl
theorem gk_X1_takes (l : Launch) : ∀ i n b T, G_X1_takes i = some (n, b, T) → CallOK l 1 RX1 i n b T := by
  intro i n b T h
  have hm : (i, n, b, T) ∈ GL_X1_takes := lk_mem h
  simp only [GL_X1_takes, List.mem_cons, List.not_mem_nil, or_false, Prod.mk.injEq] at hm
  rcases hm with ⟨rfl, rfl, rfl, rfl⟩ | ⟨rfl, rfl, rfl, rfl⟩
  · exact CallOK.V (d := 1) (own := RX1) (i := 41) (n := 1) (ci := 1) (good_X1_has l) (by decide) (by decide) rfl (by decide) rec_X1_has (mg 339 (by decide +kernel) (by decide +kernel)) (mg 313 (by decide +kernel) (by decide +kernel)) (mg 314 (by decide +kernel) (by decide +kernel)) (mg 2 (by decide +kernel) (by decide +kernel)) (mg 315 (by decide +kernel) (by decide +kernel)) (by decide +kernel)
  · exact CallOK.N (d := 1) (own := RX1) (i := 45) (n := 3) (good_X5_isOutside l) (by decide) (by decide) (by decide +kernel) (mg 192 (by decide +kernel) (by decide +kernel)) (mg 1 (by decide +kernel) (by decide +kernel)) (mg 193 (by decide +kernel) (by decide +kernel)) (by decide +kernel)
set_option maxRecDepth 20000 in
set_option maxHeartbeats 4000000 in
theorem body_X1_takes (B : Nat) (i : Int) (n : Int) (μ : Mem) (K : List AV → Mem → Prop) (V : Nat → List (Option AV) → List AV → Mem → Prop) (hV : Clos FX1 CX1 G_X1_takes 2 K cX1_takes V) (hT : kd B = 1 ∧ (InR i ∧ InR n ∧ (0 ≤ rI μ B 1 ∧ rI μ B 1 ≤ 5) ∧ ((0 ≤ i ∧ i < rI μ B 1) ∧ 0 ≤ n ∧ n ≤ 99 → K [.inl 1] μ) ∧ (¬ ((0 ≤ i ∧ i < rI μ B 1) ∧ 0 ≤ n ∧ n ≤ 99) → K [.inl 0] μ))) : V 0 [some (.inr (.inr B)), some (.inl i), some (.inl n)] [] μ := by
  simp only [InR] at hT
  obtain ⟨hB, h1, h0, h2, h3, h4⟩ := hT
  apply hV [] 60
  simp only [InR, InL, inb, Int.toNat_natCast, wp1, wpc_z, wpc_s, stp_iconst, stp_bipush, stp_sipush, stp_lconst, stp_iload_n, stp_iload, stp_lload_n, stp_lload, stp_aload_n, stp_aload, stp_istore_n, stp_istore, stp_lstore_n, stp_lstore, stp_astore_n, stp_astore, stp_iinc, stp_iadd, stp_isub, stp_imul, stp_ineg, stp_idiv, stp_irem, stp_ladd, stp_lmul, stp_ldiv, stp_lrem, stp_ishl, stp_ishr, stp_iushr, stp_iand, stp_ior, stp_i2l, stp_i2b, stp_i2s, stp_lcmp, stp_dup, stp_dup2, stp_pop, stp_ifCond, stp_if_icmp, stp_goto, stp_tableswitch, stp_lookupswitch, stp_ldc, stp_ldc2_w, stp_getstatic, stp_getfield, stp_putfield, stp_iaload, stp_baload, stp_iastore, stp_bastore, stp_aaload, stp_aastore, stp_invokevirtual, stp_invokestatic, stp_ireturn, stp_lreturn, stp_return_, lg, lset, okl, spl, wd, c1, cnd, tg, swT, swL, f4_0, f4_1, f4_2, f4_3, f2_0, f2_1, List.mem_cons, List.not_mem_nil, List.length_cons, List.length_nil, List.cons_append, List.nil_append, Nat.reduceAdd, Nat.reduceMul, Nat.reduceLT, Nat.reduceEqDiff, Nat.reduceLeDiff, Int.reduceAdd, Int.reduceNeg, Int.reduceToNat, Int.cast_ofNat_Int, Int.reduceNatCast, Int.toNat_zero, Int.toNat_one, Int.reduceLE, Int.reduceLT, Int.reduceEq, Int.zero_add, Int.add_zero, or_false, false_or, or_true, true_or, and_true, true_and, and_false, false_and, reduceIte, not_true_eq_false, not_false_eq_true, forall_const, false_implies, true_implies, implies_true, ne_eq, reduceCtorEq, List.all_cons, List.all_nil, Bool.and_true, Bool.and_self, decide_eq_true_eq, decide_true, dX1_takes_0, dX1_takes_1, dX1_takes_2, dX1_takes_5, dX1_takes_8, dX1_takes_9, dX1_takes_10, dX1_takes_12, dX1_takes_15, dX1_takes_18, dX1_takes_19, dX1_takes_22, dX1_takes_23, G_X1_takes_41, G_X1_takes_45, hB, T1_has, T5_isOutside]
  repeat' (first | exact trivial | omega | (with_reducible assumption) | exact absurd trivial (by with_reducible assumption) | contradiction | apply And.intro | intro _)
  all_goals first | exact h3 ⟨⟨by omega, by omega⟩, by omega, by omega⟩ | exact h4 (by omega)
theorem good_X1_takes (l : Launch) : Good l 1 yX1_takes cX1_takes 3 (some .boolean) T1_takes := by
  refine Good.mk 2 (by decide) rfl (by simp [retOK]) FOK1 COK1 (gk_X1_takes l) ?_ ?_
  · intro a μ K h
    unfold T1_takes at h
    split at h
    · simp [entl]
    · exact h.elim
  · intro a μ K V hV h
    unfold T1_takes at h
    split at h
    · exact body_X1_takes _ _ _ μ K V hV h
    · exact h.elim

def GL_X1_total : List (Nat × Nat × Bool × TT) := []
def G_X1_total : Nat → Option (Nat × Bool × TT) := fun i => GL_X1_total.lookup i

set_option maxRecDepth 20000 in
set_option maxHeartbeats 4000000 in
theorem lp_total (V : Nat → List (Option AV) → List AV → Mem → Prop) (K : List AV → Mem → Prop) (hV : Clos FX1 CX1 G_X1_total 1 K cX1_total V) (μ : Mem) (B : Nat) (hB : kd B = 1) (f : Nat → Int) (hR : RG μ B f) (w : Nat) (hw : w < 7) (hm : 0 ≤ f 35 ∧ f 35 ≤ 5) (hK : K [.inl (sumF f w (f 35).toNat)] μ) : ∀ m n : Nat, n + m = (f 35).toNat → V 4 [some (.inr (.inr B)), some (.inl (w : Int)), some (.inl (sumF f w n)), some (.inl (n : Int))] [] μ := by
  obtain ⟨r1, r2, r3, r4, r5, r6⟩ := hR
  obtain ⟨k12, l5, k7⟩ := ringk hB
  intro m
  induction m with
  | zero =>
    intro n hn
    apply hV [4] 40
    simp only [InR, InL, inb, Int.toNat_natCast, wp1, wpc_z, wpc_s, stp_iconst, stp_bipush, stp_sipush, stp_lconst, stp_iload_n, stp_iload, stp_lload_n, stp_lload, stp_aload_n, stp_aload, stp_istore_n, stp_istore, stp_lstore_n, stp_lstore, stp_astore_n, stp_astore, stp_iinc, stp_iadd, stp_isub, stp_imul, stp_ineg, stp_idiv, stp_irem, stp_ladd, stp_lmul, stp_ldiv, stp_lrem, stp_ishl, stp_ishr, stp_iushr, stp_iand, stp_ior, stp_i2l, stp_i2b, stp_i2s, stp_lcmp, stp_dup, stp_dup2, stp_pop, stp_ifCond, stp_if_icmp, stp_goto, stp_tableswitch, stp_lookupswitch, stp_ldc, stp_ldc2_w, stp_getstatic, stp_getfield, stp_putfield, stp_iaload, stp_baload, stp_iastore, stp_bastore, stp_aaload, stp_aastore, stp_invokevirtual, stp_invokestatic, stp_ireturn, stp_lreturn, stp_return_, lg, lset, okl, spl, wd, c1, cnd, tg, swT, swL, f4_0, f4_1, f4_2, f4_3, f2_0, f2_1, List.mem_cons, List.not_mem_nil, List.length_cons, List.length_nil, List.cons_append, List.nil_append, Nat.reduceAdd, Nat.reduceMul, Nat.reduceLT, Nat.reduceEqDiff, Nat.reduceLeDiff, Int.reduceAdd, Int.reduceNeg, Int.reduceToNat, Int.cast_ofNat_Int, Int.reduceNatCast, Int.toNat_zero, Int.toNat_one, Int.reduceLE, Int.reduceLT, Int.reduceEq, Int.zero_add, Int.add_zero, or_false, false_or, or_true, true_or, and_true, true_and, and_false, false_and, reduceIte, not_true_eq_false, not_false_eq_true, forall_const, false_implies, true_implies, implies_true, ne_eq, reduceCtorEq, List.all_cons, List.all_nil, Bool.and_true, Bool.and_self, decide_eq_true_eq, decide_true, dX1_total_0, dX1_total_1, dX1_total_2, dX1_total_3, dX1_total_4, dX1_total_5, dX1_total_6, dX1_total_9, dX1_total_12, dX1_total_13, dX1_total_14, dX1_total_17, dX1_total_18, dX1_total_19, dX1_total_20, dX1_total_21, dX1_total_22, dX1_total_23, dX1_total_26, dX1_total_29, dX1_total_30, FX1_20, FX1_11, hB, r2]
    repeat' (first | exact trivial | omega | (with_reducible assumption) | exact absurd trivial (by with_reducible assumption) | contradiction | apply And.intro | intro _)
    rw [show n = (f 35).toNat by omega]
    exact hK
  | succ m ih =>
    intro n hn
    have hr := r1.1 n (by omega)
    obtain ⟨k1, k2⟩ := k7 _ hr.1 hr.2
    have hv := r6 n w (by omega) hw
    apply hV [4] 40
    simp only [InR, InL, inb, Int.toNat_natCast, wp1, wpc_z, wpc_s, stp_iconst, stp_bipush, stp_sipush, stp_lconst, stp_iload_n, stp_iload, stp_lload_n, stp_lload, stp_aload_n, stp_aload, stp_istore_n, stp_istore, stp_lstore_n, stp_lstore, stp_astore_n, stp_astore, stp_iinc, stp_iadd, stp_isub, stp_imul, stp_ineg, stp_idiv, stp_irem, stp_ladd, stp_lmul, stp_ldiv, stp_lrem, stp_ishl, stp_ishr, stp_iushr, stp_iand, stp_ior, stp_i2l, stp_i2b, stp_i2s, stp_lcmp, stp_dup, stp_dup2, stp_pop, stp_ifCond, stp_if_icmp, stp_goto, stp_tableswitch, stp_lookupswitch, stp_ldc, stp_ldc2_w, stp_getstatic, stp_getfield, stp_putfield, stp_iaload, stp_baload, stp_iastore, stp_bastore, stp_aaload, stp_aastore, stp_invokevirtual, stp_invokestatic, stp_ireturn, stp_lreturn, stp_return_, lg, lset, okl, spl, wd, c1, cnd, tg, swT, swL, f4_0, f4_1, f4_2, f4_3, f2_0, f2_1, List.mem_cons, List.not_mem_nil, List.length_cons, List.length_nil, List.cons_append, List.nil_append, Nat.reduceAdd, Nat.reduceMul, Nat.reduceLT, Nat.reduceEqDiff, Nat.reduceLeDiff, Int.reduceAdd, Int.reduceNeg, Int.reduceToNat, Int.cast_ofNat_Int, Int.reduceNatCast, Int.toNat_zero, Int.toNat_one, Int.reduceLE, Int.reduceLT, Int.reduceEq, Int.zero_add, Int.add_zero, or_false, false_or, or_true, true_or, and_true, true_and, and_false, false_and, reduceIte, not_true_eq_false, not_false_eq_true, forall_const, false_implies, true_implies, implies_true, ne_eq, reduceCtorEq, List.all_cons, List.all_nil, Bool.and_true, Bool.and_self, decide_eq_true_eq, decide_true, dX1_total_0, dX1_total_1, dX1_total_2, dX1_total_3, dX1_total_4, dX1_total_5, dX1_total_6, dX1_total_9, dX1_total_12, dX1_total_13, dX1_total_14, dX1_total_17, dX1_total_18, dX1_total_19, dX1_total_20, dX1_total_21, dX1_total_22, dX1_total_23, dX1_total_26, dX1_total_29, dX1_total_30, FX1_20, FX1_11, hB, r2, k12, l5, elr k12, k1, k2, hv]
    repeat' (first | exact trivial | omega | (with_reducible assumption) | exact absurd trivial (by with_reducible assumption) | contradiction | apply And.intro | intro _)
    exact ih (n + 1) (by omega)
def T1_total : TT := fun a μ K => match a with
  | [.inr (.inr B), .inl w] => kd B = 1 ∧ ((0 ≤ w ∧ w < 7) ∧ ∃ f, RG μ B f ∧ (0 ≤ f 35 ∧ f 35 ≤ 5) ∧ K [.inl (sumF f w.toNat (f 35).toNat)] μ)
  | _ => False
theorem rec_X1_total : ∀ a μ K, T1_total a μ K → ∃ k r, a = .inr (.inr k) :: r ∧ kd k = 1 := by
  intro a μ K h
  unfold T1_total at h
  split at h
  · exact ⟨_, _, rfl, h.1⟩
  · exact h.elim
theorem gk_X1_total (l : Launch) : ∀ i n b T, G_X1_total i = some (n, b, T) → CallOK l 0 RX1 i n b T := by
  intro i n b T h
  have hm : (i, n, b, T) ∈ GL_X1_total := lk_mem h
  simp [GL_X1_total] at hm
set_option maxRecDepth 20000 in
set_option maxHeartbeats 4000000 in
theorem body_X1_total (B : Nat) (w : Int) (μ : Mem) (K : List AV → Mem → Prop) (V : Nat → List (Option AV) → List AV → Mem → Prop) (hV : Clos FX1 CX1 G_X1_total 1 K cX1_total V) (hT : kd B = 1 ∧ ((0 ≤ w ∧ w < 7) ∧ ∃ f, RG μ B f ∧ (0 ≤ f 35 ∧ f 35 ≤ 5) ∧ K [.inl (sumF f w.toNat (f 35).toNat)] μ)) : V 0 [some (.inr (.inr B)), some (.inl w), none, none] [] μ := by
  obtain ⟨hB, ⟨h1, h2⟩, f, hR, h3, hK⟩ := hT
  obtain ⟨w', rfl⟩ := Int.eq_ofNat_of_zero_le h1
  apply hV [4] 40
  simp only [InR, InL, inb, Int.toNat_natCast, wp1, wpc_z, wpc_s, stp_iconst, stp_bipush, stp_sipush, stp_lconst, stp_iload_n, stp_iload, stp_lload_n, stp_lload, stp_aload_n, stp_aload, stp_istore_n, stp_istore, stp_lstore_n, stp_lstore, stp_astore_n, stp_astore, stp_iinc, stp_iadd, stp_isub, stp_imul, stp_ineg, stp_idiv, stp_irem, stp_ladd, stp_lmul, stp_ldiv, stp_lrem, stp_ishl, stp_ishr, stp_iushr, stp_iand, stp_ior, stp_i2l, stp_i2b, stp_i2s, stp_lcmp, stp_dup, stp_dup2, stp_pop, stp_ifCond, stp_if_icmp, stp_goto, stp_tableswitch, stp_lookupswitch, stp_ldc, stp_ldc2_w, stp_getstatic, stp_getfield, stp_putfield, stp_iaload, stp_baload, stp_iastore, stp_bastore, stp_aaload, stp_aastore, stp_invokevirtual, stp_invokestatic, stp_ireturn, stp_lreturn, stp_return_, lg, lset, okl, spl, wd, c1, cnd, tg, swT, swL, f4_0, f4_1, f4_2, f4_3, f2_0, f2_1, List.mem_cons, List.not_mem_nil, List.length_cons, List.length_nil, List.cons_append, List.nil_append, Nat.reduceAdd, Nat.reduceMul, Nat.reduceLT, Nat.reduceEqDiff, Nat.reduceLeDiff, Int.reduceAdd, Int.reduceNeg, Int.reduceToNat, Int.cast_ofNat_Int, Int.reduceNatCast, Int.toNat_zero, Int.toNat_one, Int.reduceLE, Int.reduceLT, Int.reduceEq, Int.zero_add, Int.add_zero, or_false, false_or, or_true, true_or, and_true, true_and, and_false, false_and, reduceIte, not_true_eq_false, not_false_eq_true, forall_const, false_implies, true_implies, implies_true, ne_eq, reduceCtorEq, List.all_cons, List.all_nil, Bool.and_true, Bool.and_self, decide_eq_true_eq, decide_true, dX1_total_0, dX1_total_1, dX1_total_2, dX1_total_3, dX1_total_4, dX1_total_5, dX1_total_6, dX1_total_9, dX1_total_12, dX1_total_13, dX1_total_14, dX1_total_17, dX1_total_18, dX1_total_19, dX1_total_20, dX1_total_21, dX1_total_22, dX1_total_23, dX1_total_26, dX1_total_29, dX1_total_30, FX1_20, FX1_11, hB]
  exact lp_total V K hV μ B hB f hR w' (by omega) h3 hK (f 35).toNat 0 (by omega)
theorem good_X1_total (l : Launch) : Good l 0 yX1_total cX1_total 4 (some .int) T1_total := by
  refine Good.mk 1 (by decide) rfl (by simp [retOK]) FOK1 COK1 (gk_X1_total l) ?_ ?_
  · intro a μ K h
    unfold T1_total at h
    split at h
    · simp [entl]
    · exact h.elim
  · intro a μ K V hV h
    unfold T1_total at h
    split at h
    · exact body_X1_total _ _ μ K V hV h
    · exact h.elim

def T1_exchange : TT := fun a μ K => match a with
  | [.inr (.inr B), .inl i, .inl k] => kd B = 1 ∧ ((0 ≤ i ∧ i < 5) ∧ (0 ≤ k ∧ k < 5) ∧ RP μ B ∧ K [] (wR (wR μ (B + 1) i.toNat (rR μ (B + 1) k.toNat)) (B + 1) k.toNat (rR μ (B + 1) i.toNat)))
  | _ => False
theorem rec_X1_exchange : ∀ a μ K, T1_exchange a μ K → ∃ k r, a = .inr (.inr k) :: r ∧ kd k = 1 := by
  intro a μ K h
  unfold T1_exchange at h
  split at h
  · exact ⟨_, _, rfl, h.1⟩
  · exact h.elim
def GL_X1_exchange : List (Nat × Nat × Bool × TT) := []
def G_X1_exchange : Nat → Option (Nat × Bool × TT) := fun i => GL_X1_exchange.lookup i
theorem gk_X1_exchange (l : Launch) : ∀ i n b T, G_X1_exchange i = some (n, b, T) → CallOK l 0 RX1 i n b T := by
  intro i n b T h
  have hm : (i, n, b, T) ∈ GL_X1_exchange := lk_mem h
  simp [GL_X1_exchange] at hm
set_option maxRecDepth 20000 in
set_option maxHeartbeats 4000000 in
theorem body_X1_exchange (B : Nat) (i : Int) (k : Int) (μ : Mem) (K : List AV → Mem → Prop) (V : Nat → List (Option AV) → List AV → Mem → Prop) (hV : Clos FX1 CX1 G_X1_exchange 0 K cX1_exchange V) (hT : kd B = 1 ∧ ((0 ≤ i ∧ i < 5) ∧ (0 ≤ k ∧ k < 5) ∧ RP μ B ∧ K [] (wR (wR μ (B + 1) i.toNat (rR μ (B + 1) k.toNat)) (B + 1) k.toNat (rR μ (B + 1) i.toNat)))) : V 0 [some (.inr (.inr B)), some (.inl i), some (.inl k), none] [] μ := by
  obtain ⟨hB, ⟨h1, h2⟩, ⟨h3, h4⟩, hR, hK⟩ := hT
  obtain ⟨i', rfl⟩ := Int.eq_ofNat_of_zero_le h1
  obtain ⟨k', rfl⟩ := Int.eq_ofNat_of_zero_le h3
  rw [Int.toNat_natCast, Int.toNat_natCast] at hK
  obtain ⟨k12, l5, k7⟩ := ringk hB
  have hr1 := hR.1 i' (by omega)
  have hr2 := hR.1 k' (by omega)
  obtain ⟨a1, a2⟩ := k7 _ hr1.1 hr1.2
  obtain ⟨b1, b2⟩ := k7 _ hr2.1 hr2.2
  apply hV [] 60
  simp only [InR, InL, inb, Int.toNat_natCast, wp1, wpc_z, wpc_s, stp_iconst, stp_bipush, stp_sipush, stp_lconst, stp_iload_n, stp_iload, stp_lload_n, stp_lload, stp_aload_n, stp_aload, stp_istore_n, stp_istore, stp_lstore_n, stp_lstore, stp_astore_n, stp_astore, stp_iinc, stp_iadd, stp_isub, stp_imul, stp_ineg, stp_idiv, stp_irem, stp_ladd, stp_lmul, stp_ldiv, stp_lrem, stp_ishl, stp_ishr, stp_iushr, stp_iand, stp_ior, stp_i2l, stp_i2b, stp_i2s, stp_lcmp, stp_dup, stp_dup2, stp_pop, stp_ifCond, stp_if_icmp, stp_goto, stp_tableswitch, stp_lookupswitch, stp_ldc, stp_ldc2_w, stp_getstatic, stp_getfield, stp_putfield, stp_iaload, stp_baload, stp_iastore, stp_bastore, stp_aaload, stp_aastore, stp_invokevirtual, stp_invokestatic, stp_ireturn, stp_lreturn, stp_return_, lg, lset, okl, spl, wd, c1, cnd, tg, swT, swL, f4_0, f4_1, f4_2, f4_3, f2_0, f2_1, List.mem_cons, List.not_mem_nil, List.length_cons, List.length_nil, List.cons_append, List.nil_append, Nat.reduceAdd, Nat.reduceMul, Nat.reduceLT, Nat.reduceEqDiff, Nat.reduceLeDiff, Int.reduceAdd, Int.reduceNeg, Int.reduceToNat, Int.cast_ofNat_Int, Int.reduceNatCast, Int.toNat_zero, Int.toNat_one, Int.reduceLE, Int.reduceLT, Int.reduceEq, Int.zero_add, Int.add_zero, or_false, false_or, or_true, true_or, and_true, true_and, and_false, false_and, reduceIte, not_true_eq_false, not_false_eq_true, forall_const, false_implies, true_implies, implies_true, ne_eq, reduceCtorEq, List.all_cons, List.all_nil, Bool.and_true, Bool.and_self, decide_eq_true_eq, decide_true, dX1_exchange_0, dX1_exchange_1, dX1_exchange_4, dX1_exchange_5, dX1_exchange_6, dX1_exchange_7, dX1_exchange_8, dX1_exchange_11, dX1_exchange_12, dX1_exchange_13, dX1_exchange_16, dX1_exchange_17, dX1_exchange_18, dX1_exchange_19, dX1_exchange_20, dX1_exchange_23, dX1_exchange_24, dX1_exchange_25, dX1_exchange_26, FX1_11, hB, k12, l5, elr k12, a1, a2, b1, b2]
  repeat' (first | exact trivial | omega | (with_reducible assumption) | exact absurd trivial (by with_reducible assumption) | contradiction | apply And.intro | intro _)
theorem good_X1_exchange (l : Launch) : Good l 0 yX1_exchange cX1_exchange 4 none T1_exchange := by
  refine Good.mk 0 (by decide) rfl (by simp [retOK]) FOK1 COK1 (gk_X1_exchange l) ?_ ?_
  · intro a μ K h
    unfold T1_exchange at h
    split at h
    · simp [entl]
    · exact h.elim
  · intro a μ K V hV h
    unfold T1_exchange at h
    split at h
    · exact body_X1_exchange _ _ _ μ K V hV h
    · exact h.elim

def GL_X1_isLonger : List (Nat × Nat × Bool × TT) := []
def G_X1_isLonger : Nat → Option (Nat × Bool × TT) := fun i => GL_X1_isLonger.lookup i

set_option maxRecDepth 20000 in
set_option maxHeartbeats 4000000 in
theorem lp_isLonger (V : Nat → List (Option AV) → List AV → Mem → Prop) (K : List AV → Mem → Prop) (hV : Clos FX1 CX1 G_X1_isLonger 2 K cX1_isLonger V) (μ : Mem) (B : Nat) (hB : kd B = 1) (f : Nat → Int) (hR : RG μ B f) (q : Int) (hq : InR q) (hm : 0 ≤ f 35 ∧ f 35 ≤ 5) (hs : ∀ k : Nat, (k : Int) < f 35 → InR (f (7 * k + 1))) (h1 : outB f q (f 35).toNat = true → K [.inl 1] μ) (h2 : ¬ outB f q (f 35).toNat = true → K [.inl 0] μ) : ∀ m n : Nat, n + m = (f 35).toNat → outB f q n = false → V 2 [some (.inr (.inr B)), some (.inl q), some (.inl (n : Int))] [] μ := by
  obtain ⟨r1, r2, r3, r4, r5, r6⟩ := hR
  obtain ⟨k12, l5, k7⟩ := ringk hB
  simp only [InR] at hq hs
  intro m
  induction m with
  | zero =>
    intro n hn ho
    apply hV [2] 40
    simp only [InR, InL, inb, Int.toNat_natCast, wp1, wpc_z, wpc_s, stp_iconst, stp_bipush, stp_sipush, stp_lconst, stp_iload_n, stp_iload, stp_lload_n, stp_lload, stp_aload_n, stp_aload, stp_istore_n, stp_istore, stp_lstore_n, stp_lstore, stp_astore_n, stp_astore, stp_iinc, stp_iadd, stp_isub, stp_imul, stp_ineg, stp_idiv, stp_irem, stp_ladd, stp_lmul, stp_ldiv, stp_lrem, stp_ishl, stp_ishr, stp_iushr, stp_iand, stp_ior, stp_i2l, stp_i2b, stp_i2s, stp_lcmp, stp_dup, stp_dup2, stp_pop, stp_ifCond, stp_if_icmp, stp_goto, stp_tableswitch, stp_lookupswitch, stp_ldc, stp_ldc2_w, stp_getstatic, stp_getfield, stp_putfield, stp_iaload, stp_baload, stp_iastore, stp_bastore, stp_aaload, stp_aastore, stp_invokevirtual, stp_invokestatic, stp_ireturn, stp_lreturn, stp_return_, lg, lset, okl, spl, wd, c1, cnd, tg, swT, swL, f4_0, f4_1, f4_2, f4_3, f2_0, f2_1, List.mem_cons, List.not_mem_nil, List.length_cons, List.length_nil, List.cons_append, List.nil_append, Nat.reduceAdd, Nat.reduceMul, Nat.reduceLT, Nat.reduceEqDiff, Nat.reduceLeDiff, Int.reduceAdd, Int.reduceNeg, Int.reduceToNat, Int.cast_ofNat_Int, Int.reduceNatCast, Int.toNat_zero, Int.toNat_one, Int.reduceLE, Int.reduceLT, Int.reduceEq, Int.zero_add, Int.add_zero, or_false, false_or, or_true, true_or, and_true, true_and, and_false, false_and, reduceIte, not_true_eq_false, not_false_eq_true, forall_const, false_implies, true_implies, implies_true, ne_eq, reduceCtorEq, List.all_cons, List.all_nil, Bool.and_true, Bool.and_self, decide_eq_true_eq, decide_true, dX1_isLonger_0, dX1_isLonger_1, dX1_isLonger_2, dX1_isLonger_3, dX1_isLonger_4, dX1_isLonger_7, dX1_isLonger_10, dX1_isLonger_11, dX1_isLonger_14, dX1_isLonger_15, dX1_isLonger_16, dX1_isLonger_17, dX1_isLonger_18, dX1_isLonger_19, dX1_isLonger_22, dX1_isLonger_23, dX1_isLonger_24, dX1_isLonger_27, dX1_isLonger_30, dX1_isLonger_31, FX1_20, FX1_11, hB, r2]
    have := h2 (by rw [show (f 35).toNat = n by omega, ho]; simp)
    repeat' (first | exact trivial | omega | (with_reducible assumption) | exact absurd trivial (by with_reducible assumption) | contradiction | apply And.intro | intro _)
  | succ m ih =>
    intro n hn ho
    have hr := r1.1 n (by omega)
    obtain ⟨k1, k2⟩ := k7 _ hr.1 hr.2
    have hv := r6 n 1 (by omega) (by omega)
    have hsn := hs n (by omega)
    apply hV [2] 40
    simp only [InR, InL, inb, Int.toNat_natCast, wp1, wpc_z, wpc_s, stp_iconst, stp_bipush, stp_sipush, stp_lconst, stp_iload_n, stp_iload, stp_lload_n, stp_lload, stp_aload_n, stp_aload, stp_istore_n, stp_istore, stp_lstore_n, stp_lstore, stp_astore_n, stp_astore, stp_iinc, stp_iadd, stp_isub, stp_imul, stp_ineg, stp_idiv, stp_irem, stp_ladd, stp_lmul, stp_ldiv, stp_lrem, stp_ishl, stp_ishr, stp_iushr, stp_iand, stp_ior, stp_i2l, stp_i2b, stp_i2s, stp_lcmp, stp_dup, stp_dup2, stp_pop, stp_ifCond, stp_if_icmp, stp_goto, stp_tableswitch, stp_lookupswitch, stp_ldc, stp_ldc2_w, stp_getstatic, stp_getfield, stp_putfield, stp_iaload, stp_baload, stp_iastore, stp_bastore, stp_aaload, stp_aastore, stp_invokevirtual, stp_invokestatic, stp_ireturn, stp_lreturn, stp_return_, lg, lset, okl, spl, wd, c1, cnd, tg, swT, swL, f4_0, f4_1, f4_2, f4_3, f2_0, f2_1, List.mem_cons, List.not_mem_nil, List.length_cons, List.length_nil, List.cons_append, List.nil_append, Nat.reduceAdd, Nat.reduceMul, Nat.reduceLT, Nat.reduceEqDiff, Nat.reduceLeDiff, Int.reduceAdd, Int.reduceNeg, Int.reduceToNat, Int.cast_ofNat_Int, Int.reduceNatCast, Int.toNat_zero, Int.toNat_one, Int.reduceLE, Int.reduceLT, Int.reduceEq, Int.zero_add, Int.add_zero, or_false, false_or, or_true, true_or, and_true, true_and, and_false, false_and, reduceIte, not_true_eq_false, not_false_eq_true, forall_const, false_implies, true_implies, implies_true, ne_eq, reduceCtorEq, List.all_cons, List.all_nil, Bool.and_true, Bool.and_self, decide_eq_true_eq, decide_true, dX1_isLonger_0, dX1_isLonger_1, dX1_isLonger_2, dX1_isLonger_3, dX1_isLonger_4, dX1_isLonger_7, dX1_isLonger_10, dX1_isLonger_11, dX1_isLonger_14, dX1_isLonger_15, dX1_isLonger_16, dX1_isLonger_17, dX1_isLonger_18, dX1_isLonger_19, dX1_isLonger_22, dX1_isLonger_23, dX1_isLonger_24, dX1_isLonger_27, dX1_isLonger_30, dX1_isLonger_31, FX1_20, FX1_11, hB, r2, k12, l5, elr k12, k1, k2, hv]
    by_cases e : q < f (7 * n + 1)
    · have hmono : ∀ a b, outB f q a = true → a ≤ b → outB f q b = true := by
        intro a b h
        induction b with
        | zero => intro hab; rw [show a = 0 by omega] at h; exact h
        | succ b ihb =>
          intro hab
          by_cases hab' : a = b + 1
          · rw [← hab']; exact h
          · simp only [outB, ihb (by omega), Bool.true_or]
      have := h1 (hmono (n + 1) _ (by simp [outB, e]) (by omega))
      repeat' (first | exact trivial | omega | (with_reducible assumption) | exact absurd trivial (by with_reducible assumption) | contradiction | apply And.intro | intro _)
    · have := ih (n + 1) (by omega) (by simp [outB, ho, e])
      rw [show ((n + 1 : Nat) : Int) = (n : Int) + 1 by omega] at this
      repeat' (first | exact trivial | omega | (with_reducible assumption) | exact absurd trivial (by with_reducible assumption) | contradiction | apply And.intro | intro _)
def T1_isLonger : TT := fun a μ K => match a with
  | [.inr (.inr B), .inl q] => kd B = 1 ∧ (InR q ∧ ∃ f, RG μ B f ∧ (0 ≤ f 35 ∧ f 35 ≤ 5) ∧ (∀ k : Nat, (k : Int) < f 35 → InR (f (7 * k + 1))) ∧ (outB f q (f 35).toNat = true → K [.inl 1] μ) ∧ (¬ outB f q (f 35).toNat = true → K [.inl 0] μ))
  | _ => False
theorem rec_X1_isLonger : ∀ a μ K, T1_isLonger a μ K → ∃ k r, a = .inr (.inr k) :: r ∧ kd k = 1 := by
  intro a μ K h
  unfold T1_isLonger at h
  split at h
  · exact ⟨_, _, rfl, h.1⟩
  · exact h.elim
theorem gk_X1_isLonger (l : Launch) : ∀ i n b T, G_X1_isLonger i = some (n, b, T) → CallOK l 0 RX1 i n b T := by
  intro i n b T h
  have hm : (i, n, b, T) ∈ GL_X1_isLonger := lk_mem h
  simp [GL_X1_isLonger] at hm
set_option maxRecDepth 20000 in
set_option maxHeartbeats 4000000 in
theorem body_X1_isLonger (B : Nat) (q : Int) (μ : Mem) (K : List AV → Mem → Prop) (V : Nat → List (Option AV) → List AV → Mem → Prop) (hV : Clos FX1 CX1 G_X1_isLonger 2 K cX1_isLonger V) (hT : kd B = 1 ∧ (InR q ∧ ∃ f, RG μ B f ∧ (0 ≤ f 35 ∧ f 35 ≤ 5) ∧ (∀ k : Nat, (k : Int) < f 35 → InR (f (7 * k + 1))) ∧ (outB f q (f 35).toNat = true → K [.inl 1] μ) ∧ (¬ outB f q (f 35).toNat = true → K [.inl 0] μ))) : V 0 [some (.inr (.inr B)), some (.inl q), none] [] μ := by
  obtain ⟨hB, hq, f, hR, h3, h4, h5, h6⟩ := hT
  apply hV [2] 40
  simp only [InR, InL, inb, Int.toNat_natCast, wp1, wpc_z, wpc_s, stp_iconst, stp_bipush, stp_sipush, stp_lconst, stp_iload_n, stp_iload, stp_lload_n, stp_lload, stp_aload_n, stp_aload, stp_istore_n, stp_istore, stp_lstore_n, stp_lstore, stp_astore_n, stp_astore, stp_iinc, stp_iadd, stp_isub, stp_imul, stp_ineg, stp_idiv, stp_irem, stp_ladd, stp_lmul, stp_ldiv, stp_lrem, stp_ishl, stp_ishr, stp_iushr, stp_iand, stp_ior, stp_i2l, stp_i2b, stp_i2s, stp_lcmp, stp_dup, stp_dup2, stp_pop, stp_ifCond, stp_if_icmp, stp_goto, stp_tableswitch, stp_lookupswitch, stp_ldc, stp_ldc2_w, stp_getstatic, stp_getfield, stp_putfield, stp_iaload, stp_baload, stp_iastore, stp_bastore, stp_aaload, stp_aastore, stp_invokevirtual, stp_invokestatic, stp_ireturn, stp_lreturn, stp_return_, lg, lset, okl, spl, wd, c1, cnd, tg, swT, swL, f4_0, f4_1, f4_2, f4_3, f2_0, f2_1, List.mem_cons, List.not_mem_nil, List.length_cons, List.length_nil, List.cons_append, List.nil_append, Nat.reduceAdd, Nat.reduceMul, Nat.reduceLT, Nat.reduceEqDiff, Nat.reduceLeDiff, Int.reduceAdd, Int.reduceNeg, Int.reduceToNat, Int.cast_ofNat_Int, Int.reduceNatCast, Int.toNat_zero, Int.toNat_one, Int.reduceLE, Int.reduceLT, Int.reduceEq, Int.zero_add, Int.add_zero, or_false, false_or, or_true, true_or, and_true, true_and, and_false, false_and, reduceIte, not_true_eq_false, not_false_eq_true, forall_const, false_implies, true_implies, implies_true, ne_eq, reduceCtorEq, List.all_cons, List.all_nil, Bool.and_true, Bool.and_self, decide_eq_true_eq, decide_true, dX1_isLonger_0, dX1_isLonger_1, dX1_isLonger_2, dX1_isLonger_3, dX1_isLonger_4, dX1_isLonger_7, dX1_isLonger_10, dX1_isLonger_11, dX1_isLonger_14, dX1_isLonger_15, dX1_isLonger_16, dX1_isLonger_17, dX1_isLonger_18, dX1_isLonger_19, dX1_isLonger_22, dX1_isLonger_23, dX1_isLonger_24, dX1_isLonger_27, dX1_isLonger_30, dX1_isLonger_31, FX1_20, FX1_11, hB]
  exact lp_isLonger V K hV μ B hB f hR q hq h3 h4 h5 h6 (f 35).toNat 0 (by omega) rfl
theorem good_X1_isLonger (l : Launch) : Good l 0 yX1_isLonger cX1_isLonger 3 (some .boolean) T1_isLonger := by
  refine Good.mk 2 (by decide) rfl (by simp [retOK]) FOK1 COK1 (gk_X1_isLonger l) ?_ ?_
  · intro a μ K h
    unfold T1_isLonger at h
    split at h
    · simp [entl]
    · exact h.elim
  · intro a μ K V hV h
    unfold T1_isLonger at h
    split at h
    · exact body_X1_isLonger _ _ μ K V hV h
    · exact h.elim

def T1_add : TT := fun a μ K => match a with
  | [.inr (.inr B), .inl i, .inl n] => kd B = 1 ∧ ((0 ≤ i ∧ i < 5) ∧ RP μ B ∧ (0 ≤ n ∧ n ≤ 1000) ∧ (0 ≤ rI μ (rR μ (B + 1) i.toNat) 1 ∧ rI μ (rR μ (B + 1) i.toNat) 1 ≤ 99) ∧ K [.inl (n - min n (99 - rI μ (rR μ (B + 1) i.toNat) 1))] (wI (wI μ (rR μ (B + 1) i.toNat) 1 (rI μ (rR μ (B + 1) i.toNat) 1 + min n (99 - rI μ (rR μ (B + 1) i.toNat) 1))) B 6 (rI μ B 6 + (n - min n (99 - rI μ (rR μ (B + 1) i.toNat) 1)))))
  | _ => False
theorem rec_X1_add : ∀ a μ K, T1_add a μ K → ∃ k r, a = .inr (.inr k) :: r ∧ kd k = 1 := by
  intro a μ K h
  unfold T1_add at h
  split at h
  · exact ⟨_, _, rfl, h.1⟩
  · exact h.elim
def GL_X1_add : List (Nat × Nat × Bool × TT) := [(49, 2, true, T_min)]
def G_X1_add : Nat → Option (Nat × Bool × TT) := fun i => GL_X1_add.lookup i
theorem G_X1_add_49 : G_X1_add 49 = some (2, true, T_min) := rfl
theorem gk_X1_add (l : Launch) : ∀ i n b T, G_X1_add i = some (n, b, T) → CallOK l 1 RX1 i n b T := by
  intro i n b T h
  have hm : (i, n, b, T) ∈ GL_X1_add := lk_mem h
  simp only [GL_X1_add, List.mem_cons, List.not_mem_nil, or_false, Prod.mk.injEq] at hm
  rcases hm with ⟨rfl, rfl, rfl, rfl⟩
  · exact CallOK.min (d := 1) (own := RX1) (i := 49) (by decide) (mg 340 (by decide +kernel) (by decide +kernel)) (mg 341 (by decide +kernel) (by decide +kernel)) (mg 13 (by decide +kernel) (by decide +kernel)) (mg 342 (by decide +kernel) (by decide +kernel))
set_option maxRecDepth 20000 in
set_option maxHeartbeats 4000000 in
theorem body_X1_add (B : Nat) (i : Int) (n : Int) (μ : Mem) (K : List AV → Mem → Prop) (V : Nat → List (Option AV) → List AV → Mem → Prop) (hV : Clos FX1 CX1 G_X1_add 1 K cX1_add V) (hT : kd B = 1 ∧ ((0 ≤ i ∧ i < 5) ∧ RP μ B ∧ (0 ≤ n ∧ n ≤ 1000) ∧ (0 ≤ rI μ (rR μ (B + 1) i.toNat) 1 ∧ rI μ (rR μ (B + 1) i.toNat) 1 ≤ 99) ∧ K [.inl (n - min n (99 - rI μ (rR μ (B + 1) i.toNat) 1))] (wI (wI μ (rR μ (B + 1) i.toNat) 1 (rI μ (rR μ (B + 1) i.toNat) 1 + min n (99 - rI μ (rR μ (B + 1) i.toNat) 1))) B 6 (rI μ B 6 + (n - min n (99 - rI μ (rR μ (B + 1) i.toNat) 1)))))) : V 0 [some (.inr (.inr B)), some (.inl i), some (.inl n), none, none] [] μ := by
  obtain ⟨hB, ⟨h1, h2⟩, hR, h4, h5, hK⟩ := hT
  obtain ⟨i', rfl⟩ := Int.eq_ofNat_of_zero_le h1
  rw [Int.toNat_natCast] at hK h5
  obtain ⟨k12, l5, k7⟩ := ringk hB
  have hr1 := hR.1 i' (by omega)
  obtain ⟨a1, a2⟩ := k7 _ hr1.1 hr1.2
  have ne : ¬ B = rR μ (B + 1) i' := by omega
  apply hV [] 60
  simp only [InR, InL, inb, Int.toNat_natCast, wp1, wpc_z, wpc_s, stp_iconst, stp_bipush, stp_sipush, stp_lconst, stp_iload_n, stp_iload, stp_lload_n, stp_lload, stp_aload_n, stp_aload, stp_istore_n, stp_istore, stp_lstore_n, stp_lstore, stp_astore_n, stp_astore, stp_iinc, stp_iadd, stp_isub, stp_imul, stp_ineg, stp_idiv, stp_irem, stp_ladd, stp_lmul, stp_ldiv, stp_lrem, stp_ishl, stp_ishr, stp_iushr, stp_iand, stp_ior, stp_i2l, stp_i2b, stp_i2s, stp_lcmp, stp_dup, stp_dup2, stp_pop, stp_ifCond, stp_if_icmp, stp_goto, stp_tableswitch, stp_lookupswitch, stp_ldc, stp_ldc2_w, stp_getstatic, stp_getfield, stp_putfield, stp_iaload, stp_baload, stp_iastore, stp_bastore, stp_aaload, stp_aastore, stp_invokevirtual, stp_invokestatic, stp_ireturn, stp_lreturn, stp_return_, lg, lset, okl, spl, wd, c1, cnd, tg, swT, swL, f4_0, f4_1, f4_2, f4_3, f2_0, f2_1, List.mem_cons, List.not_mem_nil, List.length_cons, List.length_nil, List.cons_append, List.nil_append, Nat.reduceAdd, Nat.reduceMul, Nat.reduceLT, Nat.reduceEqDiff, Nat.reduceLeDiff, Int.reduceAdd, Int.reduceNeg, Int.reduceToNat, Int.cast_ofNat_Int, Int.reduceNatCast, Int.toNat_zero, Int.toNat_one, Int.reduceLE, Int.reduceLT, Int.reduceEq, Int.zero_add, Int.add_zero, or_false, false_or, or_true, true_or, and_true, true_and, and_false, false_and, reduceIte, not_true_eq_false, not_false_eq_true, forall_const, false_implies, true_implies, implies_true, ne_eq, reduceCtorEq, List.all_cons, List.all_nil, Bool.and_true, Bool.and_self, decide_eq_true_eq, decide_true, dX1_add_0, dX1_add_1, dX1_add_4, dX1_add_5, dX1_add_6, dX1_add_7, dX1_add_8, dX1_add_10, dX1_add_11, dX1_add_12, dX1_add_13, dX1_add_14, dX1_add_17, dX1_add_19, dX1_add_20, dX1_add_21, dX1_add_22, dX1_add_23, dX1_add_25, dX1_add_26, dX1_add_27, dX1_add_28, dX1_add_29, dX1_add_32, dX1_add_33, dX1_add_35, dX1_add_36, dX1_add_37, dX1_add_40, dX1_add_41, dX1_add_43, dX1_add_44, FX1_11, FX1_32, G_X1_add_49, hB, k12, l5, elr k12, a1, a2, T_min, rI_wI, ne]
  repeat' (first | exact trivial | omega | (with_reducible assumption) | exact absurd trivial (by with_reducible assumption) | contradiction | apply And.intro | intro _)
theorem good_X1_add (l : Launch) : Good l 1 yX1_add cX1_add 5 (some .int) T1_add := by
  refine Good.mk 1 (by decide) rfl (by simp [retOK]) FOK1 COK1 (gk_X1_add l) ?_ ?_
  · intro a μ K h
    unfold T1_add at h
    split at h
    · simp [entl]
    · exact h.elim
  · intro a μ K V hV h
    unfold T1_add at h
    split at h
    · exact body_X1_add _ _ _ μ K V hV h
    · exact h.elim

def T1_cut : TT := fun a μ K => match a with
  | [.inr (.inr B)] => kd B = 1 ∧ (InR (rI μ B 3) ∧ InR (rI μ B 5) ∧ InR (rI μ B 6) ∧ K [] (wI (wI (wI μ B 3 (min (rI μ B 3) 999999)) B 5 (min (rI μ B 5) 999999)) B 6 (min (rI μ B 6) 999999)))
  | _ => False
theorem rec_X1_cut : ∀ a μ K, T1_cut a μ K → ∃ k r, a = .inr (.inr k) :: r ∧ kd k = 1 := by
  intro a μ K h
  unfold T1_cut at h
  split at h
  · exact ⟨_, _, rfl, h.1⟩
  · exact h.elim
def GL_X1_cut : List (Nat × Nat × Bool × TT) := [(49, 2, true, T_min)]
def G_X1_cut : Nat → Option (Nat × Bool × TT) := fun i => GL_X1_cut.lookup i
theorem G_X1_cut_49 : G_X1_cut 49 = some (2, true, T_min) := rfl
theorem gk_X1_cut (l : Launch) : ∀ i n b T, G_X1_cut i = some (n, b, T) → CallOK l 1 RX1 i n b T := by
  intro i n b T h
  have hm : (i, n, b, T) ∈ GL_X1_cut := lk_mem h
  simp only [GL_X1_cut, List.mem_cons, List.not_mem_nil, or_false, Prod.mk.injEq] at hm
  rcases hm with ⟨rfl, rfl, rfl, rfl⟩
  · exact CallOK.min (d := 1) (own := RX1) (i := 49) (by decide) (mg 340 (by decide +kernel) (by decide +kernel)) (mg 341 (by decide +kernel) (by decide +kernel)) (mg 13 (by decide +kernel) (by decide +kernel)) (mg 342 (by decide +kernel) (by decide +kernel))
set_option maxRecDepth 20000 in
set_option maxHeartbeats 4000000 in
theorem body_X1_cut (B : Nat) (μ : Mem) (K : List AV → Mem → Prop) (V : Nat → List (Option AV) → List AV → Mem → Prop) (hV : Clos FX1 CX1 G_X1_cut 0 K cX1_cut V) (hT : kd B = 1 ∧ (InR (rI μ B 3) ∧ InR (rI μ B 5) ∧ InR (rI μ B 6) ∧ K [] (wI (wI (wI μ B 3 (min (rI μ B 3) 999999)) B 5 (min (rI μ B 5) 999999)) B 6 (min (rI μ B 6) 999999)))) : V 0 [some (.inr (.inr B))] [] μ := by
  simp only [InR] at hT
  obtain ⟨hB, h1, h2, h3, hK⟩ := hT
  apply hV [] 60
  simp only [InR, InL, inb, Int.toNat_natCast, wp1, wpc_z, wpc_s, stp_iconst, stp_bipush, stp_sipush, stp_lconst, stp_iload_n, stp_iload, stp_lload_n, stp_lload, stp_aload_n, stp_aload, stp_istore_n, stp_istore, stp_lstore_n, stp_lstore, stp_astore_n, stp_astore, stp_iinc, stp_iadd, stp_isub, stp_imul, stp_ineg, stp_idiv, stp_irem, stp_ladd, stp_lmul, stp_ldiv, stp_lrem, stp_ishl, stp_ishr, stp_iushr, stp_iand, stp_ior, stp_i2l, stp_i2b, stp_i2s, stp_lcmp, stp_dup, stp_dup2, stp_pop, stp_ifCond, stp_if_icmp, stp_goto, stp_tableswitch, stp_lookupswitch, stp_ldc, stp_ldc2_w, stp_getstatic, stp_getfield, stp_putfield, stp_iaload, stp_baload, stp_iastore, stp_bastore, stp_aaload, stp_aastore, stp_invokevirtual, stp_invokestatic, stp_ireturn, stp_lreturn, stp_return_, lg, lset, okl, spl, wd, c1, cnd, tg, swT, swL, f4_0, f4_1, f4_2, f4_3, f2_0, f2_1, List.mem_cons, List.not_mem_nil, List.length_cons, List.length_nil, List.cons_append, List.nil_append, Nat.reduceAdd, Nat.reduceMul, Nat.reduceLT, Nat.reduceEqDiff, Nat.reduceLeDiff, Int.reduceAdd, Int.reduceNeg, Int.reduceToNat, Int.cast_ofNat_Int, Int.reduceNatCast, Int.toNat_zero, Int.toNat_one, Int.reduceLE, Int.reduceLT, Int.reduceEq, Int.zero_add, Int.add_zero, or_false, false_or, or_true, true_or, and_true, true_and, and_false, false_and, reduceIte, not_true_eq_false, not_false_eq_true, forall_const, false_implies, true_implies, implies_true, ne_eq, reduceCtorEq, List.all_cons, List.all_nil, Bool.and_true, Bool.and_self, decide_eq_true_eq, decide_true, dX1_cut_0, dX1_cut_1, dX1_cut_2, dX1_cut_5, dX1_cut_7, dX1_cut_10, dX1_cut_13, dX1_cut_14, dX1_cut_15, dX1_cut_18, dX1_cut_20, dX1_cut_23, dX1_cut_26, dX1_cut_27, dX1_cut_28, dX1_cut_31, dX1_cut_33, dX1_cut_36, dX1_cut_39, FX1_23, CX1_73, FX1_29, FX1_32, G_X1_cut_49, hB, T_min, rI_wI]
  repeat' (first | exact trivial | omega | (with_reducible assumption) | exact absurd trivial (by with_reducible assumption) | contradiction | apply And.intro | intro _)
theorem good_X1_cut (l : Launch) : Good l 1 yX1_cut cX1_cut 1 none T1_cut := by
  refine Good.mk 0 (by decide) rfl (by simp [retOK]) FOK1 COK1 (gk_X1_cut l) ?_ ?_
  · intro a μ K h
    unfold T1_cut at h
    split at h
    · simp [entl]
    · exact h.elim
  · intro a μ K V hV h
    unfold T1_cut at h
    split at h
    · exact body_X1_cut _ μ K V hV h
    · exact h.elim

def T1_clear : TT := fun a μ K => match a with
  | [.inr (.inr B)] => kd B = 1 ∧ (K [] (wI (wI (wI (wI (wI (wI μ B 1 0) B 2 (-4)) B 3 0) B 4 0) B 5 0) B 6 0))
  | _ => False
theorem rec_X1_clear : ∀ a μ K, T1_clear a μ K → ∃ k r, a = .inr (.inr k) :: r ∧ kd k = 1 := by
  intro a μ K h
  unfold T1_clear at h
  split at h
  · exact ⟨_, _, rfl, h.1⟩
  · exact h.elim
def GL_X1_clear : List (Nat × Nat × Bool × TT) := []
def G_X1_clear : Nat → Option (Nat × Bool × TT) := fun i => GL_X1_clear.lookup i
theorem gk_X1_clear (l : Launch) : ∀ i n b T, G_X1_clear i = some (n, b, T) → CallOK l 0 RX1 i n b T := by
  intro i n b T h
  have hm : (i, n, b, T) ∈ GL_X1_clear := lk_mem h
  simp [GL_X1_clear] at hm
set_option maxRecDepth 20000 in
set_option maxHeartbeats 4000000 in
theorem body_X1_clear (B : Nat) (μ : Mem) (K : List AV → Mem → Prop) (V : Nat → List (Option AV) → List AV → Mem → Prop) (hV : Clos FX1 CX1 G_X1_clear 0 K cX1_clear V) (hT : kd B = 1 ∧ (K [] (wI (wI (wI (wI (wI (wI μ B 1 0) B 2 (-4)) B 3 0) B 4 0) B 5 0) B 6 0))) : V 0 [some (.inr (.inr B))] [] μ := by
  obtain ⟨hB, hK⟩ := hT
  apply hV [] 60
  simp only [InR, InL, inb, Int.toNat_natCast, wp1, wpc_z, wpc_s, stp_iconst, stp_bipush, stp_sipush, stp_lconst, stp_iload_n, stp_iload, stp_lload_n, stp_lload, stp_aload_n, stp_aload, stp_istore_n, stp_istore, stp_lstore_n, stp_lstore, stp_astore_n, stp_astore, stp_iinc, stp_iadd, stp_isub, stp_imul, stp_ineg, stp_idiv, stp_irem, stp_ladd, stp_lmul, stp_ldiv, stp_lrem, stp_ishl, stp_ishr, stp_iushr, stp_iand, stp_ior, stp_i2l, stp_i2b, stp_i2s, stp_lcmp, stp_dup, stp_dup2, stp_pop, stp_ifCond, stp_if_icmp, stp_goto, stp_tableswitch, stp_lookupswitch, stp_ldc, stp_ldc2_w, stp_getstatic, stp_getfield, stp_putfield, stp_iaload, stp_baload, stp_iastore, stp_bastore, stp_aaload, stp_aastore, stp_invokevirtual, stp_invokestatic, stp_ireturn, stp_lreturn, stp_return_, lg, lset, okl, spl, wd, c1, cnd, tg, swT, swL, f4_0, f4_1, f4_2, f4_3, f2_0, f2_1, List.mem_cons, List.not_mem_nil, List.length_cons, List.length_nil, List.cons_append, List.nil_append, Nat.reduceAdd, Nat.reduceMul, Nat.reduceLT, Nat.reduceEqDiff, Nat.reduceLeDiff, Int.reduceAdd, Int.reduceNeg, Int.reduceToNat, Int.cast_ofNat_Int, Int.reduceNatCast, Int.toNat_zero, Int.toNat_one, Int.reduceLE, Int.reduceLT, Int.reduceEq, Int.zero_add, Int.add_zero, or_false, false_or, or_true, true_or, and_true, true_and, and_false, false_and, reduceIte, not_true_eq_false, not_false_eq_true, forall_const, false_implies, true_implies, implies_true, ne_eq, reduceCtorEq, List.all_cons, List.all_nil, Bool.and_true, Bool.and_self, decide_eq_true_eq, decide_true, dX1_clear_0, dX1_clear_1, dX1_clear_2, dX1_clear_5, dX1_clear_6, dX1_clear_8, dX1_clear_11, dX1_clear_12, dX1_clear_13, dX1_clear_16, dX1_clear_17, dX1_clear_18, dX1_clear_21, dX1_clear_22, dX1_clear_23, dX1_clear_26, dX1_clear_27, dX1_clear_28, dX1_clear_31, FX1_20, FX1_16, FX1_23, FX1_26, FX1_29, FX1_32, hB]
  repeat' (first | exact trivial | omega | (with_reducible assumption) | exact absurd trivial (by with_reducible assumption) | contradiction | apply And.intro | intro _)
theorem good_X1_clear (l : Launch) : Good l 0 yX1_clear cX1_clear 1 none T1_clear := by
  refine Good.mk 0 (by decide) rfl (by simp [retOK]) FOK1 COK1 (gk_X1_clear l) ?_ ?_
  · intro a μ K h
    unfold T1_clear at h
    split at h
    · simp [entl]
    · exact h.elim
  · intro a μ K V hV h
    unfold T1_clear at h
    split at h
    · exact body_X1_clear _ μ K V hV h
    · exact h.elim
end
