section
-- ===== PART A: goes FIRST, ahead of the names: the tables' words, and 'selects' of the private methods out of them =====
/-- a private method of a class that the tables say can be made, by its rows of tables_1 -/
def lw_okq (q : MethodName × Nat) : Prop := (q.1.cls ≠ "java/lang/invoke/MethodHandle" ∧ q.1.cls ≠ "java/lang/invoke/VarHandle") ∧ Cond.instantiable q.1.cls q.2 ∈ tables_1 ∧ Cond.privateMethod q.1 ∈ tables_1 ∧ Cond.instanceMethod q.1 ∈ tables_1
theorem lw_p0 : lw_okq (⟨"RingWord$Tape", "advance", "()V"⟩, 7) := ⟨⟨by decide +kernel, by decide +kernel⟩, List.mem_of_getElem? (i := 86) (by decide +kernel), List.mem_of_getElem? (i := 211) (by decide +kernel), List.mem_of_getElem? (i := 212) (by decide +kernel)⟩
theorem lw_p1 : lw_okq (⟨"RingWord$Tape", "sortAt", "(I)I"⟩, 7) := ⟨⟨by decide +kernel, by decide +kernel⟩, List.mem_of_getElem? (i := 86) (by decide +kernel), List.mem_of_getElem? (i := 215) (by decide +kernel), List.mem_of_getElem? (i := 216) (by decide +kernel)⟩
theorem lw_p2 : lw_okq (⟨"RingWord$Tape", "blame", "(II)V"⟩, 7) := ⟨⟨by decide +kernel, by decide +kernel⟩, List.mem_of_getElem? (i := 86) (by decide +kernel), List.mem_of_getElem? (i := 219) (by decide +kernel), List.mem_of_getElem? (i := 220) (by decide +kernel)⟩
theorem lw_p3 : lw_okq (⟨"RingWord$Tape", "takeLine", "(LRingWord$Ring;)V"⟩, 7) := ⟨⟨by decide +kernel, by decide +kernel⟩, List.mem_of_getElem? (i := 86) (by decide +kernel), List.mem_of_getElem? (i := 223) (by decide +kernel), List.mem_of_getElem? (i := 224) (by decide +kernel)⟩
theorem lw_p4 : lw_okq (⟨"RingWord$Tape", "lineBegun", "()I"⟩, 7) := ⟨⟨by decide +kernel, by decide +kernel⟩, List.mem_of_getElem? (i := 86) (by decide +kernel), List.mem_of_getElem? (i := 227) (by decide +kernel), List.mem_of_getElem? (i := 228) (by decide +kernel)⟩
theorem lw_p5 : lw_okq (⟨"RingWord$Tape", "isNamed", "(Ljava/lang/String;)Z"⟩, 7) := ⟨⟨by decide +kernel, by decide +kernel⟩, List.mem_of_getElem? (i := 86) (by decide +kernel), List.mem_of_getElem? (i := 232) (by decide +kernel), List.mem_of_getElem? (i := 233) (by decide +kernel)⟩
theorem lw_p6 : lw_okq (⟨"RingWord$Tape", "takeWord", "(LRingWord$Ring;)V"⟩, 7) := ⟨⟨by decide +kernel, by decide +kernel⟩, List.mem_of_getElem? (i := 86) (by decide +kernel), List.mem_of_getElem? (i := 288) (by decide +kernel), List.mem_of_getElem? (i := 289) (by decide +kernel)⟩
theorem lw_p7 : lw_okq (⟨"RingWord$Tape", "takeNumber", "(II)I"⟩, 7) := ⟨⟨by decide +kernel, by decide +kernel⟩, List.mem_of_getElem? (i := 86) (by decide +kernel), List.mem_of_getElem? (i := 292) (by decide +kernel), List.mem_of_getElem? (i := 293) (by decide +kernel)⟩
theorem lw_p8 : lw_okq (⟨"RingWord$Tape", "require", "(I)V"⟩, 7) := ⟨⟨by decide +kernel, by decide +kernel⟩, List.mem_of_getElem? (i := 86) (by decide +kernel), List.mem_of_getElem? (i := 296) (by decide +kernel), List.mem_of_getElem? (i := 297) (by decide +kernel)⟩
theorem lw_p9 : lw_okq (⟨"RingWord$Tape", "takeStation", "(LRingWord$Ring;I)V"⟩, 7) := ⟨⟨by decide +kernel, by decide +kernel⟩, List.mem_of_getElem? (i := 86) (by decide +kernel), List.mem_of_getElem? (i := 301) (by decide +kernel), List.mem_of_getElem? (i := 302) (by decide +kernel)⟩
theorem lw_p10 : lw_okq (⟨"RingWord$Tape", "placeWord", "(LRingWord$Ring;)V"⟩, 7) := ⟨⟨by decide +kernel, by decide +kernel⟩, List.mem_of_getElem? (i := 86) (by decide +kernel), List.mem_of_getElem? (i := 309) (by decide +kernel), List.mem_of_getElem? (i := 310) (by decide +kernel)⟩
theorem lw_p11 : lw_okq (⟨"RingWord$Ring", "isLonger", "(I)Z"⟩, 7) := ⟨⟨by decide +kernel, by decide +kernel⟩, List.mem_of_getElem? (i := 24) (by decide +kernel), List.mem_of_getElem? (i := 344) (by decide +kernel), List.mem_of_getElem? (i := 345) (by decide +kernel)⟩
theorem lw_p12 : lw_okq (⟨"RingWord$Ring", "come", "(I)V"⟩, 7) := ⟨⟨by decide +kernel, by decide +kernel⟩, List.mem_of_getElem? (i := 24) (by decide +kernel), List.mem_of_getElem? (i := 398) (by decide +kernel), List.mem_of_getElem? (i := 399) (by decide +kernel)⟩
theorem lw_p13 : lw_okq (⟨"RingWord", "startTrial", "()V"⟩, 8) := ⟨⟨by decide +kernel, by decide +kernel⟩, List.mem_of_getElem? (i := 16) (by decide +kernel), List.mem_of_getElem? (i := 407) (by decide +kernel), List.mem_of_getElem? (i := 408) (by decide +kernel)⟩
theorem lw_p14 : lw_okq (⟨"RingWord", "startTrialWith", "(III)V"⟩, 8) := ⟨⟨by decide +kernel, by decide +kernel⟩, List.mem_of_getElem? (i := 16) (by decide +kernel), List.mem_of_getElem? (i := 431) (by decide +kernel), List.mem_of_getElem? (i := 432) (by decide +kernel)⟩
theorem lw_p15 : lw_okq (⟨"RingWord", "tryFailing", "(II)V"⟩, 8) := ⟨⟨by decide +kernel, by decide +kernel⟩, List.mem_of_getElem? (i := 16) (by decide +kernel), List.mem_of_getElem? (i := 462) (by decide +kernel), List.mem_of_getElem? (i := 463) (by decide +kernel)⟩
def lw_privs_1 : List (MethodName × Nat) := [(⟨"RingWord$Tape", "advance", "()V"⟩, 7), (⟨"RingWord$Tape", "sortAt", "(I)I"⟩, 7), (⟨"RingWord$Tape", "blame", "(II)V"⟩, 7), (⟨"RingWord$Tape", "takeLine", "(LRingWord$Ring;)V"⟩, 7), (⟨"RingWord$Tape", "lineBegun", "()I"⟩, 7), (⟨"RingWord$Tape", "isNamed", "(Ljava/lang/String;)Z"⟩, 7), (⟨"RingWord$Tape", "takeWord", "(LRingWord$Ring;)V"⟩, 7), (⟨"RingWord$Tape", "takeNumber", "(II)I"⟩, 7), (⟨"RingWord$Tape", "require", "(I)V"⟩, 7), (⟨"RingWord$Tape", "takeStation", "(LRingWord$Ring;I)V"⟩, 7), (⟨"RingWord$Tape", "placeWord", "(LRingWord$Ring;)V"⟩, 7), (⟨"RingWord$Ring", "isLonger", "(I)Z"⟩, 7), (⟨"RingWord$Ring", "come", "(I)V"⟩, 7), (⟨"RingWord", "startTrial", "()V"⟩, 8), (⟨"RingWord", "startTrialWith", "(III)V"⟩, 8), (⟨"RingWord", "tryFailing", "(II)V"⟩, 8)]
theorem lw_r1 : ∀ q ∈ lw_privs_1, lw_okq q := List.forall_mem_cons.mpr ⟨lw_p0, List.forall_mem_cons.mpr ⟨lw_p1, List.forall_mem_cons.mpr ⟨lw_p2, List.forall_mem_cons.mpr ⟨lw_p3, List.forall_mem_cons.mpr ⟨lw_p4, List.forall_mem_cons.mpr ⟨lw_p5, List.forall_mem_cons.mpr ⟨lw_p6, List.forall_mem_cons.mpr ⟨lw_p7, List.forall_mem_cons.mpr ⟨lw_p8, List.forall_mem_cons.mpr ⟨lw_p9, List.forall_mem_cons.mpr ⟨lw_p10, List.forall_mem_cons.mpr ⟨lw_p11, List.forall_mem_cons.mpr ⟨lw_p12, List.forall_mem_cons.mpr ⟨lw_p13, List.forall_mem_cons.mpr ⟨lw_p14, List.forall_mem_cons.mpr ⟨lw_p15, fun _ h => absurd h List.not_mem_nil⟩⟩⟩⟩⟩⟩⟩⟩⟩⟩⟩⟩⟩⟩⟩⟩
theorem lw_p16 : lw_okq (⟨"RingWord", "fitting", "(II)I"⟩, 8) := ⟨⟨by decide +kernel, by decide +kernel⟩, List.mem_of_getElem? (i := 16) (by decide +kernel), List.mem_of_getElem? (i := 493) (by decide +kernel), List.mem_of_getElem? (i := 494) (by decide +kernel)⟩
theorem lw_p17 : lw_okq (⟨"RingWord$Seen", "latest", "()I"⟩, 4) := ⟨⟨by decide +kernel, by decide +kernel⟩, List.mem_of_getElem? (i := 66) (by decide +kernel), List.mem_of_getElem? (i := 501) (by decide +kernel), List.mem_of_getElem? (i := 502) (by decide +kernel)⟩
theorem lw_p18 : lw_okq (⟨"RingWord$Seen", "fitsBehind", "(LRingWord$Ring;I)Z"⟩, 4) := ⟨⟨by decide +kernel, by decide +kernel⟩, List.mem_of_getElem? (i := 66) (by decide +kernel), List.mem_of_getElem? (i := 506) (by decide +kernel), List.mem_of_getElem? (i := 507) (by decide +kernel)⟩
theorem lw_p19 : lw_okq (⟨"RingWord", "lookAhead", "(II)V"⟩, 8) := ⟨⟨by decide +kernel, by decide +kernel⟩, List.mem_of_getElem? (i := 16) (by decide +kernel), List.mem_of_getElem? (i := 520) (by decide +kernel), List.mem_of_getElem? (i := 521) (by decide +kernel)⟩
theorem lw_p20 : lw_okq (⟨"RingWord", "worstLeft", "(II)I"⟩, 8) := ⟨⟨by decide +kernel, by decide +kernel⟩, List.mem_of_getElem? (i := 16) (by decide +kernel), List.mem_of_getElem? (i := 530) (by decide +kernel), List.mem_of_getElem? (i := 531) (by decide +kernel)⟩
theorem lw_p21 : lw_okq (⟨"RingWord", "alike", "(III)I"⟩, 8) := ⟨⟨by decide +kernel, by decide +kernel⟩, List.mem_of_getElem? (i := 16) (by decide +kernel), List.mem_of_getElem? (i := 534) (by decide +kernel), List.mem_of_getElem? (i := 535) (by decide +kernel)⟩
theorem lw_p22 : lw_okq (⟨"RingWord", "keptImages", "()I"⟩, 8) := ⟨⟨by decide +kernel, by decide +kernel⟩, List.mem_of_getElem? (i := 16) (by decide +kernel), List.mem_of_getElem? (i := 594) (by decide +kernel), List.mem_of_getElem? (i := 595) (by decide +kernel)⟩
theorem lw_p23 : lw_okq (⟨"RingWordModel", "firstDraft", "()V"⟩, 30) := ⟨⟨by decide +kernel, by decide +kernel⟩, List.mem_of_getElem? (i := 598) (by decide +kernel), List.mem_of_getElem? (i := 604) (by decide +kernel), List.mem_of_getElem? (i := 605) (by decide +kernel)⟩
theorem lw_p24 : lw_okq (⟨"RingWordModel", "keepDraft", "()V"⟩, 30) := ⟨⟨by decide +kernel, by decide +kernel⟩, List.mem_of_getElem? (i := 598) (by decide +kernel), List.mem_of_getElem? (i := 608) (by decide +kernel), List.mem_of_getElem? (i := 609) (by decide +kernel)⟩
theorem lw_p25 : lw_okq (⟨"RingWordModel", "reads", "()V"⟩, 30) := ⟨⟨by decide +kernel, by decide +kernel⟩, List.mem_of_getElem? (i := 598) (by decide +kernel), List.mem_of_getElem? (i := 720) (by decide +kernel), List.mem_of_getElem? (i := 721) (by decide +kernel)⟩
theorem lw_p26 : lw_okq (⟨"RingWordModel", "byteAt", "(I)I"⟩, 30) := ⟨⟨by decide +kernel, by decide +kernel⟩, List.mem_of_getElem? (i := 598) (by decide +kernel), List.mem_of_getElem? (i := 724) (by decide +kernel), List.mem_of_getElem? (i := 725) (by decide +kernel)⟩
theorem lw_p27 : lw_okq (⟨"RingWordModel", "requires", "(ZI)V"⟩, 30) := ⟨⟨by decide +kernel, by decide +kernel⟩, List.mem_of_getElem? (i := 598) (by decide +kernel), List.mem_of_getElem? (i := 732) (by decide +kernel), List.mem_of_getElem? (i := 733) (by decide +kernel)⟩
theorem lw_p28 : lw_okq (⟨"RingWordModel", "readLine", "()V"⟩, 30) := ⟨⟨by decide +kernel, by decide +kernel⟩, List.mem_of_getElem? (i := 598) (by decide +kernel), List.mem_of_getElem? (i := 736) (by decide +kernel), List.mem_of_getElem? (i := 737) (by decide +kernel)⟩
theorem lw_p29 : lw_okq (⟨"RingWordModel", "lineNow", "()I"⟩, 30) := ⟨⟨by decide +kernel, by decide +kernel⟩, List.mem_of_getElem? (i := 598) (by decide +kernel), List.mem_of_getElem? (i := 740) (by decide +kernel), List.mem_of_getElem? (i := 741) (by decide +kernel)⟩
theorem lw_p30 : lw_okq (⟨"RingWordModel", "is", "(IIIII)Z"⟩, 30) := ⟨⟨by decide +kernel, by decide +kernel⟩, List.mem_of_getElem? (i := 598) (by decide +kernel), List.mem_of_getElem? (i := 744) (by decide +kernel), List.mem_of_getElem? (i := 745) (by decide +kernel)⟩
theorem lw_p31 : lw_okq (⟨"RingWordModel", "readNumber", "(II)I"⟩, 30) := ⟨⟨by decide +kernel, by decide +kernel⟩, List.mem_of_getElem? (i := 598) (by decide +kernel), List.mem_of_getElem? (i := 748) (by decide +kernel), List.mem_of_getElem? (i := 749) (by decide +kernel)⟩
def lw_privs_2 : List (MethodName × Nat) := [(⟨"RingWord", "fitting", "(II)I"⟩, 8), (⟨"RingWord$Seen", "latest", "()I"⟩, 4), (⟨"RingWord$Seen", "fitsBehind", "(LRingWord$Ring;I)Z"⟩, 4), (⟨"RingWord", "lookAhead", "(II)V"⟩, 8), (⟨"RingWord", "worstLeft", "(II)I"⟩, 8), (⟨"RingWord", "alike", "(III)I"⟩, 8), (⟨"RingWord", "keptImages", "()I"⟩, 8), (⟨"RingWordModel", "firstDraft", "()V"⟩, 30), (⟨"RingWordModel", "keepDraft", "()V"⟩, 30), (⟨"RingWordModel", "reads", "()V"⟩, 30), (⟨"RingWordModel", "byteAt", "(I)I"⟩, 30), (⟨"RingWordModel", "requires", "(ZI)V"⟩, 30), (⟨"RingWordModel", "readLine", "()V"⟩, 30), (⟨"RingWordModel", "lineNow", "()I"⟩, 30), (⟨"RingWordModel", "is", "(IIIII)Z"⟩, 30), (⟨"RingWordModel", "readNumber", "(II)I"⟩, 30)]
theorem lw_r2 : ∀ q ∈ lw_privs_2, lw_okq q := List.forall_mem_cons.mpr ⟨lw_p16, List.forall_mem_cons.mpr ⟨lw_p17, List.forall_mem_cons.mpr ⟨lw_p18, List.forall_mem_cons.mpr ⟨lw_p19, List.forall_mem_cons.mpr ⟨lw_p20, List.forall_mem_cons.mpr ⟨lw_p21, List.forall_mem_cons.mpr ⟨lw_p22, List.forall_mem_cons.mpr ⟨lw_p23, List.forall_mem_cons.mpr ⟨lw_p24, List.forall_mem_cons.mpr ⟨lw_p25, List.forall_mem_cons.mpr ⟨lw_p26, List.forall_mem_cons.mpr ⟨lw_p27, List.forall_mem_cons.mpr ⟨lw_p28, List.forall_mem_cons.mpr ⟨lw_p29, List.forall_mem_cons.mpr ⟨lw_p30, List.forall_mem_cons.mpr ⟨lw_p31, fun _ h => absurd h List.not_mem_nil⟩⟩⟩⟩⟩⟩⟩⟩⟩⟩⟩⟩⟩⟩⟩⟩
theorem lw_p32 : lw_okq (⟨"RingWordModel", "readStation", "(I)V"⟩, 30) := ⟨⟨by decide +kernel, by decide +kernel⟩, List.mem_of_getElem? (i := 598) (by decide +kernel), List.mem_of_getElem? (i := 752) (by decide +kernel), List.mem_of_getElem? (i := 753) (by decide +kernel)⟩
theorem lw_p33 : lw_okq (⟨"RingWordModel", "starts", "()V"⟩, 30) := ⟨⟨by decide +kernel, by decide +kernel⟩, List.mem_of_getElem? (i := 598) (by decide +kernel), List.mem_of_getElem? (i := 770) (by decide +kernel), List.mem_of_getElem? (i := 771) (by decide +kernel)⟩
theorem lw_p34 : lw_okq (⟨"RingWordModel", "sumOf", "(I)I"⟩, 30) := ⟨⟨by decide +kernel, by decide +kernel⟩, List.mem_of_getElem? (i := 598) (by decide +kernel), List.mem_of_getElem? (i := 774) (by decide +kernel), List.mem_of_getElem? (i := 775) (by decide +kernel)⟩
theorem lw_p35 : lw_okq (⟨"RingWordModel", "of", "(II)I"⟩, 30) := ⟨⟨by decide +kernel, by decide +kernel⟩, List.mem_of_getElem? (i := 598) (by decide +kernel), List.mem_of_getElem? (i := 778) (by decide +kernel), List.mem_of_getElem? (i := 779) (by decide +kernel)⟩
theorem lw_p36 : lw_okq (⟨"RingWordModel", "sendsNow", "(I)I"⟩, 30) := ⟨⟨by decide +kernel, by decide +kernel⟩, List.mem_of_getElem? (i := 598) (by decide +kernel), List.mem_of_getElem? (i := 782) (by decide +kernel), List.mem_of_getElem? (i := 783) (by decide +kernel)⟩
theorem lw_p37 : lw_okq (⟨"RingWordModel", "isOutdone", "(I)Z"⟩, 30) := ⟨⟨by decide +kernel, by decide +kernel⟩, List.mem_of_getElem? (i := 598) (by decide +kernel), List.mem_of_getElem? (i := 789) (by decide +kernel), List.mem_of_getElem? (i := 790) (by decide +kernel)⟩
theorem lw_p38 : lw_okq (⟨"RingWordModel", "isStation", "(I)Z"⟩, 30) := ⟨⟨by decide +kernel, by decide +kernel⟩, List.mem_of_getElem? (i := 598) (by decide +kernel), List.mem_of_getElem? (i := 797) (by decide +kernel), List.mem_of_getElem? (i := 798) (by decide +kernel)⟩
theorem lw_p39 : lw_okq (⟨"RingWordModel", "becomes", "(II)I"⟩, 30) := ⟨⟨by decide +kernel, by decide +kernel⟩, List.mem_of_getElem? (i := 598) (by decide +kernel), List.mem_of_getElem? (i := 807) (by decide +kernel), List.mem_of_getElem? (i := 808) (by decide +kernel)⟩
theorem lw_p40 : lw_okq (⟨"RingWordModel", "comesTo", "(II)I"⟩, 30) := ⟨⟨by decide +kernel, by decide +kernel⟩, List.mem_of_getElem? (i := 598) (by decide +kernel), List.mem_of_getElem? (i := 820) (by decide +kernel), List.mem_of_getElem? (i := 821) (by decide +kernel)⟩
theorem lw_p41 : lw_okq (⟨"RingWordModel", "becomesOf", "(III)V"⟩, 30) := ⟨⟨by decide +kernel, by decide +kernel⟩, List.mem_of_getElem? (i := 598) (by decide +kernel), List.mem_of_getElem? (i := 824) (by decide +kernel), List.mem_of_getElem? (i := 825) (by decide +kernel)⟩
theorem lw_p42 : lw_okq (⟨"RingWordModel", "growsTo", "(II)V"⟩, 30) := ⟨⟨by decide +kernel, by decide +kernel⟩, List.mem_of_getElem? (i := 598) (by decide +kernel), List.mem_of_getElem? (i := 828) (by decide +kernel), List.mem_of_getElem? (i := 829) (by decide +kernel)⟩
theorem lw_p43 : lw_okq (⟨"RingWordModel", "settles", "()V"⟩, 30) := ⟨⟨by decide +kernel, by decide +kernel⟩, List.mem_of_getElem? (i := 598) (by decide +kernel), List.mem_of_getElem? (i := 833) (by decide +kernel), List.mem_of_getElem? (i := 834) (by decide +kernel)⟩
theorem lw_p44 : lw_okq (⟨"RingWordModel", "trades", "(II)V"⟩, 30) := ⟨⟨by decide +kernel, by decide +kernel⟩, List.mem_of_getElem? (i := 598) (by decide +kernel), List.mem_of_getElem? (i := 841) (by decide +kernel), List.mem_of_getElem? (i := 842) (by decide +kernel)⟩
theorem lw_p45 : lw_okq (⟨"RingWordModel", "visitsGo", "(I)V"⟩, 30) := ⟨⟨by decide +kernel, by decide +kernel⟩, List.mem_of_getElem? (i := 598) (by decide +kernel), List.mem_of_getElem? (i := 850) (by decide +kernel), List.mem_of_getElem? (i := 851) (by decide +kernel)⟩
theorem lw_p46 : lw_okq (⟨"RingWordModel", "visitGoes", "(Z)V"⟩, 30) := ⟨⟨by decide +kernel, by decide +kernel⟩, List.mem_of_getElem? (i := 598) (by decide +kernel), List.mem_of_getElem? (i := 854) (by decide +kernel), List.mem_of_getElem? (i := 855) (by decide +kernel)⟩
theorem lw_p47 : lw_okq (⟨"RingWordModel", "startsJudging", "(I)V"⟩, 30) := ⟨⟨by decide +kernel, by decide +kernel⟩, List.mem_of_getElem? (i := 598) (by decide +kernel), List.mem_of_getElem? (i := 886) (by decide +kernel), List.mem_of_getElem? (i := 887) (by decide +kernel)⟩
def lw_privs_3 : List (MethodName × Nat) := [(⟨"RingWordModel", "readStation", "(I)V"⟩, 30), (⟨"RingWordModel", "starts", "()V"⟩, 30), (⟨"RingWordModel", "sumOf", "(I)I"⟩, 30), (⟨"RingWordModel", "of", "(II)I"⟩, 30), (⟨"RingWordModel", "sendsNow", "(I)I"⟩, 30), (⟨"RingWordModel", "isOutdone", "(I)Z"⟩, 30), (⟨"RingWordModel", "isStation", "(I)Z"⟩, 30), (⟨"RingWordModel", "becomes", "(II)I"⟩, 30), (⟨"RingWordModel", "comesTo", "(II)I"⟩, 30), (⟨"RingWordModel", "becomesOf", "(III)V"⟩, 30), (⟨"RingWordModel", "growsTo", "(II)V"⟩, 30), (⟨"RingWordModel", "settles", "()V"⟩, 30), (⟨"RingWordModel", "trades", "(II)V"⟩, 30), (⟨"RingWordModel", "visitsGo", "(I)V"⟩, 30), (⟨"RingWordModel", "visitGoes", "(Z)V"⟩, 30), (⟨"RingWordModel", "startsJudging", "(I)V"⟩, 30)]
theorem lw_r3 : ∀ q ∈ lw_privs_3, lw_okq q := List.forall_mem_cons.mpr ⟨lw_p32, List.forall_mem_cons.mpr ⟨lw_p33, List.forall_mem_cons.mpr ⟨lw_p34, List.forall_mem_cons.mpr ⟨lw_p35, List.forall_mem_cons.mpr ⟨lw_p36, List.forall_mem_cons.mpr ⟨lw_p37, List.forall_mem_cons.mpr ⟨lw_p38, List.forall_mem_cons.mpr ⟨lw_p39, List.forall_mem_cons.mpr ⟨lw_p40, List.forall_mem_cons.mpr ⟨lw_p41, List.forall_mem_cons.mpr ⟨lw_p42, List.forall_mem_cons.mpr ⟨lw_p43, List.forall_mem_cons.mpr ⟨lw_p44, List.forall_mem_cons.mpr ⟨lw_p45, List.forall_mem_cons.mpr ⟨lw_p46, List.forall_mem_cons.mpr ⟨lw_p47, fun _ h => absurd h List.not_mem_nil⟩⟩⟩⟩⟩⟩⟩⟩⟩⟩⟩⟩⟩⟩⟩⟩
theorem lw_p48 : lw_okq (⟨"RingWordModel", "judges", "(II)V"⟩, 30) := ⟨⟨by decide +kernel, by decide +kernel⟩, List.mem_of_getElem? (i := 598) (by decide +kernel), List.mem_of_getElem? (i := 890) (by decide +kernel), List.mem_of_getElem? (i := 891) (by decide +kernel)⟩
theorem lw_p49 : lw_okq (⟨"RingWordModel", "judgedMore", "(I)I"⟩, 30) := ⟨⟨by decide +kernel, by decide +kernel⟩, List.mem_of_getElem? (i := 598) (by decide +kernel), List.mem_of_getElem? (i := 894) (by decide +kernel), List.mem_of_getElem? (i := 895) (by decide +kernel)⟩
theorem lw_p50 : lw_okq (⟨"RingWordModel", "judged", "(I)I"⟩, 30) := ⟨⟨by decide +kernel, by decide +kernel⟩, List.mem_of_getElem? (i := 598) (by decide +kernel), List.mem_of_getElem? (i := 903) (by decide +kernel), List.mem_of_getElem? (i := 904) (by decide +kernel)⟩
theorem lw_p51 : lw_okq (⟨"RingWordModel", "findOdds", "(IIII)V"⟩, 30) := ⟨⟨by decide +kernel, by decide +kernel⟩, List.mem_of_getElem? (i := 598) (by decide +kernel), List.mem_of_getElem? (i := 926) (by decide +kernel), List.mem_of_getElem? (i := 927) (by decide +kernel)⟩
theorem lw_p52 : lw_okq (⟨"RingWordModel", "which", "(II)I"⟩, 30) := ⟨⟨by decide +kernel, by decide +kernel⟩, List.mem_of_getElem? (i := 598) (by decide +kernel), List.mem_of_getElem? (i := 953) (by decide +kernel), List.mem_of_getElem? (i := 954) (by decide +kernel)⟩
theorem lw_p53 : lw_okq (⟨"RingWordModel", "isSoWith", "(II)Z"⟩, 30) := ⟨⟨by decide +kernel, by decide +kernel⟩, List.mem_of_getElem? (i := 598) (by decide +kernel), List.mem_of_getElem? (i := 957) (by decide +kernel), List.mem_of_getElem? (i := 958) (by decide +kernel)⟩
theorem lw_p54 : lw_okq (⟨"RingWordModel", "copies", "(II)V"⟩, 30) := ⟨⟨by decide +kernel, by decide +kernel⟩, List.mem_of_getElem? (i := 598) (by decide +kernel), List.mem_of_getElem? (i := 978) (by decide +kernel), List.mem_of_getElem? (i := 979) (by decide +kernel)⟩
def lw_privs_4 : List (MethodName × Nat) := [(⟨"RingWordModel", "judges", "(II)V"⟩, 30), (⟨"RingWordModel", "judgedMore", "(I)I"⟩, 30), (⟨"RingWordModel", "judged", "(I)I"⟩, 30), (⟨"RingWordModel", "findOdds", "(IIII)V"⟩, 30), (⟨"RingWordModel", "which", "(II)I"⟩, 30), (⟨"RingWordModel", "isSoWith", "(II)Z"⟩, 30), (⟨"RingWordModel", "copies", "(II)V"⟩, 30)]
theorem lw_r4 : ∀ q ∈ lw_privs_4, lw_okq q := List.forall_mem_cons.mpr ⟨lw_p48, List.forall_mem_cons.mpr ⟨lw_p49, List.forall_mem_cons.mpr ⟨lw_p50, List.forall_mem_cons.mpr ⟨lw_p51, List.forall_mem_cons.mpr ⟨lw_p52, List.forall_mem_cons.mpr ⟨lw_p53, List.forall_mem_cons.mpr ⟨lw_p54, fun _ h => absurd h List.not_mem_nil⟩⟩⟩⟩⟩⟩⟩
def lw_privs : List (MethodName × Nat) := lw_privs_1 ++ (lw_privs_2 ++ (lw_privs_3 ++ (lw_privs_4)))
def lw_tbl : List Cond := k2_sels lw_privs ++ tables_1
theorem lw_privs_ok : ∀ q ∈ lw_privs, lw_okq q := by
  show ∀ q ∈ lw_privs_1 ++ (lw_privs_2 ++ (lw_privs_3 ++ (lw_privs_4))), lw_okq q
  exact List.forall_mem_append.mpr ⟨lw_r1, List.forall_mem_append.mpr ⟨lw_r2, List.forall_mem_append.mpr ⟨lw_r3, lw_r4⟩⟩⟩

-- names: classes, fields, methods
def RX0 : String := "RingWord$Image"
def TX0 : u_T := fun k => match k with
  | 0 => ("RingWord$Image", "ring", "LRingWord$Ring;", true)
  | 1 => ("RingWord$Image", "seen", "LRingWord$Seen;", true)
  | _ => ("RingWord$Image", "kept", "Z", false)
def tyX0 : Nat → FieldType := fun k => match k with
  | 0 => .object "RingWord$Ring"
  | 1 => .object "RingWord$Seen"
  | _ => .boolean
theorem nmX0 : ∀ a, a < 3 → ∀ b, b < 3 → a ≠ b → (TX0 a).2.1 ≠ (TX0 b).2.1 := by decide +kernel
theorem tyX0_ok : ∀ k, k < 3 → parseFieldDescriptor (TX0 k).2.2.1 = some (tyX0 k) := by decide +kernel
def yX0_init : MethodName := ⟨RX0, "<init>", "()V"⟩
def RX1 : String := "RingWord$Ring"
def TX1 : u_T := fun k => match k with
  | 0 => ("RingWord$Ring", "rows", "[[I", true)
  | 1 => ("RingWord$Ring", "stations", "I", false)
  | 2 => ("RingWord$Ring", "word", "I", false)
  | 3 => ("RingWord$Ring", "time", "I", false)
  | 4 => ("RingWord$Ring", "visited", "I", false)
  | 5 => ("RingWord$Ring", "sent", "I", false)
  | _ => ("RingWord$Ring", "lost", "I", false)
def tyX1 : Nat → FieldType := fun k => match k with
  | 0 => .array (.array .int)
  | 1 => .int
  | 2 => .int
  | 3 => .int
  | 4 => .int
  | 5 => .int
  | _ => .int
theorem nmX1 : ∀ a, a < 7 → ∀ b, b < 7 → a ≠ b → (TX1 a).2.1 ≠ (TX1 b).2.1 := by decide +kernel
theorem tyX1_ok : ∀ k, k < 7 → parseFieldDescriptor (TX1 k).2.2.1 = some (tyX1 k) := by decide +kernel
def yX1_init : MethodName := ⟨RX1, "<init>", "()V"⟩
def yX1_clear : MethodName := ⟨RX1, "clear", "()V"⟩
def yX1_copyFrom : MethodName := ⟨RX1, "copyFrom", "(LRingWord$Ring;)V"⟩
def yX1_has : MethodName := ⟨RX1, "has", "(I)Z"⟩
def yX1_takes : MethodName := ⟨RX1, "takes", "(II)Z"⟩
def yX1_total : MethodName := ⟨RX1, "total", "(I)I"⟩
def yX1_exchange : MethodName := ⟨RX1, "exchange", "(II)V"⟩
def yX1_due : MethodName := ⟨RX1, "due", "()I"⟩
def yX1_isLonger : MethodName := ⟨RX1, "isLonger", "(I)Z"⟩
def yX1_go : MethodName := ⟨RX1, "go", "(I)V"⟩
def yX1_visit : MethodName := ⟨RX1, "visit", "(Z)I"⟩
def yX1_come : MethodName := ⟨RX1, "come", "(I)V"⟩
def yX1_add : MethodName := ⟨RX1, "add", "(II)I"⟩
def yX1_cut : MethodName := ⟨RX1, "cut", "()V"⟩
def RX2 : String := "RingWord$Seen"
def TX2 : u_T := fun k => match k with
  | 0 => ("RingWord$Seen", "behind", "[I", true)
  | 1 => ("RingWord$Seen", "who", "[I", true)
  | 2 => ("RingWord$Seen", "queue", "[I", true)
  | _ => ("RingWord$Seen", "many", "I", false)
def tyX2 : Nat → FieldType := fun k => match k with
  | 0 => .array .int
  | 1 => .array .int
  | 2 => .array .int
  | _ => .int
theorem nmX2 : ∀ a, a < 4 → ∀ b, b < 4 → a ≠ b → (TX2 a).2.1 ≠ (TX2 b).2.1 := by decide +kernel
theorem tyX2_ok : ∀ k, k < 4 → parseFieldDescriptor (TX2 k).2.2.1 = some (tyX2 k) := by decide +kernel
def yX2_init : MethodName := ⟨RX2, "<init>", "()V"⟩
def yX2_add : MethodName := ⟨RX2, "add", "(III)V"⟩
def yX2_copyFrom : MethodName := ⟨RX2, "copyFrom", "(LRingWord$Seen;)V"⟩
def yX2_fits : MethodName := ⟨RX2, "fits", "(LRingWord$Ring;)Z"⟩
def yX2_latest : MethodName := ⟨RX2, "latest", "()I"⟩
def yX2_fitsBehind : MethodName := ⟨RX2, "fitsBehind", "(LRingWord$Ring;I)Z"⟩
def RX3 : String := "RingWord$Sheet"
def TX3 : u_T := fun k => match k with
  | 0 => ("RingWord$Sheet", "cells", "[I", true)
  | 1 => ("RingWord$Sheet", "lane", "I", false)
  | _ => ("RingWord$Sheet", "size", "I", false)
def tyX3 : Nat → FieldType := fun k => match k with
  | 0 => .array .int
  | 1 => .int
  | _ => .int
theorem nmX3 : ∀ a, a < 3 → ∀ b, b < 3 → a ≠ b → (TX3 a).2.1 ≠ (TX3 b).2.1 := by decide +kernel
theorem tyX3_ok : ∀ k, k < 3 → parseFieldDescriptor (TX3 k).2.2.1 = some (tyX3 k) := by decide +kernel
def yX3_init : MethodName := ⟨RX3, "<init>", "()V"⟩
def yX3_renew : MethodName := ⟨RX3, "renew", "(II)V"⟩
def yX3_write : MethodName := ⟨RX3, "write", "(II)V"⟩
def yX3_faultAt : MethodName := ⟨RX3, "faultAt", "(II)I"⟩
def yX3_faultOfPair : MethodName := ⟨RX3, "faultOfPair", "(II)I"⟩
def RX4 : String := "RingWord$Tape"
def TX4 : u_T := fun k => match k with
  | 0 => ("RingWord$Tape", "bytes", "[B", true)
  | 1 => ("RingWord$Tape", "length", "I", false)
  | 2 => ("RingWord$Tape", "fault", "I", false)
  | 3 => ("RingWord$Tape", "place", "I", false)
  | 4 => ("RingWord$Tape", "next", "I", false)
  | 5 => ("RingWord$Tape", "sort", "I", false)
  | _ => ("RingWord$Tape", "from", "I", false)
def tyX4 : Nat → FieldType := fun k => match k with
  | 0 => .array .byte
  | 1 => .int
  | 2 => .int
  | 3 => .int
  | 4 => .int
  | 5 => .int
  | _ => .int
theorem nmX4 : ∀ a, a < 7 → ∀ b, b < 7 → a ≠ b → (TX4 a).2.1 ≠ (TX4 b).2.1 := by decide +kernel
theorem tyX4_ok : ∀ k, k < 7 → parseFieldDescriptor (TX4 k).2.2.1 = some (tyX4 k) := by decide +kernel
def yX4_init : MethodName := ⟨RX4, "<init>", "()V"⟩
def yX4_tellAll : MethodName := ⟨RX4, "tellAll", "(LRingWord$Ring;)I"⟩
def yX4_placeWord : MethodName := ⟨RX4, "placeWord", "(LRingWord$Ring;)V"⟩
def yX4_takeLine : MethodName := ⟨RX4, "takeLine", "(LRingWord$Ring;)V"⟩
def yX4_takeWord : MethodName := ⟨RX4, "takeWord", "(LRingWord$Ring;)V"⟩
def yX4_takeStation : MethodName := ⟨RX4, "takeStation", "(LRingWord$Ring;I)V"⟩
def yX4_lineBegun : MethodName := ⟨RX4, "lineBegun", "()I"⟩
def yX4_isNamed : MethodName := ⟨RX4, "isNamed", "(Ljava/lang/String;)Z"⟩
def yX4_takeNumber : MethodName := ⟨RX4, "takeNumber", "(II)I"⟩
def yX4_require : MethodName := ⟨RX4, "require", "(I)V"⟩
def yX4_advance : MethodName := ⟨RX4, "advance", "()V"⟩
def yX4_sortAt : MethodName := ⟨RX4, "sortAt", "(I)I"⟩
def yX4_blame : MethodName := ⟨RX4, "blame", "(II)V"⟩
def RX5 : String := "RingWord"
def TX5 : u_T := fun k => match k with
  | 0 => ("RingWord", "ring", "LRingWord$Ring;", true)
  | 1 => ("RingWord", "trial", "LRingWord$Ring;", true)
  | 2 => ("RingWord", "seen", "LRingWord$Seen;", true)
  | 3 => ("RingWord", "tape", "LRingWord$Tape;", true)
  | 4 => ("RingWord", "images", "[LRingWord$Image;", true)
  | 5 => ("RingWord", "sheets", "[LRingWord$Sheet;", true)
  | 6 => ("RingWord", "looks", "[[I", true)
  | _ => ("RingWord", "torn", "I", false)
def tyX5 : Nat → FieldType := fun k => match k with
  | 0 => .object "RingWord$Ring"
  | 1 => .object "RingWord$Ring"
  | 2 => .object "RingWord$Seen"
  | 3 => .object "RingWord$Tape"
  | 4 => .array (.object "RingWord$Image")
  | 5 => .array (.object "RingWord$Sheet")
  | 6 => .array (.array .int)
  | _ => .int
theorem nmX5 : ∀ a, a < 8 → ∀ b, b < 8 → a ≠ b → (TX5 a).2.1 ≠ (TX5 b).2.1 := by decide +kernel
theorem tyX5_ok : ∀ k, k < 8 → parseFieldDescriptor (TX5 k).2.2.1 = some (tyX5 k) := by decide +kernel
def yX5_init : MethodName := ⟨RX5, "<init>", "()V"⟩
def yX5_feed : MethodName := ⟨RX5, "feed", "(I)I"⟩
def yX5_end : MethodName := ⟨RX5, "end", "(I)I"⟩
def yX5_text : MethodName := ⟨RX5, "text", "()I"⟩
def yX5_fault : MethodName := ⟨RX5, "fault", "()I"⟩
def yX5_rule : MethodName := ⟨RX5, "rule", "(I)I"⟩
def yX5_station : MethodName := ⟨RX5, "station", "(II)I"⟩
def yX5_alter : MethodName := ⟨RX5, "alter", "(III)I"⟩
def yX5_give : MethodName := ⟨RX5, "give", "(I)I"⟩
def yX5_post : MethodName := ⟨RX5, "post", "(II)I"⟩
def yX5_change : MethodName := ⟨RX5, "change", "(II)I"⟩
def yX5_visits : MethodName := ⟨RX5, "visits", "(I)I"⟩
def yX5_runs : MethodName := ⟨RX5, "runs", "(II)I"⟩
def yX5_ahead : MethodName := ⟨RX5, "ahead", "(III)I"⟩
def yX5_when : MethodName := ⟨RX5, "when", "(I)I"⟩
def yX5_kind : MethodName := ⟨RX5, "kind", "(III)I"⟩
def yX5_hold : MethodName := ⟨RX5, "hold", "(III)I"⟩
def yX5_swap : MethodName := ⟨RX5, "swap", "(II)I"⟩
def yX5_pass : MethodName := ⟨RX5, "pass", "(II)I"⟩
def yX5_begin : MethodName := ⟨RX5, "begin", "(II)I"⟩
def yX5_luck : MethodName := ⟨RX5, "luck", "(IIIII)J"⟩
def yX5_mean : MethodName := ⟨RX5, "mean", "(III)J"⟩
def yX5_see : MethodName := ⟨RX5, "see", "(III)I"⟩
def yX5_forget : MethodName := ⟨RX5, "forget", "(I)I"⟩
def yX5_kinds : MethodName := ⟨RX5, "kinds", "(I)I"⟩
def yX5_gains : MethodName := ⟨RX5, "gains", "(I)I"⟩
def yX5_ask : MethodName := ⟨RX5, "ask", "(II)I"⟩
def yX5_drift : MethodName := ⟨RX5, "drift", "(III)I"⟩
def yX5_keep : MethodName := ⟨RX5, "keep", "(I)I"⟩
def yX5_back : MethodName := ⟨RX5, "back", "(I)I"⟩
def yX5_sheet : MethodName := ⟨RX5, "sheet", "(III)I"⟩
def yX5_lay : MethodName := ⟨RX5, "lay", "(III)I"⟩
def yX5_read : MethodName := ⟨RX5, "read", "(IIII)I"⟩
def yX5_torn : MethodName := ⟨RX5, "torn", "()I"⟩
def yX5_count : MethodName := ⟨RX5, "count", "(I)I"⟩
def yX5_isOutside : MethodName := ⟨RX5, "isOutside", "(III)Z"⟩
def yX5_startTrial : MethodName := ⟨RX5, "startTrial", "()V"⟩
def yX5_startTrialWith : MethodName := ⟨RX5, "startTrialWith", "(III)V"⟩
def yX5_chanceOf : MethodName := ⟨RX5, "chanceOf", "(III)J"⟩
def yX5_isFailing : MethodName := ⟨RX5, "isFailing", "(II)Z"⟩
def yX5_tryFailing : MethodName := ⟨RX5, "tryFailing", "(II)V"⟩
def yX5_partOfFraction : MethodName := ⟨RX5, "partOfFraction", "(JII)J"⟩
def yX5_commonDivisor : MethodName := ⟨RX5, "commonDivisor", "(JJ)J"⟩
def yX5_fitting : MethodName := ⟨RX5, "fitting", "(II)I"⟩
def yX5_lookAhead : MethodName := ⟨RX5, "lookAhead", "(II)V"⟩
def yX5_worstLeft : MethodName := ⟨RX5, "worstLeft", "(II)I"⟩
def yX5_alike : MethodName := ⟨RX5, "alike", "(III)I"⟩
def yX5_keptImages : MethodName := ⟨RX5, "keptImages", "()I"⟩
def RX6 : String := "RingWordModel"
def TX6 : u_T := fun k => match k with
  | 0 => ("RingWordModel", "st", "[I", true)
  | 1 => ("RingWordModel", "now", "[I", true)
  | 2 => ("RingWordModel", "isKept", "[Z", true)
  | 3 => ("RingWordModel", "draft", "[I", true)
  | 4 => ("RingWordModel", "hasWord", "Z", false)
  | 5 => ("RingWordModel", "tape", "[I", true)
  | 6 => ("RingWordModel", "taped", "I", false)
  | 7 => ("RingWordModel", "pos", "I", false)
  | 8 => ("RingWordModel", "begun", "I", false)
  | 9 => ("RingWordModel", "sort", "I", false)
  | 10 => ("RingWordModel", "value", "I", false)
  | 11 => ("RingWordModel", "fault", "I", false)
  | 12 => ("RingWordModel", "wrongAt", "I", false)
  | 13 => ("RingWordModel", "passed", "I", false)
  | 14 => ("RingWordModel", "sentMany", "I", false)
  | 15 => ("RingWordModel", "timeGone", "I", false)
  | 16 => ("RingWordModel", "lostMany", "I", false)
  | 17 => ("RingWordModel", "sentBy", "[I", true)
  | 18 => ("RingWordModel", "bestCode", "I", false)
  | 19 => ("RingWordModel", "bestMuch", "I", false)
  | 20 => ("RingWordModel", "shortSum", "J", false)
  | 21 => ("RingWordModel", "sentSum", "J", false)
  | 22 => ("RingWordModel", "allWays", "J", false)
  | 23 => ("RingWordModel", "queues", "[I", true)
  | 24 => ("RingWordModel", "byGain", "[I", true)
  | 25 => ("RingWordModel", "lanes", "[I", true)
  | 26 => ("RingWordModel", "sizes", "[I", true)
  | 27 => ("RingWordModel", "cells", "[I", true)
  | 28 => ("RingWordModel", "torn", "I", false)
  | _ => ("RingWordModel", "before", "[I", true)
def tyX6 : Nat → FieldType := fun k => match k with
  | 0 => .array .int
  | 1 => .array .int
  | 2 => .array .boolean
  | 3 => .array .int
  | 4 => .boolean
  | 5 => .array .int
  | 6 => .int
  | 7 => .int
  | 8 => .int
  | 9 => .int
  | 10 => .int
  | 11 => .int
  | 12 => .int
  | 13 => .int
  | 14 => .int
  | 15 => .int
  | 16 => .int
  | 17 => .array .int
  | 18 => .int
  | 19 => .int
  | 20 => .long
  | 21 => .long
  | 22 => .long
  | 23 => .array .int
  | 24 => .array .int
  | 25 => .array .int
  | 26 => .array .int
  | 27 => .array .int
  | 28 => .int
  | _ => .array .int
theorem nmX6 : ∀ a, a < 30 → ∀ b, b < 30 → a ≠ b → (TX6 a).2.1 ≠ (TX6 b).2.1 := by decide +kernel
theorem tyX6_ok : ∀ k, k < 30 → parseFieldDescriptor (TX6 k).2.2.1 = some (tyX6 k) := by decide +kernel
def yX6_init : MethodName := ⟨RX6, "<init>", "()V"⟩
def yX6_in : MethodName := ⟨RX6, "in", "(JJJ)Z"⟩
def yX6_flag : MethodName := ⟨RX6, "flag", "(Z)I"⟩
def yX6_lesser : MethodName := ⟨RX6, "lesser", "(II)I"⟩
def yX6_firstDraft : MethodName := ⟨RX6, "firstDraft", "()V"⟩
def yX6_keepDraft : MethodName := ⟨RX6, "keepDraft", "()V"⟩
def yX6_feed : MethodName := ⟨RX6, "feed", "(I)I"⟩
def yX6_end : MethodName := ⟨RX6, "end", "(I)I"⟩
def yX6_requires : MethodName := ⟨RX6, "requires", "(ZI)V"⟩
def yX6_byteAt : MethodName := ⟨RX6, "byteAt", "(I)I"⟩
def yX6_is : MethodName := ⟨RX6, "is", "(IIIII)Z"⟩
def yX6_lineNow : MethodName := ⟨RX6, "lineNow", "()I"⟩
def yX6_reads : MethodName := ⟨RX6, "reads", "()V"⟩
def yX6_readNumber : MethodName := ⟨RX6, "readNumber", "(II)I"⟩
def yX6_lowOf : MethodName := ⟨RX6, "lowOf", "(I)I"⟩
def yX6_mostOf : MethodName := ⟨RX6, "mostOf", "(I)I"⟩
def yX6_readStation : MethodName := ⟨RX6, "readStation", "(I)V"⟩
def yX6_readLine : MethodName := ⟨RX6, "readLine", "()V"⟩
def yX6_text : MethodName := ⟨RX6, "text", "()I"⟩
def yX6_fault : MethodName := ⟨RX6, "fault", "()I"⟩
def yX6_isStation : MethodName := ⟨RX6, "isStation", "(I)Z"⟩
def yX6_isPart : MethodName := ⟨RX6, "isPart", "(I)Z"⟩
def yX6_starts : MethodName := ⟨RX6, "starts", "()V"⟩
def yX6_settles : MethodName := ⟨RX6, "settles", "()V"⟩
def yX6_of : MethodName := ⟨RX6, "of", "(II)I"⟩
def yX6_becomesOf : MethodName := ⟨RX6, "becomesOf", "(III)V"⟩
def yX6_growsTo : MethodName := ⟨RX6, "growsTo", "(II)V"⟩
def yX6_isOutdone : MethodName := ⟨RX6, "isOutdone", "(I)Z"⟩
def yX6_sendsNow : MethodName := ⟨RX6, "sendsNow", "(I)I"⟩
def yX6_comesTo : MethodName := ⟨RX6, "comesTo", "(II)I"⟩
def yX6_visitGoes : MethodName := ⟨RX6, "visitGoes", "(Z)V"⟩
def yX6_visitsGo : MethodName := ⟨RX6, "visitsGo", "(I)V"⟩
def yX6_sumOf : MethodName := ⟨RX6, "sumOf", "(I)I"⟩
def yX6_rule : MethodName := ⟨RX6, "rule", "(I)I"⟩
def yX6_station : MethodName := ⟨RX6, "station", "(II)I"⟩
def yX6_becomes : MethodName := ⟨RX6, "becomes", "(II)I"⟩
def yX6_alter : MethodName := ⟨RX6, "alter", "(III)I"⟩
def yX6_give : MethodName := ⟨RX6, "give", "(I)I"⟩
def yX6_post : MethodName := ⟨RX6, "post", "(II)I"⟩
def yX6_trades : MethodName := ⟨RX6, "trades", "(II)V"⟩
def yX6_change : MethodName := ⟨RX6, "change", "(II)I"⟩
def yX6_visits : MethodName := ⟨RX6, "visits", "(I)I"⟩
def yX6_isFar : MethodName := ⟨RX6, "isFar", "(I)Z"⟩
def yX6_runs : MethodName := ⟨RX6, "runs", "(II)I"⟩
def yX6_ahead : MethodName := ⟨RX6, "ahead", "(III)I"⟩
def yX6_when : MethodName := ⟨RX6, "when", "(I)I"⟩
def yX6_startsJudging : MethodName := ⟨RX6, "startsJudging", "(I)V"⟩
def yX6_judges : MethodName := ⟨RX6, "judges", "(II)V"⟩
def yX6_judged : MethodName := ⟨RX6, "judged", "(I)I"⟩
def yX6_judgedMore : MethodName := ⟨RX6, "judgedMore", "(I)I"⟩
def yX6_kind : MethodName := ⟨RX6, "kind", "(III)I"⟩
def yX6_hold : MethodName := ⟨RX6, "hold", "(III)I"⟩
def yX6_swap : MethodName := ⟨RX6, "swap", "(II)I"⟩
def yX6_pass : MethodName := ⟨RX6, "pass", "(II)I"⟩
def yX6_begin : MethodName := ⟨RX6, "begin", "(II)I"⟩
def yX6_common : MethodName := ⟨RX6, "common", "(JJ)J"⟩
def yX6_lowest : MethodName := ⟨RX6, "lowest", "(JJI)J"⟩
def yX6_findOdds : MethodName := ⟨RX6, "findOdds", "(IIII)V"⟩
def yX6_luck : MethodName := ⟨RX6, "luck", "(IIIII)J"⟩
def yX6_mean : MethodName := ⟨RX6, "mean", "(III)J"⟩
def yX6_see : MethodName := ⟨RX6, "see", "(III)I"⟩
def yX6_forget : MethodName := ⟨RX6, "forget", "(I)I"⟩
def yX6_isSoWith : MethodName := ⟨RX6, "isSoWith", "(II)Z"⟩
def yX6_which : MethodName := ⟨RX6, "which", "(II)I"⟩
def yX6_kinds : MethodName := ⟨RX6, "kinds", "(I)I"⟩
def yX6_gains : MethodName := ⟨RX6, "gains", "(I)I"⟩
def yX6_ask : MethodName := ⟨RX6, "ask", "(II)I"⟩
def yX6_drift : MethodName := ⟨RX6, "drift", "(III)I"⟩
def yX6_copies : MethodName := ⟨RX6, "copies", "(II)V"⟩
def yX6_keep : MethodName := ⟨RX6, "keep", "(I)I"⟩
def yX6_back : MethodName := ⟨RX6, "back", "(I)I"⟩
def yX6_isSheet : MethodName := ⟨RX6, "isSheet", "(II)Z"⟩
def yX6_sheet : MethodName := ⟨RX6, "sheet", "(III)I"⟩
def yX6_lay : MethodName := ⟨RX6, "lay", "(III)I"⟩
def yX6_read : MethodName := ⟨RX6, "read", "(IIII)I"⟩
def yX6_torn : MethodName := ⟨RX6, "torn", "()I"⟩
def yX6_count : MethodName := ⟨RX6, "count", "(I)I"⟩
def RJ6 : String := "java/lang/Integer"
def TJ6 : u_T := fun k => match k with
  | _ => ("", "", "", false)
def tyJ6 : Nat → FieldType := fun k => match k with
  | _ => .int
theorem nmJ6 : ∀ a, a < 0 → ∀ b, b < 0 → a ≠ b → (TJ6 a).2.1 ≠ (TJ6 b).2.1 := by decide +kernel
theorem tyJ6_ok : ∀ k, k < 0 → parseFieldDescriptor (TJ6 k).2.2.1 = some (tyJ6 k) := by decide +kernel
def yJ6_bitCount_0f7a4 : MethodName := ⟨RJ6, "bitCount", "(I)I"⟩
def RJ9 : String := "java/lang/Math"
def TJ9 : u_T := fun k => match k with
  | _ => ("", "", "", false)
def tyJ9 : Nat → FieldType := fun k => match k with
  | _ => .int
theorem nmJ9 : ∀ a, a < 0 → ∀ b, b < 0 → a ≠ b → (TJ9 a).2.1 ≠ (TJ9 b).2.1 := by decide +kernel
theorem tyJ9_ok : ∀ k, k < 0 → parseFieldDescriptor (TJ9 k).2.2.1 = some (tyJ9 k) := by decide +kernel
def yJ9_max_7cf53 : MethodName := ⟨RJ9, "max", "(II)I"⟩
def yJ9_min_7cf53 : MethodName := ⟨RJ9, "min", "(II)I"⟩
def RJ0 : String := "java/lang/String"
def TJ0 : u_T := fun k => match k with
  | _ => ("", "", "", false)
def tyJ0 : Nat → FieldType := fun k => match k with
  | _ => .int
theorem nmJ0 : ∀ a, a < 0 → ∀ b, b < 0 → a ≠ b → (TJ0 a).2.1 ≠ (TJ0 b).2.1 := by decide +kernel
theorem tyJ0_ok : ∀ k, k < 0 → parseFieldDescriptor (TJ0 k).2.2.1 = some (tyJ0 k) := by decide +kernel
def yJ0_length_8abf5 : MethodName := ⟨RJ0, "length", "()I"⟩
def yJ0_charAt_5068e : MethodName := ⟨RJ0, "charAt", "(I)C"⟩
def yJ0_coder_7d493 : MethodName := ⟨RJ0, "coder", "()B"⟩
def yJ0_isLatin1_aae02 : MethodName := ⟨RJ0, "isLatin1", "()Z"⟩
def yJ0_checkIndex_df160 : MethodName := ⟨RJ0, "checkIndex", "(II)V"⟩
def RJ1 : String := "java/lang/StringLatin1"
def TJ1 : u_T := fun k => match k with
  | _ => ("", "", "", false)
def tyJ1 : Nat → FieldType := fun k => match k with
  | _ => .int
theorem nmJ1 : ∀ a, a < 0 → ∀ b, b < 0 → a ≠ b → (TJ1 a).2.1 ≠ (TJ1 b).2.1 := by decide +kernel
theorem tyJ1_ok : ∀ k, k < 0 → parseFieldDescriptor (TJ1 k).2.2.1 = some (tyJ1 k) := by decide +kernel
def yJ1_charAt_3b067 : MethodName := ⟨RJ1, "charAt", "([BI)C"⟩
def RJ2 : String := "java/lang/StringUTF16"
def TJ2 : u_T := fun k => match k with
  | _ => ("", "", "", false)
def tyJ2 : Nat → FieldType := fun k => match k with
  | _ => .int
theorem nmJ2 : ∀ a, a < 0 → ∀ b, b < 0 → a ≠ b → (TJ2 a).2.1 ≠ (TJ2 b).2.1 := by decide +kernel
theorem tyJ2_ok : ∀ k, k < 0 → parseFieldDescriptor (TJ2 k).2.2.1 = some (tyJ2 k) := by decide +kernel
def yJ2_getChar_3b067 : MethodName := ⟨RJ2, "getChar", "([BI)C"⟩
def yJ2_length_9d52b : MethodName := ⟨RJ2, "length", "([B)I"⟩
def yJ2_charAt_3b067 : MethodName := ⟨RJ2, "charAt", "([BI)C"⟩
def yJ2_checkIndex_2214a : MethodName := ⟨RJ2, "checkIndex", "(I[B)V"⟩
def RJ10 : String := "java/lang/System"
def TJ10 : u_T := fun k => match k with
  | _ => ("", "", "", false)
def tyJ10 : Nat → FieldType := fun k => match k with
  | _ => .int
theorem nmJ10 : ∀ a, a < 0 → ∀ b, b < 0 → a ≠ b → (TJ10 a).2.1 ≠ (TJ10 b).2.1 := by decide +kernel
theorem tyJ10_ok : ∀ k, k < 0 → parseFieldDescriptor (TJ10 k).2.2.1 = some (tyJ10 k) := by decide +kernel
def RJ3 : String := "jdk/internal/util/Preconditions"
def TJ3 : u_T := fun k => match k with
  | _ => ("", "", "", false)
def tyJ3 : Nat → FieldType := fun k => match k with
  | _ => .int
theorem nmJ3 : ∀ a, a < 0 → ∀ b, b < 0 → a ≠ b → (TJ3 a).2.1 ≠ (TJ3 b).2.1 := by decide +kernel
theorem tyJ3_ok : ∀ k, k < 0 → parseFieldDescriptor (TJ3 k).2.2.1 = some (tyJ3 k) := by decide +kernel
def yJ3_checkIndex_8e157 : MethodName := ⟨RJ3, "checkIndex", "(IILjava/util/function/BiFunction;)I"⟩
def RL : String := "RingWordLaw"
def yL_law : MethodName := ⟨RL, "law", "([I)Z"⟩
abbrev vwCl : List vw_C := [(RX0, TX0, 3), (RX1, TX1, 7), (RX2, TX2, 4), (RX3, TX3, 3), (RX4, TX4, 7), (RX5, TX5, 8), (RX6, TX6, 30)]
end
section
/-! THE ABSTRACT MACHINE. Values: an int, a long (unbounded integers, cut to 32 or 64 bits where they are put down), a reference (a place's number). Memory: ints of a place by index, rows of references of a place by index. -/
abbrev AV : Type := Int ⊕ (Int ⊕ Nat)
abbrev Mem : Type := (Nat → Nat → Int) × (Nat → Nat → Nat)
def rI (μ : Mem) (k j : Nat) : Int := μ.1 k j
def rR (μ : Mem) (k j : Nat) : Nat := μ.2 k j
def wI (μ : Mem) (k j : Nat) (v : Int) : Mem := (fun a b => if a = k ∧ b = j then v else μ.1 a b, μ.2)
def wR (μ : Mem) (k j v : Nat) : Mem := (μ.1, fun a b => if a = k ∧ b = j then v else μ.2 a b)
theorem rI_wI (μ : Mem) (k j k' j' : Nat) (v : Int) : rI (wI μ k j v) k' j' = if k' = k ∧ j' = j then v else rI μ k' j' := rfl
theorem rI_wR (μ : Mem) (k j k' j' v : Nat) : rI (wR μ k j v) k' j' = rI μ k' j' := rfl
theorem rR_wI (μ : Mem) (k j k' j' : Nat) (v : Int) : rR (wI μ k j v) k' j' = rR μ k' j' := rfl
theorem rR_wR (μ : Mem) (k j k' j' v : Nat) : rR (wR μ k j v) k' j' = if k' = k ∧ j' = j then v else rR μ k' j' := rfl
abbrev Gh : Type := va_G × (Nat → ClassId) × (Nat → Nat)
def cv (ad : Nat → Nat) : AV → Value
  | .inl x => .int (Int32.ofInt x)
  | .inr (.inl x) => .long (Int64.ofInt x)
  | .inr (.inr k) => .ref (ad k)
/-- the kinds of the places: 0 to 6 objects by their class, 7 int[], 8 byte[], 9 boolean[], 10 Image[], 11 Sheet[], 12 the rows of a ring, 15 the rows of looks; 13 a static row -/
def kdL : List Nat := [5, 1, 12, 7, 7, 7, 7, 7, 1, 12, 7, 7, 7, 7, 7, 2, 7, 7, 7, 4, 8, 10, 0, 1, 12, 7, 7, 7, 7, 7, 2, 7, 7, 7, 0, 1, 12, 7, 7, 7, 7, 7, 2, 7, 7, 7, 11, 3, 7, 3, 7, 3, 7, 3, 7, 15, 7, 7, 7, 7, 7, 7, 7, 7, 7, 7, 6, 7, 7, 9, 7, 7, 7, 7, 7, 7, 7, 7, 7]
def lnL : List Nat := [0, 0, 5, 7, 7, 7, 7, 7, 0, 5, 7, 7, 7, 7, 7, 0, 6, 6, 6, 0, 160, 2, 0, 0, 5, 7, 7, 7, 7, 7, 0, 6, 6, 6, 0, 0, 5, 7, 7, 7, 7, 7, 0, 6, 6, 6, 4, 0, 40, 0, 40, 0, 40, 0, 40, 10, 41, 41, 41, 41, 41, 41, 41, 41, 41, 41, 0, 180, 60, 2, 60, 160, 5, 205, 410, 4, 4, 160, 60]
def kd (k : Nat) : Nat := if k < 79 then kdL.getD k 99 else if k = 100 ∨ k = 101 then 13 else 99
def ln (k : Nat) : Nat := lnL.getD k 0
/-- the static rows LEAST, GREATEST -/
def stv (k j : Nat) : Int := if k = 100 then ([0, 0, 1, 0, 1] : List Int).getD j 0 else ([3, 99, 9, 9, 9] : List Int).getD j 0
/-- the place that a row of references holds -/
def el (μ : Mem) (k j : Nat) : Nat := if kd k = 12 then rR μ k j else if kd k = 10 then k + 1 + 12 * j else if kd k = 11 then k + 1 + 2 * j else k + 1 + j
/-- the fields of a class: 0 an int, 1 a long, 2 a reference to the place so far behind, 3 a boolean -/
def fsp : Nat → List (Nat × Nat)
  | 0 => [(2, 1), (2, 8), (3, 0)]
  | 1 => [(2, 1), (0, 0), (0, 0), (0, 0), (0, 0), (0, 0), (0, 0)]
  | 2 => [(2, 1), (2, 2), (2, 3), (0, 0)]
  | 3 => [(2, 1), (0, 0), (0, 0)]
  | 4 => [(2, 1), (0, 0), (0, 0), (0, 0), (0, 0), (0, 0), (0, 0)]
  | 5 => [(2, 1), (2, 8), (2, 15), (2, 19), (2, 21), (2, 46), (2, 55), (0, 0)]
  | 6 => [(2, 1), (2, 2), (2, 3), (2, 4), (3, 0), (2, 5), (0, 0), (0, 0), (0, 0), (0, 0), (0, 0), (0, 0), (0, 0), (0, 0), (0, 0), (0, 0), (0, 0), (2, 6), (0, 0), (0, 0), (1, 0), (1, 0), (1, 0), (2, 7), (2, 8), (2, 9), (2, 10), (2, 11), (0, 0), (2, 12)]
  | _ => []
def fval (ad : Nat → Nat) (μ : Mem) (k : Nat) (q : Nat × Nat) (j : Nat) : Value := if q.1 = 2 then .ref (ad (k + q.2)) else if q.1 = 1 then .long (Int64.ofInt (rI μ k j)) else .int (Int32.ofInt (rI μ k j))
def flds (ad : Nat → Nat) (μ : Mem) (k : Nat) : Nat → List (Nat × Nat) → List Value
  | _, [] => []
  | j, q :: r => fval ad μ k q j :: flds ad μ k (j + 1) r
def iarr (μ : Mem) (k : Nat) : Nat → Int32 := fun j => Int32.ofInt (rI μ k j)
def rarr (ad : Nat → Nat) (μ : Mem) (k : Nat) : Nat → Option Nat := fun j => some (ad (el μ k j))
def pic (g : Gh) (μ : Mem) (k : Nat) : va_E :=
  if kd k < 7 then .inr (kd k, flds g.2.2 μ k 0 (fsp (kd k)))
  else if kd k = 7 then .inl (g.2.1 0, ln k, .inl (iarr μ k))
  else if kd k = 8 then .inl (g.2.1 1, ln k, .inl (iarr μ k))
  else if kd k = 9 then .inl (g.2.1 2, ln k, .inl (iarr μ k))
  else if kd k = 10 then .inl (g.2.1 3, ln k, .inr (.inr (.inr (.inr (rarr g.2.2 μ k)))))
  else if kd k = 11 then .inl (g.2.1 4, ln k, .inr (.inr (.inr (.inr (rarr g.2.2 μ k)))))
  else .inl (g.2.1 5, ln k, .inr (.inr (.inr (.inr (rarr g.2.2 μ k)))))
def wl (g : Gh) (μ : Mem) : va_W := (List.range 79).map (fun k => (g.2.2 k, pic g μ k))
def tysG (g : Gh) : List (ClassId × FieldType) := [(g.2.1 0, .int), (g.2.1 1, .byte), (g.2.1 2, .boolean), (g.2.1 3, .object RX0), (g.2.1 4, .object RX3), (g.2.1 5, .array .int)]
def inW (g : Gh) : Nat → Prop := fun q => ∃ k, k < 79 ∧ q = g.2.2 k
theorem wl_get (g : Gh) (μ : Mem) {k : Nat} (h : k < 79) : (wl g μ)[k]? = some (g.2.2 k, pic g μ k) := by
  simp [wl, h]
theorem wl_len (g : Gh) (μ : Mem) : (wl g μ).length = 79 := by simp [wl]
theorem wl_set (g : Gh) (μ μ' : Mem) {k : Nat} {e : va_E} (he : e = pic g μ' k) (h : ∀ j, j ≠ k → pic g μ' j = pic g μ j) : (wl g μ).set k (g.2.2 k, e) = wl g μ' := by
  apply List.ext_getElem?
  intro j
  rw [List.getElem?_set]
  by_cases hj : k = j
  · subst hj
    by_cases hk : k < 79
    · rw [if_pos rfl, if_pos (by rw [wl_len]; exact hk), wl_get g μ' hk, he]
    · rw [if_pos rfl, if_neg (by rw [wl_len]; exact hk)]
      exact (List.getElem?_eq_none (by rw [wl_len]; omega)).symm
  · rw [if_neg hj]
    by_cases hk : j < 79
    · rw [wl_get g μ hk, wl_get g μ' hk, h j (fun q => hj q.symm)]
    · rw [List.getElem?_eq_none (by rw [wl_len]; omega), List.getElem?_eq_none (by rw [wl_len]; omega)]
theorem kd_lt {k n : Nat} (h : kd k = n) (hn : n ≠ 13) (hn2 : n ≠ 99) : k < 79 := by
  unfold kd at h
  by_cases q : k < 79
  · exact q
  · rw [if_neg q] at h
    split at h
    · exact absurd h.symm hn
    · exact absurd h.symm hn2
theorem flds_get (ad : Nat → Nat) (μ : Mem) (k : Nat) : ∀ (l : List (Nat × Nat)) (j i : Nat), (flds ad μ k j l)[i]? = (l[i]?).map (fun q => fval ad μ k q (j + i))
  | [], j, i => by simp [flds]
  | q :: r, j, 0 => by simp [flds]
  | q :: r, j, i + 1 => by
    simp only [flds, List.getElem?_cons_succ]
    rw [flds_get ad μ k r (j + 1) i]
    congr 1
    funext z
    congr 1
    omega
theorem flds_len (ad : Nat → Nat) (μ : Mem) (k : Nat) : ∀ (l : List (Nat × Nat)) (j : Nat), (flds ad μ k j l).length = l.length
  | [], j => rfl
  | q :: r, j => by simp [flds, flds_len ad μ k r (j + 1)]
theorem flds_set (ad : Nat → Nat) (μ : Mem) (k : Nat) (l : List (Nat × Nat)) (i : Nat) (v : Int) {so off : Nat} (hl : l[i]? = some (so, off)) (h2 : so ≠ 2) : (flds ad μ k 0 l).set i (if so = 1 then .long (Int64.ofInt v) else .int (Int32.ofInt v)) = flds ad (wI μ k i v) k 0 l := by
  apply List.ext_getElem?
  intro j
  rw [List.getElem?_set, flds_get, flds_get, flds_len]
  by_cases hj : i = j
  · subst hj
    have hlt : i < l.length := (List.getElem?_eq_some_iff.mp hl).1
    rw [if_pos rfl, if_pos hlt, hl]
    simp only [Option.map_some, fval, if_neg h2]
    by_cases h1 : so = 1
    · simp [h1, rI_wI]
    · simp [h1, rI_wI]
  · rw [if_neg hj]
    cases hq : l[j]? with
    | none => rfl
    | some q =>
      simp only [Option.map_some, fval, rI_wI]
      have : ¬ (True ∧ 0 + j = i) := fun z => hj (by omega)
      rw [if_neg this]
theorem flds_ne (ad : Nat → Nat) (μ : Mem) {k k' : Nat} (i : Nat) (v : Int) (h : k' ≠ k) (l : List (Nat × Nat)) : ∀ j, flds ad (wI μ k i v) k' j l = flds ad μ k' j l := by
  induction l with
  | nil => intro j; rfl
  | cons q r ih =>
    intro j
    simp only [flds, ih, fval, rI_wI]
    have : ¬ (k' = k ∧ j = i) := fun z => h z.1
    rw [if_neg this]
theorem iarr_ne (μ : Mem) {k k' : Nat} (i : Nat) (v : Int) (h : k' ≠ k) : iarr (wI μ k i v) k' = iarr μ k' := by
  funext j
  simp only [iarr, rI_wI]
  rw [if_neg (fun z => h z.1)]
theorem iarr_upd (μ : Mem) (k i : Nat) (v : Int) : iarr (wI μ k i v) k = upd (iarr μ k) i (Int32.ofInt v) := by
  funext j
  simp only [iarr, rI_wI, upd]
  by_cases h : j = i <;> simp [h]
theorem el_wI (μ : Mem) (k i k' j : Nat) (v : Int) : el (wI μ k i v) k' j = el μ k' j := rfl
theorem rarr_wI (ad : Nat → Nat) (μ : Mem) (k i k' : Nat) (v : Int) : rarr ad (wI μ k i v) k' = rarr ad μ k' := rfl
theorem pic_wI_ne (g : Gh) (μ : Mem) {k : Nat} (i : Nat) (v : Int) {k' : Nat} (h : k' ≠ k) : pic g (wI μ k i v) k' = pic g μ k' := by
  unfold pic
  rw [flds_ne _ _ _ _ h, iarr_ne _ _ _ h, rarr_wI]
theorem flds_wR (ad : Nat → Nat) (μ : Mem) (k i k' v : Nat) (l : List (Nat × Nat)) : ∀ j, flds ad (wR μ k i v) k' j l = flds ad μ k' j l := by
  induction l with
  | nil => intro j; rfl
  | cons q r ih => intro j; simp only [flds, ih]; rfl
theorem pic_wR_ne (g : Gh) (μ : Mem) {k : Nat} (i v : Nat) {k' : Nat} (h : k' ≠ k) : pic g (wR μ k i v) k' = pic g μ k' := by
  have e : rarr g.2.2 (wR μ k i v) k' = rarr g.2.2 μ k' := by
    funext j
    simp only [rarr, el, rR_wR]
    rw [if_neg (show ¬ (k' = k ∧ j = i) from fun z => h z.1)]
  unfold pic
  rw [flds_wR, e]
  rfl
/-- locals -/
def lg : List (Option AV) → Nat → Option AV
  | [], _ => none
  | a :: _, 0 => a
  | _ :: r, n + 1 => lg r n
def lset : List (Option AV) → Nat → Option AV → List (Option AV)
  | [], _, _ => []
  | _ :: r, 0, v => v :: r
  | a :: r, n + 1, v => a :: lset r n v
def okl (L : List (Option AV)) (i : Nat) : Prop := match i with
  | 0 => True
  | j + 1 => match lg L j with
    | some (.inr (.inl _)) => False
    | _ => True
theorem lg_lt {L : List (Option AV)} {i : Nat} {v : AV} (h : lg L i = some v) : i < L.length := by
  induction L generalizing i with
  | nil => simp [lg] at h
  | cons a r ih => cases i with
    | zero => simp
    | succ n => simp only [lg] at h; simp; exact ih h
theorem lset_len (L : List (Option AV)) (i : Nat) (v : Option AV) : (lset L i v).length = L.length := by
  induction L generalizing i with
  | nil => rfl
  | cons a r ih => cases i with
    | zero => rfl
    | succ n => simp [lset, ih]
theorem lg_lset (L : List (Option AV)) (i j : Nat) (v : Option AV) : lg (lset L i v) j = if j = i ∧ i < L.length then v else lg L j := by
  induction L generalizing i j with
  | nil => simp [lset]
  | cons a r ih => cases i with
    | zero => cases j with
      | zero => simp [lset, lg]
      | succ m => simp [lset, lg]
    | succ n => cases j with
      | zero => simp [lset, lg]
      | succ m => simp [lset, lg, ih]
def lvs (ad : Nat → Nat) (L : List (Option AV)) : List (Nat × Value) := (List.range L.length).filterMap (fun i => (lg L i).map (fun v => (i, cv ad v)))
theorem lvs_mem {ad : Nat → Nat} {L : List (Option AV)} {q : Nat × Value} : q ∈ lvs ad L ↔ ∃ v, lg L q.1 = some v ∧ q.2 = cv ad v := by
  simp only [lvs, List.mem_filterMap, List.mem_range, Option.map_eq_some_iff]
  constructor
  · rintro ⟨i, -, v, h, rfl⟩
    exact ⟨v, h, rfl⟩
  · rintro ⟨v, h, e⟩
    exact ⟨q.1, lg_lt h, v, h, by rw [← e]⟩
theorem lv_mono {ls : Array Slot} {n : Nat} {l l' : List (Nat × Value)} (h : lv_has ls n l) (hs : ∀ q ∈ l', q ∈ l) : lv_has ls n l' := ⟨h.1, h.2.1, fun q hq => h.2.2 q (hs q hq)⟩
theorem cv_cat2 {ad : Nat → Nat} {v : AV} (h : (cv ad v).category = 2) : ∃ x, v = .inr (.inl x) := by
  rcases v with x | x | k
  · simp [cv, Value.category] at h
  · exact ⟨x, rfl⟩
  · simp [cv, Value.category] at h
theorem lvs_store {ad : Nat → Nat} {L : List (Option AV)} {i : Nat} {v : AV} (ho : okl L i) : ∀ q ∈ lvs ad (lset L i (some v)), q ∈ (i, cv ad v) :: (lvs ad L).filter (fun q => !(q.1 == i) && !(q.1 + 1 == i && q.2.category == 2)) := by
  intro q hq
  obtain ⟨w, hw, e⟩ := lvs_mem.mp hq
  rw [lg_lset] at hw
  by_cases h : q.1 = i ∧ i < L.length
  · rw [if_pos h] at hw
    cases hw
    rw [List.mem_cons]
    left
    rw [← h.1, ← e]
  · rw [if_neg h] at hw
    have hlt := lg_lt hw
    have hne : q.1 ≠ i := fun z => h ⟨z, by rw [← z]; exact hlt⟩
    rw [List.mem_cons]
    right
    rw [List.mem_filter]
    refine ⟨lvs_mem.mpr ⟨w, hw, e⟩, ?_⟩
    simp only [Bool.and_eq_true, Bool.not_eq_true', beq_eq_false_iff_ne, Bool.and_eq_false_iff]
    refine ⟨hne, ?_⟩
    by_cases h1 : q.1 + 1 = i
    · right
      rw [e]
      intro z
      obtain ⟨x, rfl⟩ := cv_cat2 z
      subst h1
      simp only [okl, hw] at ho
    · exact Or.inl h1
theorem lvs_store2 {ad : Nat → Nat} {L : List (Option AV)} {i : Nat} {v : AV} (ho : okl L i) : ∀ q ∈ lvs ad (lset (lset L i (some v)) (i + 1) none), q ∈ (i, cv ad v) :: (lvs ad L).filter (fun q => !(q.1 == i) && (!(q.1 == i + 1) && !(q.1 + 1 == i && q.2.category == 2))) := by
  intro q hq
  obtain ⟨w, hw, e⟩ := lvs_mem.mp hq
  rw [lg_lset, lset_len] at hw
  by_cases h : q.1 = i + 1 ∧ i + 1 < L.length
  · rw [if_pos h] at hw; cases hw
  · rw [if_neg h] at hw
    have h3 : lvs ad (lset L i (some v)) = lvs ad (lset L i (some v)) := rfl
    have hq2 : q ∈ lvs ad (lset L i (some v)) := lvs_mem.mpr ⟨w, hw, e⟩
    have hlt := lg_lt hw
    rw [lset_len] at hlt
    have hn : q.1 ≠ i + 1 := fun z => h ⟨z, by rw [← z]; exact hlt⟩
    rcases List.mem_cons.mp (lvs_store ho q hq2) with z | z
    · exact List.mem_cons.mpr (Or.inl z)
    · rw [List.mem_filter] at z
      refine List.mem_cons.mpr (Or.inr (List.mem_filter.mpr ⟨z.1, ?_⟩))
      have z2 := z.2
      simp only [Bool.and_eq_true, Bool.not_eq_true', beq_eq_false_iff_ne] at z2 ⊢
      exact ⟨z2.1, hn, z2.2⟩
end
section
/-! THE STEPS of the abstract machine: what must hold ahead of an instruction so that 'go' holds behind it -/
abbrev TT : Type := List AV → Mem → (List AV → Mem → Prop) → Prop
def InR (a : Int) : Prop := -2147483648 ≤ a ∧ a < 2147483648
def InL (a : Int) : Prop := -9223372036854775808 ≤ a ∧ a < 9223372036854775808
def inb (j : Int) (n : Nat) : Prop := 0 ≤ j ∧ j < n
def c1 : AV → Prop
  | .inr (.inl _) => False
  | _ => True
def wd : List AV → Nat
  | [] => 0
  | .inr (.inl _) :: r => 2 + wd r
  | _ :: r => 1 + wd r
def spl : Nat → List AV → List AV → Option (List AV × List AV)
  | 0, s, acc => some (acc, s)
  | _ + 1, [], _ => none
  | n + 1, v :: s, acc => spl n s (v :: acc)
def cnd (c : Jvm.ClassFile.Cond) (a b : Int) : Prop := match c with
  | .eq => a = b
  | .ne => a ≠ b
  | .lt => a < b
  | .ge => b ≤ a
  | .gt => b < a
  | .le => a ≤ b
def tg (pc : Nat) (off : Int) : Nat := ((pc : Int) + off).toNat
def swT (go : Int → Prop) (x : Int) : Int → List Int → Prop
  | _, [] => True
  | lo, o :: r => (x = lo → go o) ∧ swT go x (lo + 1) r
def swL (go : Int → Prop) (d x : Int) : List (Int × Int) → Prop
  | [] => go d
  | q :: r => (x = q.1 → go q.2) ∧ (x ≠ q.1 → swL go d x r)
section
variable (F : Nat → Option (Nat × Nat × Nat × Nat)) (Cn : Nat → Option AV) (G : Nat → Option (Nat × TT)) (rk : Nat) (K : List AV → Mem → Prop)
def stp (go : Nat → List (Option AV) → List AV → Mem → Prop) (pc : Nat) (L : List (Option AV)) (stk : List AV) (μ : Mem) (len : Nat) : Instr → Prop
  | .iconst n => len = 1 ∧ go (pc + 1) L (.inl n :: stk) μ
  | .bipush n => len = 2 ∧ -128 ≤ n ∧ n < 128 ∧ go (pc + 2) L (.inl n :: stk) μ
  | .sipush n => len = 3 ∧ -32768 ≤ n ∧ n < 32768 ∧ go (pc + 3) L (.inl n :: stk) μ
  | .lconst n => len = 1 ∧ go (pc + 1) L (.inr (.inl ((n : Nat) : Int)) :: stk) μ
  | .iload_n n => len = 1 ∧ (match lg L (n : Nat) with | some (.inl x) => go (pc + 1) L (.inl x :: stk) μ | _ => False)
  | .iload n => len = 2 ∧ (match lg L n with | some (.inl x) => go (pc + 2) L (.inl x :: stk) μ | _ => False)
  | .lload_n n => len = 1 ∧ (match lg L (n : Nat) with | some (.inr (.inl x)) => go (pc + 1) L (.inr (.inl x) :: stk) μ | _ => False)
  | .lload n => len = 2 ∧ (match lg L n with | some (.inr (.inl x)) => go (pc + 2) L (.inr (.inl x) :: stk) μ | _ => False)
  | .aload_n n => len = 1 ∧ (match lg L (n : Nat) with | some (.inr (.inr x)) => go (pc + 1) L (.inr (.inr x) :: stk) μ | _ => False)
  | .aload n => len = 2 ∧ (match lg L n with | some (.inr (.inr x)) => go (pc + 2) L (.inr (.inr x) :: stk) μ | _ => False)
  | .istore_n n => len = 1 ∧ (n : Nat) < L.length ∧ okl L (n : Nat) ∧ (match stk with | .inl x :: r => go (pc + 1) (lset L (n : Nat) (some (.inl x))) r μ | _ => False)
  | .istore n => len = 2 ∧ n < L.length ∧ okl L n ∧ (match stk with | .inl x :: r => go (pc + 2) (lset L n (some (.inl x))) r μ | _ => False)
  | .lstore_n n => len = 1 ∧ (n : Nat) + 1 < L.length ∧ okl L (n : Nat) ∧ (match stk with | .inr (.inl x) :: r => go (pc + 1) (lset (lset L (n : Nat) (some (.inr (.inl x)))) ((n : Nat) + 1) none) r μ | _ => False)
  | .lstore n => len = 2 ∧ n + 1 < L.length ∧ okl L n ∧ (match stk with | .inr (.inl x) :: r => go (pc + 2) (lset (lset L n (some (.inr (.inl x)))) (n + 1) none) r μ | _ => False)
  | .astore_n n => len = 1 ∧ (n : Nat) < L.length ∧ okl L (n : Nat) ∧ (match stk with | .inr (.inr x) :: r => go (pc + 1) (lset L (n : Nat) (some (.inr (.inr x)))) r μ | _ => False)
  | .astore n => len = 2 ∧ n < L.length ∧ okl L n ∧ (match stk with | .inr (.inr x) :: r => go (pc + 2) (lset L n (some (.inr (.inr x)))) r μ | _ => False)
  | .iinc n c => len = 3 ∧ n < L.length ∧ okl L n ∧ (match lg L n with | some (.inl x) => go (pc + 3) (lset L n (some (.inl (x + c)))) stk μ | _ => False)
  | .iadd => len = 1 ∧ (match stk with | .inl b :: .inl a :: r => go (pc + 1) L (.inl (a + b) :: r) μ | _ => False)
  | .isub => len = 1 ∧ (match stk with | .inl b :: .inl a :: r => go (pc + 1) L (.inl (a - b) :: r) μ | _ => False)
  | .imul => len = 1 ∧ (match stk with | .inl b :: .inl a :: r => go (pc + 1) L (.inl (a * b) :: r) μ | _ => False)
  | .ineg => len = 1 ∧ (match stk with | .inl a :: r => go (pc + 1) L (.inl (-a) :: r) μ | _ => False)
  | .idiv => len = 1 ∧ (match stk with | .inl b :: .inl a :: r => (0 ≤ a ∧ a < 2147483648 ∧ 0 < b ∧ b < 2147483648) ∧ go (pc + 1) L (.inl (a / b) :: r) μ | _ => False)
  | .irem => len = 1 ∧ (match stk with | .inl b :: .inl a :: r => (0 ≤ a ∧ a < 2147483648 ∧ 0 < b ∧ b < 2147483648) ∧ go (pc + 1) L (.inl (a % b) :: r) μ | _ => False)
  | .ladd => len = 1 ∧ (match stk with | .inr (.inl b) :: .inr (.inl a) :: r => go (pc + 1) L (.inr (.inl (a + b)) :: r) μ | _ => False)
  | .lmul => len = 1 ∧ (match stk with | .inr (.inl b) :: .inr (.inl a) :: r => go (pc + 1) L (.inr (.inl (a * b)) :: r) μ | _ => False)
  | .ldiv => len = 1 ∧ (match stk with | .inr (.inl b) :: .inr (.inl a) :: r => (0 ≤ a ∧ a < 9223372036854775808 ∧ 0 < b ∧ b < 9223372036854775808) ∧ go (pc + 1) L (.inr (.inl (a / b)) :: r) μ | _ => False)
  | .lrem => len = 1 ∧ (match stk with | .inr (.inl b) :: .inr (.inl a) :: r => (0 ≤ a ∧ a < 9223372036854775808 ∧ 0 < b ∧ b < 9223372036854775808) ∧ go (pc + 1) L (.inr (.inl (a % b)) :: r) μ | _ => False)
  | .ishl => len = 1 ∧ (match stk with | .inl b :: .inl a :: r => (0 ≤ b ∧ b < 31 ∧ 0 ≤ a ∧ a * 2 ^ b.toNat < 2147483648) ∧ go (pc + 1) L (.inl (a * 2 ^ b.toNat) :: r) μ | _ => False)
  | .ishr => len = 1 ∧ (match stk with | .inl b :: .inl a :: r => (0 ≤ b ∧ b < 32) ∧ go (pc + 1) L (.inl ((Int.bmod a 4294967296) / 2 ^ b.toNat) :: r) μ | _ => False)
  | .iushr => len = 1 ∧ (match stk with | .inl b :: .inl a :: r => (0 < b ∧ b < 32) ∧ go (pc + 1) L (.inl ((a % 4294967296) / 2 ^ b.toNat) :: r) μ | _ => False)
  | .iand => len = 1 ∧ (match stk with | .inl b :: .inl a :: r => (if b = 1 then go (pc + 1) L (.inl (a % 2) :: r) μ else if b = 32767 then go (pc + 1) L (.inl (a % 32768) :: r) μ else False) | _ => False)
  | .ior => len = 1 ∧ (match stk with | .inl b :: .inl a :: r => (0 ≤ a ∧ a < 2147483648 ∧ 0 ≤ b ∧ b < 2147483648) ∧ go (pc + 1) L (.inl (((a.toNat ||| b.toNat : Nat)) : Int) :: r) μ | _ => False)
  | .i2l => len = 1 ∧ (match stk with | .inl a :: r => InR a ∧ go (pc + 1) L (.inr (.inl a) :: r) μ | _ => False)
  | .i2b => len = 1 ∧ (match stk with | .inl a :: r => go (pc + 1) L (.inl (Int.bmod a 256) :: r) μ | _ => False)
  | .i2s => len = 1 ∧ (match stk with | .inl a :: r => go (pc + 1) L (.inl (Int.bmod a 65536) :: r) μ | _ => False)
  | .lcmp => len = 1 ∧ (match stk with | .inr (.inl b) :: .inr (.inl a) :: r => InL a ∧ InL b ∧ (a < b → go (pc + 1) L (.inl (-1) :: r) μ) ∧ (a = b → go (pc + 1) L (.inl 0 :: r) μ) ∧ (b < a → go (pc + 1) L (.inl 1 :: r) μ) | _ => False)
  | .dup => len = 1 ∧ (match stk with | v :: r => c1 v ∧ go (pc + 1) L (v :: v :: r) μ | _ => False)
  | .dup2 => len = 1 ∧ (match stk with | v :: w :: r => c1 v ∧ c1 w ∧ go (pc + 1) L (v :: w :: v :: w :: r) μ | _ => False)
  | .pop => len = 1 ∧ (match stk with | v :: r => c1 v ∧ go (pc + 1) L r μ | _ => False)
  | .ifCond c off => len = 3 ∧ 0 ≤ (pc : Int) + off ∧ (match stk with | .inl a :: r => InR a ∧ (cnd c a 0 → go (tg pc off) L r μ) ∧ (¬ cnd c a 0 → go (pc + 3) L r μ) | _ => False)
  | .if_icmp c off => len = 3 ∧ 0 ≤ (pc : Int) + off ∧ (match stk with | .inl b :: .inl a :: r => InR a ∧ InR b ∧ (cnd c a b → go (tg pc off) L r μ) ∧ (¬ cnd c a b → go (pc + 3) L r μ) | _ => False)
  | .goto off => len = 3 ∧ 0 ≤ (pc : Int) + off ∧ go (tg pc off) L stk μ
  | .tableswitch d lo hi os => (match stk with | .inl a :: r => InR a ∧ (os.toList.all (fun o => decide (0 ≤ (pc : Int) + o)) = true ∧ 0 ≤ (pc : Int) + d ∧ (os.size : Int) = hi - lo + 1) ∧ ((a < lo ∨ hi < a) → go (tg pc d) L r μ) ∧ swT (fun o => go (tg pc o) L r μ) a lo os.toList | _ => False)
  | .lookupswitch d ps => (match stk with | .inl a :: r => InR a ∧ ((ps.toList.zip (ps.toList.drop 1)).all (fun (a, next) => a.1 < next.1) = true ∧ 0 ≤ (pc : Int) + d ∧ ps.toList.all (fun o => decide (0 ≤ (pc : Int) + o.2)) = true) ∧ swL (fun o => go (tg pc o) L r μ) d a ps.toList | _ => False)
  | .ldc i => len = 2 ∧ (match Cn i with | some (.inl v) => go (pc + 2) L (.inl v :: stk) μ | _ => False)
  | .ldc2_w i => len = 3 ∧ (match Cn i with | some (.inr (.inl v)) => go (pc + 3) L (.inr (.inl v) :: stk) μ | _ => False)
  | .getstatic i => len = 3 ∧ (match Cn i with | some (.inr (.inr v)) => go (pc + 3) L (.inr (.inr v) :: stk) μ | _ => False)
  | .getfield i => len = 3 ∧ (match stk with | .inr (.inr k) :: r => (match F i with | some (ci, j, so, off) => kd k = ci ∧ (if so = 2 then go (pc + 3) L (.inr (.inr (k + off)) :: r) μ else if so = 1 then go (pc + 3) L (.inr (.inl (rI μ k j)) :: r) μ else go (pc + 3) L (.inl (rI μ k j) :: r) μ) | _ => False) | _ => False)
  | .putfield i => len = 3 ∧ (match F i with | some (ci, j, so, _) => (match stk with | .inl v :: .inr (.inr k) :: r => kd k = ci ∧ (so = 0 ∨ (so = 3 ∧ (v = 0 ∨ v = 1))) ∧ go (pc + 3) L r (wI μ k j v) | .inr (.inl v) :: .inr (.inr k) :: r => kd k = ci ∧ so = 1 ∧ go (pc + 3) L r (wI μ k j v) | _ => False) | _ => False)
  | .iaload => len = 1 ∧ (match stk with | .inl j :: .inr (.inr k) :: r => (if kd k = 13 then inb j 5 ∧ go (pc + 1) L (.inl (stv k j.toNat) :: r) μ else kd k = 7 ∧ inb j (ln k) ∧ go (pc + 1) L (.inl (rI μ k j.toNat) :: r) μ) | _ => False)
  | .baload => len = 1 ∧ (match stk with | .inl j :: .inr (.inr k) :: r => (kd k = 8 ∨ kd k = 9) ∧ inb j (ln k) ∧ go (pc + 1) L (.inl (rI μ k j.toNat) :: r) μ | _ => False)
  | .iastore => len = 1 ∧ (match stk with | .inl v :: .inl j :: .inr (.inr k) :: r => kd k = 7 ∧ inb j (ln k) ∧ go (pc + 1) L r (wI μ k j.toNat v) | _ => False)
  | .bastore => len = 1 ∧ (match stk with | .inl v :: .inl j :: .inr (.inr k) :: r => ((kd k = 8 ∧ -128 ≤ v ∧ v < 128) ∨ (kd k = 9 ∧ (v = 0 ∨ v = 1))) ∧ inb j (ln k) ∧ go (pc + 1) L r (wI μ k j.toNat v) | _ => False)
  | .aaload => len = 1 ∧ (match stk with | .inl j :: .inr (.inr k) :: r => (kd k = 12 ∨ kd k = 10 ∨ kd k = 11 ∨ kd k = 15) ∧ inb j (ln k) ∧ go (pc + 1) L (.inr (.inr (el μ k j.toNat)) :: r) μ | _ => False)
  | .aastore => len = 1 ∧ (match stk with | .inr (.inr v) :: .inl j :: .inr (.inr k) :: r => kd k = 12 ∧ inb j (ln k) ∧ kd v = 7 ∧ go (pc + 1) L r (wR μ k j.toNat v) | _ => False)
  | .invokevirtual i => len = 3 ∧ (match G i with | some (n, T) => (match spl n stk [] with | some (a, r) => wd r ≤ 8 ∧ T a μ (fun v μ' => go (pc + 3) L (v ++ r) μ') | none => False) | none => False)
  | .invokestatic i => len = 3 ∧ (match G i with | some (n, T) => (match spl n stk [] with | some (a, r) => wd r ≤ 8 ∧ T a μ (fun v μ' => go (pc + 3) L (v ++ r) μ') | none => False) | none => False)
  | .ireturn => len = 1 ∧ (match stk with | [.inl v] => (rk = 1 ∨ (rk = 2 ∧ (v = 0 ∨ v = 1))) ∧ K [.inl v] μ | _ => False)
  | .lreturn => len = 1 ∧ (match stk with | [.inr (.inl v)] => rk = 3 ∧ K [.inr (.inl v)] μ | _ => False)
  | .return_ => len = 1 ∧ (match stk with | [] => rk = 0 ∧ K [] μ | _ => False)
  | _ => False
/-- n steps from pc on; it stops, with V, ahead of a place in 'stops' -/
def wpc (b : ByteArray) (stops : List Nat) (V : Nat → List (Option AV) → List AV → Mem → Prop) : Nat → Nat → List (Option AV) → List AV → Mem → Prop
  | 0, pc, L, stk, μ => V pc L stk μ
  | n + 1, pc, L, stk, μ => if pc ∈ stops then V pc L stk μ else match decode b pc with
    | .ok (i, len) => stp F Cn G rk K (wpc b stops V n) pc L stk μ len i
    | _ => False
/-- the first step is made in any case -/
def wp1 (b : ByteArray) (stops : List Nat) (V : Nat → List (Option AV) → List AV → Mem → Prop) (n pc : Nat) (L : List (Option AV)) (stk : List AV) (μ : Mem) : Prop := match decode b pc with
  | .ok (i, len) => stp F Cn G rk K (wpc F Cn G rk K b stops V n) pc L stk μ len i
  | _ => False
/-- V is closed under steps -/
def Clos (b : ByteArray) (V : Nat → List (Option AV) → List AV → Mem → Prop) : Prop := ∀ (stops : List Nat) (n pc : Nat) (L : List (Option AV)) (stk : List AV) (μ : Mem), wp1 F Cn G rk K b stops V n pc L stk μ → V pc L stk μ
end
end
