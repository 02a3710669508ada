section
-- ===== PART A: goes FIRST, ahead of the names: the tables' words, and 'selects' of the private methods out of them =====
/-- a private method of a class that the tables say can be made, by its rows of tables_1 -/
def lw_okq (q : MethodName × Nat) : Prop := (q.1.cls ≠ "java/lang/invoke/MethodHandle" ∧ q.1.cls ≠ "java/lang/invoke/VarHandle") ∧ Cond.instantiable q.1.cls q.2 ∈ tables_1 ∧ Cond.privateMethod q.1 ∈ tables_1 ∧ Cond.instanceMethod q.1 ∈ tables_1
theorem lw_p0 : lw_okq (⟨"VoteAuctions", "isNoAccount", "(I)Z"⟩, 15) := ⟨⟨by decide +kernel, by decide +kernel⟩, List.mem_of_getElem? (i := 8) (by decide +kernel), List.mem_of_getElem? (i := 80) (by decide +kernel), List.mem_of_getElem? (i := 81) (by decide +kernel)⟩
theorem lw_p1 : lw_okq (⟨"VoteAuctions", "endQuestions", "()V"⟩, 15) := ⟨⟨by decide +kernel, by decide +kernel⟩, List.mem_of_getElem? (i := 8) (by decide +kernel), List.mem_of_getElem? (i := 107) (by decide +kernel), List.mem_of_getElem? (i := 108) (by decide +kernel)⟩
theorem lw_p2 : lw_okq (⟨"VoteAuctions", "endAuctions", "()V"⟩, 15) := ⟨⟨by decide +kernel, by decide +kernel⟩, List.mem_of_getElem? (i := 8) (by decide +kernel), List.mem_of_getElem? (i := 114) (by decide +kernel), List.mem_of_getElem? (i := 115) (by decide +kernel)⟩
theorem lw_p3 : lw_okq (⟨"VoteAuctions", "endAuction", "(LVoteAuctions$Auction;)V"⟩, 15) := ⟨⟨by decide +kernel, by decide +kernel⟩, List.mem_of_getElem? (i := 8) (by decide +kernel), List.mem_of_getElem? (i := 118) (by decide +kernel), List.mem_of_getElem? (i := 119) (by decide +kernel)⟩
theorem lw_p4 : lw_okq (⟨"VoteAuctions$Auction", "isSealed", "()Z"⟩, 14) := ⟨⟨by decide +kernel, by decide +kernel⟩, List.mem_of_getElem? (i := 124) (by decide +kernel), List.mem_of_getElem? (i := 122) (by decide +kernel), List.mem_of_getElem? (i := 123) (by decide +kernel)⟩
theorem lw_p5 : lw_okq (⟨"VoteAuctions", "payUnopened", "(LVoteAuctions$Auction;)V"⟩, 15) := ⟨⟨by decide +kernel, by decide +kernel⟩, List.mem_of_getElem? (i := 8) (by decide +kernel), List.mem_of_getElem? (i := 127) (by decide +kernel), List.mem_of_getElem? (i := 128) (by decide +kernel)⟩
theorem lw_p6 : lw_okq (⟨"VoteAuctions", "payAside", "(IJ)V"⟩, 15) := ⟨⟨by decide +kernel, by decide +kernel⟩, List.mem_of_getElem? (i := 8) (by decide +kernel), List.mem_of_getElem? (i := 131) (by decide +kernel), List.mem_of_getElem? (i := 132) (by decide +kernel)⟩
theorem lw_p7 : lw_okq (⟨"VoteAuctions$Auction", "bestWithout", "()I"⟩, 14) := ⟨⟨by decide +kernel, by decide +kernel⟩, List.mem_of_getElem? (i := 124) (by decide +kernel), List.mem_of_getElem? (i := 138) (by decide +kernel), List.mem_of_getElem? (i := 139) (by decide +kernel)⟩
theorem lw_p8 : lw_okq (⟨"VoteAuctions$Auction", "isAhead", "(II)Z"⟩, 14) := ⟨⟨by decide +kernel, by decide +kernel⟩, List.mem_of_getElem? (i := 124) (by decide +kernel), List.mem_of_getElem? (i := 142) (by decide +kernel), List.mem_of_getElem? (i := 143) (by decide +kernel)⟩
theorem lw_p9 : lw_okq (⟨"VoteAuctions", "settleBids", "(LVoteAuctions$Auction;)V"⟩, 15) := ⟨⟨by decide +kernel, by decide +kernel⟩, List.mem_of_getElem? (i := 8) (by decide +kernel), List.mem_of_getElem? (i := 149) (by decide +kernel), List.mem_of_getElem? (i := 150) (by decide +kernel)⟩
theorem lw_p10 : lw_okq (⟨"VoteAuctions$Auction", "costOf", "(I)J"⟩, 14) := ⟨⟨by decide +kernel, by decide +kernel⟩, List.mem_of_getElem? (i := 124) (by decide +kernel), List.mem_of_getElem? (i := 153) (by decide +kernel), List.mem_of_getElem? (i := 154) (by decide +kernel)⟩
theorem lw_p11 : lw_okq (⟨"VoteAuctions", "giveBack", "(IJ)V"⟩, 15) := ⟨⟨by decide +kernel, by decide +kernel⟩, List.mem_of_getElem? (i := 8) (by decide +kernel), List.mem_of_getElem? (i := 157) (by decide +kernel), List.mem_of_getElem? (i := 158) (by decide +kernel)⟩
theorem lw_p12 : lw_okq (⟨"VoteAuctions", "questionAt", "(I)LVoteAuctions$Question;"⟩, 15) := ⟨⟨by decide +kernel, by decide +kernel⟩, List.mem_of_getElem? (i := 8) (by decide +kernel), List.mem_of_getElem? (i := 235) (by decide +kernel), List.mem_of_getElem? (i := 236) (by decide +kernel)⟩
theorem lw_p13 : lw_okq (⟨"VoteAuctions$Question", "isHidden", "()Z"⟩, 14) := ⟨⟨by decide +kernel, by decide +kernel⟩, List.mem_of_getElem? (i := 170) (by decide +kernel), List.mem_of_getElem? (i := 258) (by decide +kernel), List.mem_of_getElem? (i := 259) (by decide +kernel)⟩
theorem lw_p14 : lw_okq (⟨"VoteAuctions", "countVotes", "(LVoteAuctions$Question;)V"⟩, 15) := ⟨⟨by decide +kernel, by decide +kernel⟩, List.mem_of_getElem? (i := 8) (by decide +kernel), List.mem_of_getElem? (i := 275) (by decide +kernel), List.mem_of_getElem? (i := 276) (by decide +kernel)⟩
theorem lw_p15 : lw_okq (⟨"VoteAuctions", "findVoices", "(LVoteAuctions$Question;)V"⟩, 15) := ⟨⟨by decide +kernel, by decide +kernel⟩, List.mem_of_getElem? (i := 8) (by decide +kernel), List.mem_of_getElem? (i := 279) (by decide +kernel), List.mem_of_getElem? (i := 280) (by decide +kernel)⟩
def lw_privs_1 : List (MethodName × Nat) := [(⟨"VoteAuctions", "isNoAccount", "(I)Z"⟩, 15), (⟨"VoteAuctions", "endQuestions", "()V"⟩, 15), (⟨"VoteAuctions", "endAuctions", "()V"⟩, 15), (⟨"VoteAuctions", "endAuction", "(LVoteAuctions$Auction;)V"⟩, 15), (⟨"VoteAuctions$Auction", "isSealed", "()Z"⟩, 14), (⟨"VoteAuctions", "payUnopened", "(LVoteAuctions$Auction;)V"⟩, 15), (⟨"VoteAuctions", "payAside", "(IJ)V"⟩, 15), (⟨"VoteAuctions$Auction", "bestWithout", "()I"⟩, 14), (⟨"VoteAuctions$Auction", "isAhead", "(II)Z"⟩, 14), (⟨"VoteAuctions", "settleBids", "(LVoteAuctions$Auction;)V"⟩, 15), (⟨"VoteAuctions$Auction", "costOf", "(I)J"⟩, 14), (⟨"VoteAuctions", "giveBack", "(IJ)V"⟩, 15), (⟨"VoteAuctions", "questionAt", "(I)LVoteAuctions$Question;"⟩, 15), (⟨"VoteAuctions$Question", "isHidden", "()Z"⟩, 14), (⟨"VoteAuctions", "countVotes", "(LVoteAuctions$Question;)V"⟩, 15), (⟨"VoteAuctions", "findVoices", "(LVoteAuctions$Question;)V"⟩, 15)]
theorem lw_r1 : ∀ q ∈ lw_privs_1, lw_okq q := List.forall_mem_cons.mpr ⟨lw_p0, List.forall_mem_cons.mpr ⟨lw_p1, List.forall_mem_cons.mpr ⟨lw_p2, List.forall_mem_cons.mpr ⟨lw_p3, List.forall_mem_cons.mpr ⟨lw_p4, List.forall_mem_cons.mpr ⟨lw_p5, List.forall_mem_cons.mpr ⟨lw_p6, List.forall_mem_cons.mpr ⟨lw_p7, List.forall_mem_cons.mpr ⟨lw_p8, List.forall_mem_cons.mpr ⟨lw_p9, List.forall_mem_cons.mpr ⟨lw_p10, List.forall_mem_cons.mpr ⟨lw_p11, List.forall_mem_cons.mpr ⟨lw_p12, List.forall_mem_cons.mpr ⟨lw_p13, List.forall_mem_cons.mpr ⟨lw_p14, List.forall_mem_cons.mpr ⟨lw_p15, fun _ h => absurd h List.not_mem_nil⟩⟩⟩⟩⟩⟩⟩⟩⟩⟩⟩⟩⟩⟩⟩⟩
theorem lw_p16 : lw_okq (⟨"VoteAuctions", "voiceOf", "(LVoteAuctions$Question;I)I"⟩, 15) := ⟨⟨by decide +kernel, by decide +kernel⟩, List.mem_of_getElem? (i := 8) (by decide +kernel), List.mem_of_getElem? (i := 283) (by decide +kernel), List.mem_of_getElem? (i := 284) (by decide +kernel)⟩
theorem lw_p17 : lw_okq (⟨"VoteAuctions", "countRound", "(LVoteAuctions$Question;I)V"⟩, 15) := ⟨⟨by decide +kernel, by decide +kernel⟩, List.mem_of_getElem? (i := 8) (by decide +kernel), List.mem_of_getElem? (i := 287) (by decide +kernel), List.mem_of_getElem? (i := 288) (by decide +kernel)⟩
theorem lw_p18 : lw_okq (⟨"VoteAuctions", "hasMoreThanHalf", "(LVoteAuctions$Question;)Z"⟩, 15) := ⟨⟨by decide +kernel, by decide +kernel⟩, List.mem_of_getElem? (i := 8) (by decide +kernel), List.mem_of_getElem? (i := 297) (by decide +kernel), List.mem_of_getElem? (i := 298) (by decide +kernel)⟩
theorem lw_p19 : lw_okq (⟨"VoteAuctions", "leastCounted", "(LVoteAuctions$Question;I)I"⟩, 15) := ⟨⟨by decide +kernel, by decide +kernel⟩, List.mem_of_getElem? (i := 8) (by decide +kernel), List.mem_of_getElem? (i := 304) (by decide +kernel), List.mem_of_getElem? (i := 305) (by decide +kernel)⟩
theorem lw_p20 : lw_okq (⟨"VoteAuctions", "mostCounted", "(LVoteAuctions$Question;)I"⟩, 15) := ⟨⟨by decide +kernel, by decide +kernel⟩, List.mem_of_getElem? (i := 8) (by decide +kernel), List.mem_of_getElem? (i := 317) (by decide +kernel), List.mem_of_getElem? (i := 318) (by decide +kernel)⟩
theorem lw_p21 : lw_okq (⟨"VoteAuctions", "isPassed", "(LVoteAuctions$Question;)Z"⟩, 15) := ⟨⟨by decide +kernel, by decide +kernel⟩, List.mem_of_getElem? (i := 8) (by decide +kernel), List.mem_of_getElem? (i := 325) (by decide +kernel), List.mem_of_getElem? (i := 326) (by decide +kernel)⟩
theorem lw_p22 : lw_okq (⟨"VoteAuctions", "auctionAt", "(I)LVoteAuctions$Auction;"⟩, 15) := ⟨⟨by decide +kernel, by decide +kernel⟩, List.mem_of_getElem? (i := 8) (by decide +kernel), List.mem_of_getElem? (i := 400) (by decide +kernel), List.mem_of_getElem? (i := 401) (by decide +kernel)⟩
theorem lw_p23 : lw_okq (⟨"VoteAuctions", "dropBid", "(LVoteAuctions$Auction;I)V"⟩, 15) := ⟨⟨by decide +kernel, by decide +kernel⟩, List.mem_of_getElem? (i := 8) (by decide +kernel), List.mem_of_getElem? (i := 407) (by decide +kernel), List.mem_of_getElem? (i := 408) (by decide +kernel)⟩
theorem lw_p24 : lw_okq (⟨"VoteAuctions$Auction", "tell", "(I)V"⟩, 14) := ⟨⟨by decide +kernel, by decide +kernel⟩, List.mem_of_getElem? (i := 124) (by decide +kernel), List.mem_of_getElem? (i := 411) (by decide +kernel), List.mem_of_getElem? (i := 412) (by decide +kernel)⟩
theorem lw_p25 : lw_okq (⟨"VoteAuctions", "setAside", "(IJ)V"⟩, 15) := ⟨⟨by decide +kernel, by decide +kernel⟩, List.mem_of_getElem? (i := 8) (by decide +kernel), List.mem_of_getElem? (i := 415) (by decide +kernel), List.mem_of_getElem? (i := 416) (by decide +kernel)⟩
theorem lw_p26 : lw_okq (⟨"VoteAuctions", "fallingPrice", "(LVoteAuctions$Auction;)I"⟩, 15) := ⟨⟨by decide +kernel, by decide +kernel⟩, List.mem_of_getElem? (i := 8) (by decide +kernel), List.mem_of_getElem? (i := 431) (by decide +kernel), List.mem_of_getElem? (i := 432) (by decide +kernel)⟩
theorem lw_p27 : lw_okq (⟨"VoteAuctionsModel", "isAccount", "(I)Z"⟩, 50) := ⟨⟨by decide +kernel, by decide +kernel⟩, List.mem_of_getElem? (i := 443) (by decide +kernel), List.mem_of_getElem? (i := 611) (by decide +kernel), List.mem_of_getElem? (i := 612) (by decide +kernel)⟩
theorem lw_p28 : lw_okq (⟨"VoteAuctionsModel", "end", "(I)V"⟩, 50) := ⟨⟨by decide +kernel, by decide +kernel⟩, List.mem_of_getElem? (i := 443) (by decide +kernel), List.mem_of_getElem? (i := 638) (by decide +kernel), List.mem_of_getElem? (i := 639) (by decide +kernel)⟩
theorem lw_p29 : lw_okq (⟨"VoteAuctionsModel", "endUnits", "(I)V"⟩, 50) := ⟨⟨by decide +kernel, by decide +kernel⟩, List.mem_of_getElem? (i := 443) (by decide +kernel), List.mem_of_getElem? (i := 642) (by decide +kernel), List.mem_of_getElem? (i := 643) (by decide +kernel)⟩
theorem lw_p30 : lw_okq (⟨"VoteAuctionsModel", "greatest", "(II)I"⟩, 50) := ⟨⟨by decide +kernel, by decide +kernel⟩, List.mem_of_getElem? (i := 443) (by decide +kernel), List.mem_of_getElem? (i := 646) (by decide +kernel), List.mem_of_getElem? (i := 647) (by decide +kernel)⟩
theorem lw_p31 : lw_okq (⟨"VoteAuctionsModel", "costOf", "(I)J"⟩, 50) := ⟨⟨by decide +kernel, by decide +kernel⟩, List.mem_of_getElem? (i := 443) (by decide +kernel), List.mem_of_getElem? (i := 650) (by decide +kernel), List.mem_of_getElem? (i := 651) (by decide +kernel)⟩
def lw_privs_2 : List (MethodName × Nat) := [(⟨"VoteAuctions", "voiceOf", "(LVoteAuctions$Question;I)I"⟩, 15), (⟨"VoteAuctions", "countRound", "(LVoteAuctions$Question;I)V"⟩, 15), (⟨"VoteAuctions", "hasMoreThanHalf", "(LVoteAuctions$Question;)Z"⟩, 15), (⟨"VoteAuctions", "leastCounted", "(LVoteAuctions$Question;I)I"⟩, 15), (⟨"VoteAuctions", "mostCounted", "(LVoteAuctions$Question;)I"⟩, 15), (⟨"VoteAuctions", "isPassed", "(LVoteAuctions$Question;)Z"⟩, 15), (⟨"VoteAuctions", "auctionAt", "(I)LVoteAuctions$Auction;"⟩, 15), (⟨"VoteAuctions", "dropBid", "(LVoteAuctions$Auction;I)V"⟩, 15), (⟨"VoteAuctions$Auction", "tell", "(I)V"⟩, 14), (⟨"VoteAuctions", "setAside", "(IJ)V"⟩, 15), (⟨"VoteAuctions", "fallingPrice", "(LVoteAuctions$Auction;)I"⟩, 15), (⟨"VoteAuctionsModel", "isAccount", "(I)Z"⟩, 50), (⟨"VoteAuctionsModel", "end", "(I)V"⟩, 50), (⟨"VoteAuctionsModel", "endUnits", "(I)V"⟩, 50), (⟨"VoteAuctionsModel", "greatest", "(II)I"⟩, 50), (⟨"VoteAuctionsModel", "costOf", "(I)J"⟩, 50)]
theorem lw_r2 : ∀ q ∈ lw_privs_2, lw_okq q := List.forall_mem_cons.mpr ⟨lw_p16, List.forall_mem_cons.mpr ⟨lw_p17, List.forall_mem_cons.mpr ⟨lw_p18, List.forall_mem_cons.mpr ⟨lw_p19, List.forall_mem_cons.mpr ⟨lw_p20, List.forall_mem_cons.mpr ⟨lw_p21, List.forall_mem_cons.mpr ⟨lw_p22, List.forall_mem_cons.mpr ⟨lw_p23, List.forall_mem_cons.mpr ⟨lw_p24, List.forall_mem_cons.mpr ⟨lw_p25, List.forall_mem_cons.mpr ⟨lw_p26, List.forall_mem_cons.mpr ⟨lw_p27, List.forall_mem_cons.mpr ⟨lw_p28, List.forall_mem_cons.mpr ⟨lw_p29, List.forall_mem_cons.mpr ⟨lw_p30, List.forall_mem_cons.mpr ⟨lw_p31, fun _ h => absurd h List.not_mem_nil⟩⟩⟩⟩⟩⟩⟩⟩⟩⟩⟩⟩⟩⟩⟩⟩
theorem lw_p32 : lw_okq (⟨"VoteAuctionsModel", "pay", "(IJ)V"⟩, 50) := ⟨⟨by decide +kernel, by decide +kernel⟩, List.mem_of_getElem? (i := 443) (by decide +kernel), List.mem_of_getElem? (i := 654) (by decide +kernel), List.mem_of_getElem? (i := 655) (by decide +kernel)⟩
theorem lw_p33 : lw_okq (⟨"VoteAuctionsModel", "setAside", "(IJ)V"⟩, 50) := ⟨⟨by decide +kernel, by decide +kernel⟩, List.mem_of_getElem? (i := 443) (by decide +kernel), List.mem_of_getElem? (i := 658) (by decide +kernel), List.mem_of_getElem? (i := 659) (by decide +kernel)⟩
theorem lw_p34 : lw_okq (⟨"VoteAuctionsModel", "isQuestion", "(I)Z"⟩, 50) := ⟨⟨by decide +kernel, by decide +kernel⟩, List.mem_of_getElem? (i := 443) (by decide +kernel), List.mem_of_getElem? (i := 676) (by decide +kernel), List.mem_of_getElem? (i := 677) (by decide +kernel)⟩
theorem lw_p35 : lw_okq (⟨"VoteAuctionsModel", "isVote", "(III)Z"⟩, 50) := ⟨⟨by decide +kernel, by decide +kernel⟩, List.mem_of_getElem? (i := 443) (by decide +kernel), List.mem_of_getElem? (i := 684) (by decide +kernel), List.mem_of_getElem? (i := 685) (by decide +kernel)⟩
theorem lw_p36 : lw_okq (⟨"VoteAuctionsModel", "isHidden", "(I)Z"⟩, 50) := ⟨⟨by decide +kernel, by decide +kernel⟩, List.mem_of_getElem? (i := 443) (by decide +kernel), List.mem_of_getElem? (i := 691) (by decide +kernel), List.mem_of_getElem? (i := 692) (by decide +kernel)⟩
theorem lw_p37 : lw_okq (⟨"VoteAuctionsModel", "findCounts", "(I)V"⟩, 50) := ⟨⟨by decide +kernel, by decide +kernel⟩, List.mem_of_getElem? (i := 443) (by decide +kernel), List.mem_of_getElem? (i := 708) (by decide +kernel), List.mem_of_getElem? (i := 709) (by decide +kernel)⟩
theorem lw_p38 : lw_okq (⟨"VoteAuctionsModel", "findVoices", "(I)V"⟩, 50) := ⟨⟨by decide +kernel, by decide +kernel⟩, List.mem_of_getElem? (i := 443) (by decide +kernel), List.mem_of_getElem? (i := 712) (by decide +kernel), List.mem_of_getElem? (i := 713) (by decide +kernel)⟩
theorem lw_p39 : lw_okq (⟨"VoteAuctionsModel", "speakerOf", "(II)I"⟩, 50) := ⟨⟨by decide +kernel, by decide +kernel⟩, List.mem_of_getElem? (i := 443) (by decide +kernel), List.mem_of_getElem? (i := 716) (by decide +kernel), List.mem_of_getElem? (i := 717) (by decide +kernel)⟩
theorem lw_p40 : lw_okq (⟨"VoteAuctionsModel", "weightOf", "(II)I"⟩, 50) := ⟨⟨by decide +kernel, by decide +kernel⟩, List.mem_of_getElem? (i := 443) (by decide +kernel), List.mem_of_getElem? (i := 720) (by decide +kernel), List.mem_of_getElem? (i := 721) (by decide +kernel)⟩
theorem lw_p41 : lw_okq (⟨"VoteAuctionsModel", "runOff", "(I)V"⟩, 50) := ⟨⟨by decide +kernel, by decide +kernel⟩, List.mem_of_getElem? (i := 443) (by decide +kernel), List.mem_of_getElem? (i := 724) (by decide +kernel), List.mem_of_getElem? (i := 725) (by decide +kernel)⟩
theorem lw_p42 : lw_okq (⟨"VoteAuctionsModel", "rankOf", "(I)I"⟩, 50) := ⟨⟨by decide +kernel, by decide +kernel⟩, List.mem_of_getElem? (i := 443) (by decide +kernel), List.mem_of_getElem? (i := 728) (by decide +kernel), List.mem_of_getElem? (i := 729) (by decide +kernel)⟩
theorem lw_p43 : lw_okq (⟨"VoteAuctionsModel", "first", "(I)I"⟩, 50) := ⟨⟨by decide +kernel, by decide +kernel⟩, List.mem_of_getElem? (i := 443) (by decide +kernel), List.mem_of_getElem? (i := 740) (by decide +kernel), List.mem_of_getElem? (i := 741) (by decide +kernel)⟩
theorem lw_p44 : lw_okq (⟨"VoteAuctionsModel", "isPassed", "(I)Z"⟩, 50) := ⟨⟨by decide +kernel, by decide +kernel⟩, List.mem_of_getElem? (i := 443) (by decide +kernel), List.mem_of_getElem? (i := 748) (by decide +kernel), List.mem_of_getElem? (i := 749) (by decide +kernel)⟩
theorem lw_p45 : lw_okq (⟨"VoteAuctionsModel", "isAuction", "(I)Z"⟩, 50) := ⟨⟨by decide +kernel, by decide +kernel⟩, List.mem_of_getElem? (i := 443) (by decide +kernel), List.mem_of_getElem? (i := 765) (by decide +kernel), List.mem_of_getElem? (i := 766) (by decide +kernel)⟩
theorem lw_p46 : lw_okq (⟨"VoteAuctionsModel", "isOver", "(I)Z"⟩, 50) := ⟨⟨by decide +kernel, by decide +kernel⟩, List.mem_of_getElem? (i := 443) (by decide +kernel), List.mem_of_getElem? (i := 769) (by decide +kernel), List.mem_of_getElem? (i := 770) (by decide +kernel)⟩
theorem lw_p47 : lw_okq (⟨"VoteAuctionsModel", "nowPrice", "(I)J"⟩, 50) := ⟨⟨by decide +kernel, by decide +kernel⟩, List.mem_of_getElem? (i := 443) (by decide +kernel), List.mem_of_getElem? (i := 785) (by decide +kernel), List.mem_of_getElem? (i := 786) (by decide +kernel)⟩
def lw_privs_3 : List (MethodName × Nat) := [(⟨"VoteAuctionsModel", "pay", "(IJ)V"⟩, 50), (⟨"VoteAuctionsModel", "setAside", "(IJ)V"⟩, 50), (⟨"VoteAuctionsModel", "isQuestion", "(I)Z"⟩, 50), (⟨"VoteAuctionsModel", "isVote", "(III)Z"⟩, 50), (⟨"VoteAuctionsModel", "isHidden", "(I)Z"⟩, 50), (⟨"VoteAuctionsModel", "findCounts", "(I)V"⟩, 50), (⟨"VoteAuctionsModel", "findVoices", "(I)V"⟩, 50), (⟨"VoteAuctionsModel", "speakerOf", "(II)I"⟩, 50), (⟨"VoteAuctionsModel", "weightOf", "(II)I"⟩, 50), (⟨"VoteAuctionsModel", "runOff", "(I)V"⟩, 50), (⟨"VoteAuctionsModel", "rankOf", "(I)I"⟩, 50), (⟨"VoteAuctionsModel", "first", "(I)I"⟩, 50), (⟨"VoteAuctionsModel", "isPassed", "(I)Z"⟩, 50), (⟨"VoteAuctionsModel", "isAuction", "(I)Z"⟩, 50), (⟨"VoteAuctionsModel", "isOver", "(I)Z"⟩, 50), (⟨"VoteAuctionsModel", "nowPrice", "(I)J"⟩, 50)]
theorem lw_r3 : ∀ q ∈ lw_privs_3, lw_okq q := List.forall_mem_cons.mpr ⟨lw_p32, List.forall_mem_cons.mpr ⟨lw_p33, List.forall_mem_cons.mpr ⟨lw_p34, List.forall_mem_cons.mpr ⟨lw_p35, List.forall_mem_cons.mpr ⟨lw_p36, List.forall_mem_cons.mpr ⟨lw_p37, List.forall_mem_cons.mpr ⟨lw_p38, List.forall_mem_cons.mpr ⟨lw_p39, List.forall_mem_cons.mpr ⟨lw_p40, List.forall_mem_cons.mpr ⟨lw_p41, List.forall_mem_cons.mpr ⟨lw_p42, List.forall_mem_cons.mpr ⟨lw_p43, List.forall_mem_cons.mpr ⟨lw_p44, List.forall_mem_cons.mpr ⟨lw_p45, List.forall_mem_cons.mpr ⟨lw_p46, List.forall_mem_cons.mpr ⟨lw_p47, fun _ h => absurd h List.not_mem_nil⟩⟩⟩⟩⟩⟩⟩⟩⟩⟩⟩⟩⟩⟩⟩⟩
def lw_privs : List (MethodName × Nat) := lw_privs_1 ++ (lw_privs_2 ++ (lw_privs_3))
def lw_tbl : List Cond := k2_sels lw_privs ++ tables_1
theorem lw_privs_ok : ∀ q ∈ lw_privs, lw_okq q := by
  show ∀ q ∈ lw_privs_1 ++ (lw_privs_2 ++ (lw_privs_3)), lw_okq q
  exact List.forall_mem_append.mpr ⟨lw_r1, List.forall_mem_append.mpr ⟨lw_r2, lw_r3⟩⟩
end
section
/-! DATA: the classes whose objects there are, their fields, the kinds of arrays, the words that last -/
def ax_ws : List Cond := lw_tbl.filter goodWord
def ax_isN (w : Cond) : Bool := match w with
  | .fieldLinkNest _ _ _ _ _ _ => true
  | .methodLinkNest _ _ _ _ => true
  | _ => false
def ax_nest : List Cond := tables_1.filter ax_isN
theorem ax_ws_good : ∀ w ∈ ax_ws, (w.onTables && w.keeps) = true ∨ ∃ ty, w = .arrayClass ty := fun w h => good_of_word (List.mem_filter.mp h).2
theorem ax_nest_tab : ∀ w ∈ ax_nest, w.onTables = true := by
  intro w h
  have h2 := (List.mem_filter.mp h).2
  cases w <;> first | rfl | (simp [ax_isN] at h2; done)
theorem ax_nest_warm : ∀ w ∈ ax_nest, ∀ {s U : State}, s.WarmedH U.vm → va_Nw w s → va_Nw w U := by
  intro w h s U hW hz
  have h2 := (List.mem_filter.mp h).2
  cases w <;> first | exact va_Nw.warmF hW hz | exact va_Nw.warmM hW hz | (simp [ax_isN] at h2; done)
theorem ax_tw {i : Nat} {w : Cond} (h : tables_1[i]? = some w) (g : goodWord w = true) : w ∈ ax_ws := List.mem_filter.mpr ⟨List.mem_append_right _ (List.mem_of_getElem? h), g⟩
theorem ax_tn {i : Nat} {w : Cond} (h : tables_1[i]? = some w) (g : ax_isN w = true) : w ∈ ax_nest := List.mem_filter.mpr ⟨List.mem_of_getElem? h, g⟩
theorem ax_ts0 {i : Nat} {w : Cond} (h : (k2_sels lw_privs)[i]? = some w) (g : goodWord w = true) : w ∈ ax_ws := List.mem_filter.mpr ⟨List.mem_append_left _ (List.mem_of_getElem? h), g⟩
theorem ax_tc1 {i : Nat} {w : Cond} (h : tables_1_1[i]? = some w) (g : goodWord w = true) : w ∈ ax_ws := List.mem_filter.mpr ⟨List.mem_append_right _ (List.mem_append_left _ (List.mem_of_getElem? h)), g⟩
theorem ax_tc2 {i : Nat} {w : Cond} (h : tables_1_2[i]? = some w) (g : goodWord w = true) : w ∈ ax_ws := List.mem_filter.mpr ⟨List.mem_append_right _ (List.mem_append_right _ (List.mem_append_left _ (List.mem_of_getElem? h))), g⟩
theorem ax_tc3 {i : Nat} {w : Cond} (h : tables_1_3[i]? = some w) (g : goodWord w = true) : w ∈ ax_ws := List.mem_filter.mpr ⟨List.mem_append_right _ (List.mem_append_right _ (List.mem_append_right _ (List.mem_append_left _ (List.mem_of_getElem? h)))), g⟩
theorem ax_tc4 {i : Nat} {w : Cond} (h : tables_1_4[i]? = some w) (g : goodWord w = true) : w ∈ ax_ws := List.mem_filter.mpr ⟨List.mem_append_right _ (List.mem_append_right _ (List.mem_append_right _ (List.mem_append_right _ (List.mem_of_getElem? h)))), g⟩
def ax_R0 : String := "VoteAuctions"
def ax_T0 : u_T := fun k => match k with
  | 0 => ("VoteAuctions", "height", "I", false)
  | 1 => ("VoteAuctions", "pot", "J", false)
  | 2 => ("VoteAuctions", "accountCount", "I", false)
  | 3 => ("VoteAuctions", "weights", "[I", true)
  | 4 => ("VoteAuctions", "funds", "[J", true)
  | 5 => ("VoteAuctions", "asides", "[J", true)
  | 6 => ("VoteAuctions", "speakers", "[I", true)
  | 7 => ("VoteAuctions", "questionCount", "I", false)
  | 8 => ("VoteAuctions", "questions", "[LVoteAuctions$Question;", true)
  | 9 => ("VoteAuctions", "auctionCount", "I", false)
  | 10 => ("VoteAuctions", "auctions", "[LVoteAuctions$Auction;", true)
  | 11 => ("VoteAuctions", "voices", "[I", true)
  | 12 => ("VoteAuctions", "counts", "[I", true)
  | 13 => ("VoteAuctions", "fell", "[I", true)
  | _ => ("VoteAuctions", "falls", "I", false)
def ax_y0 : Nat → FieldType := fun k => match k with
  | 0 => .int
  | 1 => .long
  | 2 => .int
  | 3 => .array .int
  | 4 => .array .long
  | 5 => .array .long
  | 6 => .array .int
  | 7 => .int
  | 8 => .array (.object "VoteAuctions$Question")
  | 9 => .int
  | 10 => .array (.object "VoteAuctions$Auction")
  | 11 => .array .int
  | 12 => .array .int
  | 13 => .array .int
  | _ => .int
def ax_q0 : List Nat := [34, 36, 38, 40, 42, 44, 46, 48, 50, 52, 54, 56, 58, 60, 62]
set_option maxRecDepth 100000 in
theorem ax_u0 : ∀ k, k < 15 → tables_1[ax_q0.getD k 0]? = some (u_lay ax_R0 ax_T0 k) ∧ goodWord (u_lay ax_R0 ax_T0 k) = true := by decide +kernel
set_option maxRecDepth 100000 in
theorem ax_n0 : ∀ a, a < 15 → ∀ b, b < 15 → a ≠ b → (ax_T0 a).2.1 ≠ (ax_T0 b).2.1 := by decide +kernel
set_option maxRecDepth 100000 in
theorem ax_d0 : ∀ k, k < 15 → parseFieldDescriptor (ax_T0 k).2.2.1 = some (ax_y0 k) := by decide +kernel
theorem ax_v0 : ∀ w ∈ u_ws ax_R0 ax_T0 15, w ∈ ax_ws := by
  intro w hw
  obtain ⟨k, hk, rfl⟩ := List.mem_map.mp hw
  obtain ⟨h1, h2⟩ := ax_u0 k (List.mem_range.mp hk)
  exact ax_tw h1 h2
def ax_R1 : String := "VoteAuctions$Question"
def ax_T1 : u_T := fun k => match k with
  | 0 => ("VoteAuctions$Question", "kind", "I", true)
  | 1 => ("VoteAuctions$Question", "choices", "I", true)
  | 2 => ("VoteAuctions$Question", "shut", "I", true)
  | 3 => ("VoteAuctions$Question", "end", "I", true)
  | 4 => ("VoteAuctions$Question", "quorum", "I", true)
  | 5 => ("VoteAuctions$Question", "weights", "[I", true)
  | 6 => ("VoteAuctions$Question", "votes", "[I", true)
  | 7 => ("VoteAuctions$Question", "marked", "[Z", true)
  | 8 => ("VoteAuctions$Question", "marks", "[J", true)
  | 9 => ("VoteAuctions$Question", "speakersAtEnd", "[I", true)
  | 10 => ("VoteAuctions$Question", "callAccount", "I", false)
  | 11 => ("VoteAuctions$Question", "callSum", "I", false)
  | 12 => ("VoteAuctions$Question", "callHeight", "I", false)
  | _ => ("VoteAuctions$Question", "callRun", "Z", false)
def ax_y1 : Nat → FieldType := fun k => match k with
  | 0 => .int
  | 1 => .int
  | 2 => .int
  | 3 => .int
  | 4 => .int
  | 5 => .array .int
  | 6 => .array .int
  | 7 => .array .boolean
  | 8 => .array .long
  | 9 => .array .int
  | 10 => .int
  | 11 => .int
  | 12 => .int
  | _ => .boolean
def ax_q1 : List Nat := [200, 202, 204, 206, 208, 210, 212, 214, 216, 218, 220, 222, 224, 226]
set_option maxRecDepth 100000 in
theorem ax_u1 : ∀ k, k < 14 → tables_1[ax_q1.getD k 0]? = some (u_lay ax_R1 ax_T1 k) ∧ goodWord (u_lay ax_R1 ax_T1 k) = true := by decide +kernel
set_option maxRecDepth 100000 in
theorem ax_n1 : ∀ a, a < 14 → ∀ b, b < 14 → a ≠ b → (ax_T1 a).2.1 ≠ (ax_T1 b).2.1 := by decide +kernel
set_option maxRecDepth 100000 in
theorem ax_d1 : ∀ k, k < 14 → parseFieldDescriptor (ax_T1 k).2.2.1 = some (ax_y1 k) := by decide +kernel
theorem ax_v1 : ∀ w ∈ u_ws ax_R1 ax_T1 14, w ∈ ax_ws := by
  intro w hw
  obtain ⟨k, hk, rfl⟩ := List.mem_map.mp hw
  obtain ⟨h1, h2⟩ := ax_u1 k (List.mem_range.mp hk)
  exact ax_tw h1 h2
def ax_R2 : String := "VoteAuctions$Auction"
def ax_T2 : u_T := fun k => match k with
  | 0 => ("VoteAuctions$Auction", "kind", "I", true)
  | 1 => ("VoteAuctions$Auction", "units", "I", true)
  | 2 => ("VoteAuctions$Auction", "least", "I", true)
  | 3 => ("VoteAuctions$Auction", "step", "I", true)
  | 4 => ("VoteAuctions$Auction", "shut", "I", true)
  | 5 => ("VoteAuctions$Auction", "end", "I", true)
  | 6 => ("VoteAuctions$Auction", "told", "[I", true)
  | 7 => ("VoteAuctions$Auction", "marks", "[J", true)
  | 8 => ("VoteAuctions$Auction", "wants", "[I", true)
  | 9 => ("VoteAuctions$Auction", "prices", "[I", true)
  | 10 => ("VoteAuctions$Auction", "won", "[I", true)
  | 11 => ("VoteAuctions$Auction", "tellings", "I", false)
  | 12 => ("VoteAuctions$Auction", "leader", "I", false)
  | _ => ("VoteAuctions$Auction", "knownPrice", "I", false)
def ax_y2 : Nat → FieldType := fun k => match k with
  | 0 => .int
  | 1 => .int
  | 2 => .int
  | 3 => .int
  | 4 => .int
  | 5 => .int
  | 6 => .array .int
  | 7 => .array .long
  | 8 => .array .int
  | 9 => .array .int
  | 10 => .array .int
  | 11 => .int
  | 12 => .int
  | _ => .int
def ax_q2 : List Nat := [366, 368, 370, 372, 374, 376, 378, 380, 382, 384, 386, 388, 390, 392]
set_option maxRecDepth 100000 in
theorem ax_u2 : ∀ k, k < 14 → tables_1[ax_q2.getD k 0]? = some (u_lay ax_R2 ax_T2 k) ∧ goodWord (u_lay ax_R2 ax_T2 k) = true := by decide +kernel
set_option maxRecDepth 100000 in
theorem ax_n2 : ∀ a, a < 14 → ∀ b, b < 14 → a ≠ b → (ax_T2 a).2.1 ≠ (ax_T2 b).2.1 := by decide +kernel
set_option maxRecDepth 100000 in
theorem ax_d2 : ∀ k, k < 14 → parseFieldDescriptor (ax_T2 k).2.2.1 = some (ax_y2 k) := by decide +kernel
theorem ax_v2 : ∀ w ∈ u_ws ax_R2 ax_T2 14, w ∈ ax_ws := by
  intro w hw
  obtain ⟨k, hk, rfl⟩ := List.mem_map.mp hw
  obtain ⟨h1, h2⟩ := ax_u2 k (List.mem_range.mp hk)
  exact ax_tw h1 h2
def ax_R3 : String := "VoteAuctionsModel"
def ax_T3 : u_T := fun k => match k with
  | 0 => ("VoteAuctionsModel", "code", "I", false)
  | 1 => ("VoteAuctionsModel", "height", "I", false)
  | 2 => ("VoteAuctionsModel", "pot", "J", false)
  | 3 => ("VoteAuctionsModel", "accounts", "I", false)
  | 4 => ("VoteAuctionsModel", "weight", "[I", true)
  | 5 => ("VoteAuctionsModel", "funds", "[J", true)
  | 6 => ("VoteAuctionsModel", "aside", "[J", true)
  | 7 => ("VoteAuctionsModel", "speaker", "[I", true)
  | 8 => ("VoteAuctionsModel", "questions", "I", false)
  | 9 => ("VoteAuctionsModel", "qKind", "[I", true)
  | 10 => ("VoteAuctionsModel", "qChoices", "[I", true)
  | 11 => ("VoteAuctionsModel", "qShut", "[I", true)
  | 12 => ("VoteAuctionsModel", "qEnd", "[I", true)
  | 13 => ("VoteAuctionsModel", "qQuorum", "[I", true)
  | 14 => ("VoteAuctionsModel", "qCalls", "[Z", true)
  | 15 => ("VoteAuctionsModel", "qRan", "[Z", true)
  | 16 => ("VoteAuctionsModel", "qTo", "[I", true)
  | 17 => ("VoteAuctionsModel", "qSum", "[I", true)
  | 18 => ("VoteAuctionsModel", "qLock", "[I", true)
  | 19 => ("VoteAuctionsModel", "qWeight", "[I", true)
  | 20 => ("VoteAuctionsModel", "qHas", "[Z", true)
  | 21 => ("VoteAuctionsModel", "qVote", "[I", true)
  | 22 => ("VoteAuctionsModel", "qMarked", "[Z", true)
  | 23 => ("VoteAuctionsModel", "qMark", "[J", true)
  | 24 => ("VoteAuctionsModel", "qSpeaker", "[I", true)
  | 25 => ("VoteAuctionsModel", "auctions", "I", false)
  | 26 => ("VoteAuctionsModel", "told", "I", false)
  | 27 => ("VoteAuctionsModel", "aKind", "[I", true)
  | 28 => ("VoteAuctionsModel", "aUnits", "[I", true)
  | 29 => ("VoteAuctionsModel", "aLeast", "[I", true)
  | 30 => ("VoteAuctionsModel", "aStep", "[I", true)
  | 31 => ("VoteAuctionsModel", "aShut", "[I", true)
  | 32 => ("VoteAuctionsModel", "aEnd", "[I", true)
  | 33 => ("VoteAuctionsModel", "aPrice", "[J", true)
  | 34 => ("VoteAuctionsModel", "aTaken", "[I", true)
  | 35 => ("VoteAuctionsModel", "bIs", "[Z", true)
  | 36 => ("VoteAuctionsModel", "bUnits", "[I", true)
  | 37 => ("VoteAuctionsModel", "bPrice", "[I", true)
  | 38 => ("VoteAuctionsModel", "bWhen", "[I", true)
  | 39 => ("VoteAuctionsModel", "bMark", "[J", true)
  | 40 => ("VoteAuctionsModel", "bOpen", "[Z", true)
  | 41 => ("VoteAuctionsModel", "bWon", "[I", true)
  | 42 => ("VoteAuctionsModel", "voice", "[I", true)
  | 43 => ("VoteAuctionsModel", "passed", "[I", true)
  | 44 => ("VoteAuctionsModel", "has", "[I", true)
  | 45 => ("VoteAuctionsModel", "isIn", "[Z", true)
  | 46 => ("VoteAuctionsModel", "fell", "[I", true)
  | 47 => ("VoteAuctionsModel", "rounds", "I", false)
  | 48 => ("VoteAuctionsModel", "cast", "I", false)
  | _ => ("VoteAuctionsModel", "any", "Z", false)
def ax_y3 : Nat → FieldType := fun k => match k with
  | 0 => .int
  | 1 => .int
  | 2 => .long
  | 3 => .int
  | 4 => .array .int
  | 5 => .array .long
  | 6 => .array .long
  | 7 => .array .int
  | 8 => .int
  | 9 => .array .int
  | 10 => .array .int
  | 11 => .array .int
  | 12 => .array .int
  | 13 => .array .int
  | 14 => .array .boolean
  | 15 => .array .boolean
  | 16 => .array .int
  | 17 => .array .int
  | 18 => .array .int
  | 19 => .array .int
  | 20 => .array .boolean
  | 21 => .array .int
  | 22 => .array .boolean
  | 23 => .array .long
  | 24 => .array .int
  | 25 => .int
  | 26 => .int
  | 27 => .array .int
  | 28 => .array .int
  | 29 => .array .int
  | 30 => .array .int
  | 31 => .array .int
  | 32 => .array .int
  | 33 => .array .long
  | 34 => .array .int
  | 35 => .array .boolean
  | 36 => .array .int
  | 37 => .array .int
  | 38 => .array .int
  | 39 => .array .long
  | 40 => .array .boolean
  | 41 => .array .int
  | 42 => .array .int
  | 43 => .array .int
  | 44 => .array .int
  | 45 => .array .boolean
  | 46 => .array .int
  | 47 => .int
  | 48 => .int
  | _ => .boolean
def ax_q3 : List Nat := [497, 499, 501, 503, 505, 507, 509, 511, 513, 515, 517, 519, 521, 523, 525, 527, 529, 531, 533, 535, 537, 539, 541, 543, 545, 547, 549, 551, 553, 555, 557, 559, 561, 563, 565, 567, 569, 571, 573, 575, 577, 579, 581, 583, 585, 587, 589, 591, 593, 595]
set_option maxRecDepth 100000 in
theorem ax_u3 : ∀ k, k < 50 → tables_1[ax_q3.getD k 0]? = some (u_lay ax_R3 ax_T3 k) ∧ goodWord (u_lay ax_R3 ax_T3 k) = true := by decide +kernel
set_option maxRecDepth 100000 in
theorem ax_n3 : ∀ a, a < 50 → ∀ b, b < 50 → a ≠ b → (ax_T3 a).2.1 ≠ (ax_T3 b).2.1 := by decide +kernel
set_option maxRecDepth 100000 in
theorem ax_d3 : ∀ k, k < 50 → parseFieldDescriptor (ax_T3 k).2.2.1 = some (ax_y3 k) := by decide +kernel
theorem ax_v3 : ∀ w ∈ u_ws ax_R3 ax_T3 50, w ∈ ax_ws := by
  intro w hw
  obtain ⟨k, hk, rfl⟩ := List.mem_map.mp hw
  obtain ⟨h1, h2⟩ := ax_u3 k (List.mem_range.mp hk)
  exact ax_tw h1 h2
abbrev ax_cl : List vw_C := [(ax_R0, ax_T0, 15), (ax_R1, ax_T1, 14), (ax_R2, ax_T2, 14), (ax_R3, ax_T3, 50)]
def ax_ty : Nat → Nat → FieldType := fun ci => match ci with
  | 0 => ax_y0
  | 1 => ax_y1
  | 2 => ax_y2
  | _ => ax_y3
def ax_el : Nat → FieldType := fun t => match t with
  | 0 => .int
  | 1 => .long
  | 2 => .boolean
  | 3 => .object "VoteAuctions$Question"
  | _ => .object "VoteAuctions$Auction"
def ax_nt : Nat := 5
def ax_ao : List String := ["VoteAuctions$Question", "VoteAuctions$Auction"]
/-- what the words say of a class -/
def ax_cok (ci : Nat) (q : vw_C) : Prop := (∀ w ∈ u_ws q.1 q.2.1 q.2.2, w ∈ ax_ws) ∧ (∀ k, k < q.2.2 → parseFieldDescriptor (q.2.1 k).2.2.1 = some (ax_ty ci k)) ∧ (∀ a, a < q.2.2 → ∀ b, b < q.2.2 → a ≠ b → (q.2.1 a).2.1 ≠ (q.2.1 b).2.1) ∧ Cond.instantiable q.1 q.2.2 ∈ ax_ws ∧ Cond.initialized q.1 ∈ ax_ws ∧ ∀ k, k < q.2.2 → (q.2.1 k).1 = q.1
set_option maxRecDepth 100000 in
theorem ax_k0 : ax_cok 0 (ax_R0, ax_T0, 15) := ⟨ax_v0, ax_d0, ax_n0, ax_tw (i := 8) (by decide +kernel) (by decide +kernel), ax_tw (i := 1) (by decide +kernel) (by decide +kernel), by decide +kernel⟩
set_option maxRecDepth 100000 in
theorem ax_k1 : ax_cok 1 (ax_R1, ax_T1, 14) := ⟨ax_v1, ax_d1, ax_n1, ax_tw (i := 170) (by decide +kernel) (by decide +kernel), ax_tw (i := 5) (by decide +kernel) (by decide +kernel), by decide +kernel⟩
set_option maxRecDepth 100000 in
theorem ax_k2 : ax_cok 2 (ax_R2, ax_T2, 14) := ⟨ax_v2, ax_d2, ax_n2, ax_tw (i := 124) (by decide +kernel) (by decide +kernel), ax_tw (i := 6) (by decide +kernel) (by decide +kernel), by decide +kernel⟩
set_option maxRecDepth 100000 in
theorem ax_k3 : ax_cok 3 (ax_R3, ax_T3, 50) := ⟨ax_v3, ax_d3, ax_n3, ax_tw (i := 443) (by decide +kernel) (by decide +kernel), ax_tw (i := 2) (by decide +kernel) (by decide +kernel), by decide +kernel⟩
theorem ax_cl_ok {ci : Nat} {q : vw_C} (h : ax_cl[ci]? = some q) : ax_cok ci q := by
  match ci, h with
  | 0, h => cases h; exact ax_k0
  | 1, h => cases h; exact ax_k1
  | 2, h => cases h; exact ax_k2
  | 3, h => cases h; exact ax_k3
  | n + 4, h => simp [ax_cl] at h
/-- a field's link: own, or by the nest -/
def ax_fl (own : String) (idx ci k : Nat) : Prop := ∃ q : vw_C, ax_cl[ci]? = some q ∧ k < q.2.2 ∧ (Cond.fieldLink own idx q.1 (q.2.1 k).2.1 (q.2.1 k).2.2.1 ∈ ax_ws ∨ ∃ h, Cond.fieldLinkNest own idx q.1 (q.2.1 k).2.1 (q.2.1 k).2.2.1 h ∈ ax_nest)
/-- a method's link -/
def ax_ml (own : String) (idx : Nat) (y : MethodName) : Prop := Cond.methodLink own idx y ∈ ax_ws ∨ ∃ h, Cond.methodLinkNest own idx y h ∈ ax_nest
def ax_yk (y : MethodName) (n : Nat) : Prop := y.cls ≠ "java/lang/invoke/MethodHandle" ∧ y.cls ≠ "java/lang/invoke/VarHandle" ∧ (parseMethodDescriptor y.desc).map (fun d => d.parameters.length) = some n
def ax_ms (y : MethodName) (bytes : ByteArray) (maxL : Nat) (rt : Option FieldType) (n : Nat) : Prop := Cond.code y bytes maxL rt ∈ ax_ws ∧ Cond.static y ∈ ax_ws ∧ Cond.initialized y.cls ∈ ax_ws ∧ ax_yk y n
def ax_mv (y : MethodName) (bytes : ByteArray) (maxL : Nat) (rt : Option FieldType) (n ci : Nat) : Prop := Cond.code y bytes maxL rt ∈ ax_ws ∧ Cond.instanceMethod y ∈ ax_ws ∧ Cond.selects y.cls y y ∈ ax_ws ∧ Cond.initialized y.cls ∈ ax_ws ∧ ax_yk y n ∧ ∃ q : vw_C, ax_cl[ci]? = some q ∧ q.1 = y.cls
def ax_mi (y : MethodName) (bytes : ByteArray) (maxL n : Nat) : Prop := Cond.code y bytes maxL none ∈ ax_ws ∧ Cond.instanceMethod y ∈ ax_ws ∧ y.name = "<init>" ∧ Cond.initialized y.cls ∈ ax_ws ∧ ax_yk y n
theorem k_V_66 : ax_fl "VoteAuctions" 66 0 0 := ⟨_, rfl, by decide, Or.inl (ax_tw (i := 19) (by decide +kernel) (by decide +kernel))⟩
theorem k_V_62 : ax_fl "VoteAuctions" 62 0 1 := ⟨_, rfl, by decide, Or.inl (ax_tw (i := 20) (by decide +kernel) (by decide +kernel))⟩
theorem k_V_49 : ax_fl "VoteAuctions" 49 0 2 := ⟨_, rfl, by decide, Or.inl (ax_tw (i := 21) (by decide +kernel) (by decide +kernel))⟩
theorem k_V_9 : ax_fl "VoteAuctions" 9 0 3 := ⟨_, rfl, by decide, Or.inl (ax_tw (i := 22) (by decide +kernel) (by decide +kernel))⟩
theorem k_V_13 : ax_fl "VoteAuctions" 13 0 4 := ⟨_, rfl, by decide, Or.inl (ax_tw (i := 23) (by decide +kernel) (by decide +kernel))⟩
theorem k_V_17 : ax_fl "VoteAuctions" 17 0 5 := ⟨_, rfl, by decide, Or.inl (ax_tw (i := 24) (by decide +kernel) (by decide +kernel))⟩
theorem k_V_20 : ax_fl "VoteAuctions" 20 0 6 := ⟨_, rfl, by decide, Or.inl (ax_tw (i := 25) (by decide +kernel) (by decide +kernel))⟩
theorem k_V_79 : ax_fl "VoteAuctions" 79 0 7 := ⟨_, rfl, by decide, Or.inl (ax_tw (i := 26) (by decide +kernel) (by decide +kernel))⟩
theorem k_V_25 : ax_fl "VoteAuctions" 25 0 8 := ⟨_, rfl, by decide, Or.inl (ax_tw (i := 27) (by decide +kernel) (by decide +kernel))⟩
theorem k_V_158 : ax_fl "VoteAuctions" 158 0 9 := ⟨_, rfl, by decide, Or.inl (ax_tw (i := 28) (by decide +kernel) (by decide +kernel))⟩
theorem k_V_31 : ax_fl "VoteAuctions" 31 0 10 := ⟨_, rfl, by decide, Or.inl (ax_tw (i := 29) (by decide +kernel) (by decide +kernel))⟩
theorem k_V_35 : ax_fl "VoteAuctions" 35 0 11 := ⟨_, rfl, by decide, Or.inl (ax_tw (i := 30) (by decide +kernel) (by decide +kernel))⟩
theorem k_V_38 : ax_fl "VoteAuctions" 38 0 12 := ⟨_, rfl, by decide, Or.inl (ax_tw (i := 31) (by decide +kernel) (by decide +kernel))⟩
theorem k_V_41 : ax_fl "VoteAuctions" 41 0 13 := ⟨_, rfl, by decide, Or.inl (ax_tw (i := 32) (by decide +kernel) (by decide +kernel))⟩
theorem k_V_143 : ax_fl "VoteAuctions" 143 0 14 := ⟨_, rfl, by decide, Or.inl (ax_tw (i := 33) (by decide +kernel) (by decide +kernel))⟩
theorem k_Q_9 : ax_fl "VoteAuctions$Question" 9 1 0 := ⟨_, rfl, by decide, Or.inl (ax_tw (i := 175) (by decide +kernel) (by decide +kernel))⟩
theorem k_V_140 : ax_fl "VoteAuctions" 140 1 0 := ⟨_, rfl, by decide, Or.inr ⟨"VoteAuctions", ax_tn (i := 176) (by decide +kernel) (by decide +kernel)⟩⟩
theorem k_Q_15 : ax_fl "VoteAuctions$Question" 15 1 1 := ⟨_, rfl, by decide, Or.inl (ax_tw (i := 177) (by decide +kernel) (by decide +kernel))⟩
theorem k_V_133 : ax_fl "VoteAuctions" 133 1 1 := ⟨_, rfl, by decide, Or.inr ⟨"VoteAuctions", ax_tn (i := 178) (by decide +kernel) (by decide +kernel)⟩⟩
theorem k_Q_18 : ax_fl "VoteAuctions$Question" 18 1 2 := ⟨_, rfl, by decide, Or.inl (ax_tw (i := 179) (by decide +kernel) (by decide +kernel))⟩
theorem k_V_96 : ax_fl "VoteAuctions" 96 1 2 := ⟨_, rfl, by decide, Or.inr ⟨"VoteAuctions", ax_tn (i := 180) (by decide +kernel) (by decide +kernel)⟩⟩
theorem k_Q_21 : ax_fl "VoteAuctions$Question" 21 1 3 := ⟨_, rfl, by decide, Or.inl (ax_tw (i := 181) (by decide +kernel) (by decide +kernel))⟩
theorem k_V_105 : ax_fl "VoteAuctions" 105 1 3 := ⟨_, rfl, by decide, Or.inr ⟨"VoteAuctions", ax_tn (i := 182) (by decide +kernel) (by decide +kernel)⟩⟩
theorem k_Q_24 : ax_fl "VoteAuctions$Question" 24 1 4 := ⟨_, rfl, by decide, Or.inl (ax_tw (i := 183) (by decide +kernel) (by decide +kernel))⟩
theorem k_V_279 : ax_fl "VoteAuctions" 279 1 4 := ⟨_, rfl, by decide, Or.inr ⟨"VoteAuctions", ax_tn (i := 184) (by decide +kernel) (by decide +kernel)⟩⟩
theorem k_Q_27 : ax_fl "VoteAuctions$Question" 27 1 5 := ⟨_, rfl, by decide, Or.inl (ax_tw (i := 185) (by decide +kernel) (by decide +kernel))⟩
theorem k_V_85 : ax_fl "VoteAuctions" 85 1 5 := ⟨_, rfl, by decide, Or.inr ⟨"VoteAuctions", ax_tn (i := 186) (by decide +kernel) (by decide +kernel)⟩⟩
theorem k_Q_31 : ax_fl "VoteAuctions$Question" 31 1 6 := ⟨_, rfl, by decide, Or.inl (ax_tw (i := 187) (by decide +kernel) (by decide +kernel))⟩
theorem k_V_119 : ax_fl "VoteAuctions" 119 1 6 := ⟨_, rfl, by decide, Or.inr ⟨"VoteAuctions", ax_tn (i := 188) (by decide +kernel) (by decide +kernel)⟩⟩
theorem k_Q_34 : ax_fl "VoteAuctions$Question" 34 1 7 := ⟨_, rfl, by decide, Or.inl (ax_tw (i := 189) (by decide +kernel) (by decide +kernel))⟩
theorem k_V_122 : ax_fl "VoteAuctions" 122 1 7 := ⟨_, rfl, by decide, Or.inr ⟨"VoteAuctions", ax_tn (i := 190) (by decide +kernel) (by decide +kernel)⟩⟩
theorem k_Q_38 : ax_fl "VoteAuctions$Question" 38 1 8 := ⟨_, rfl, by decide, Or.inl (ax_tw (i := 191) (by decide +kernel) (by decide +kernel))⟩
theorem k_V_126 : ax_fl "VoteAuctions" 126 1 8 := ⟨_, rfl, by decide, Or.inr ⟨"VoteAuctions", ax_tn (i := 192) (by decide +kernel) (by decide +kernel)⟩⟩
theorem k_Q_42 : ax_fl "VoteAuctions$Question" 42 1 9 := ⟨_, rfl, by decide, Or.inl (ax_tw (i := 193) (by decide +kernel) (by decide +kernel))⟩
theorem k_V_260 : ax_fl "VoteAuctions" 260 1 9 := ⟨_, rfl, by decide, Or.inr ⟨"VoteAuctions", ax_tn (i := 194) (by decide +kernel) (by decide +kernel)⟩⟩
theorem k_Q_45 : ax_fl "VoteAuctions$Question" 45 1 10 := ⟨_, rfl, by decide, Or.inl (ax_tw (i := 195) (by decide +kernel) (by decide +kernel))⟩
theorem k_V_99 : ax_fl "VoteAuctions" 99 1 10 := ⟨_, rfl, by decide, Or.inr ⟨"VoteAuctions", ax_tn (i := 196) (by decide +kernel) (by decide +kernel)⟩⟩
theorem k_V_102 : ax_fl "VoteAuctions" 102 1 11 := ⟨_, rfl, by decide, Or.inr ⟨"VoteAuctions", ax_tn (i := 197) (by decide +kernel) (by decide +kernel)⟩⟩
theorem k_V_108 : ax_fl "VoteAuctions" 108 1 12 := ⟨_, rfl, by decide, Or.inr ⟨"VoteAuctions", ax_tn (i := 198) (by decide +kernel) (by decide +kernel)⟩⟩
theorem k_V_154 : ax_fl "VoteAuctions" 154 1 13 := ⟨_, rfl, by decide, Or.inr ⟨"VoteAuctions", ax_tn (i := 199) (by decide +kernel) (by decide +kernel)⟩⟩
theorem k_A_9 : ax_fl "VoteAuctions$Auction" 9 2 0 := ⟨_, rfl, by decide, Or.inl (ax_tw (i := 340) (by decide +kernel) (by decide +kernel))⟩
theorem k_V_174 : ax_fl "VoteAuctions" 174 2 0 := ⟨_, rfl, by decide, Or.inr ⟨"VoteAuctions", ax_tn (i := 341) (by decide +kernel) (by decide +kernel)⟩⟩
theorem k_A_15 : ax_fl "VoteAuctions$Auction" 15 2 1 := ⟨_, rfl, by decide, Or.inl (ax_tw (i := 342) (by decide +kernel) (by decide +kernel))⟩
theorem k_V_168 : ax_fl "VoteAuctions" 168 2 1 := ⟨_, rfl, by decide, Or.inr ⟨"VoteAuctions", ax_tn (i := 343) (by decide +kernel) (by decide +kernel)⟩⟩
theorem k_A_18 : ax_fl "VoteAuctions$Auction" 18 2 2 := ⟨_, rfl, by decide, Or.inl (ax_tw (i := 344) (by decide +kernel) (by decide +kernel))⟩
theorem k_V_171 : ax_fl "VoteAuctions" 171 2 2 := ⟨_, rfl, by decide, Or.inr ⟨"VoteAuctions", ax_tn (i := 345) (by decide +kernel) (by decide +kernel)⟩⟩
theorem k_A_21 : ax_fl "VoteAuctions$Auction" 21 2 3 := ⟨_, rfl, by decide, Or.inl (ax_tw (i := 346) (by decide +kernel) (by decide +kernel))⟩
theorem k_V_282 : ax_fl "VoteAuctions" 282 2 3 := ⟨_, rfl, by decide, Or.inr ⟨"VoteAuctions", ax_tn (i := 347) (by decide +kernel) (by decide +kernel)⟩⟩
theorem k_A_24 : ax_fl "VoteAuctions$Auction" 24 2 4 := ⟨_, rfl, by decide, Or.inl (ax_tw (i := 348) (by decide +kernel) (by decide +kernel))⟩
theorem k_V_214 : ax_fl "VoteAuctions" 214 2 4 := ⟨_, rfl, by decide, Or.inr ⟨"VoteAuctions", ax_tn (i := 349) (by decide +kernel) (by decide +kernel)⟩⟩
theorem k_A_27 : ax_fl "VoteAuctions$Auction" 27 2 5 := ⟨_, rfl, by decide, Or.inl (ax_tw (i := 350) (by decide +kernel) (by decide +kernel))⟩
theorem k_V_175 : ax_fl "VoteAuctions" 175 2 5 := ⟨_, rfl, by decide, Or.inr ⟨"VoteAuctions", ax_tn (i := 351) (by decide +kernel) (by decide +kernel)⟩⟩
theorem k_A_30 : ax_fl "VoteAuctions$Auction" 30 2 6 := ⟨_, rfl, by decide, Or.inl (ax_tw (i := 352) (by decide +kernel) (by decide +kernel))⟩
theorem k_V_208 : ax_fl "VoteAuctions" 208 2 6 := ⟨_, rfl, by decide, Or.inr ⟨"VoteAuctions", ax_tn (i := 353) (by decide +kernel) (by decide +kernel)⟩⟩
theorem k_A_34 : ax_fl "VoteAuctions$Auction" 34 2 7 := ⟨_, rfl, by decide, Or.inl (ax_tw (i := 354) (by decide +kernel) (by decide +kernel))⟩
theorem k_V_215 : ax_fl "VoteAuctions" 215 2 7 := ⟨_, rfl, by decide, Or.inr ⟨"VoteAuctions", ax_tn (i := 355) (by decide +kernel) (by decide +kernel)⟩⟩
theorem k_A_38 : ax_fl "VoteAuctions$Auction" 38 2 8 := ⟨_, rfl, by decide, Or.inl (ax_tw (i := 356) (by decide +kernel) (by decide +kernel))⟩
theorem k_V_198 : ax_fl "VoteAuctions" 198 2 8 := ⟨_, rfl, by decide, Or.inr ⟨"VoteAuctions", ax_tn (i := 357) (by decide +kernel) (by decide +kernel)⟩⟩
theorem k_A_41 : ax_fl "VoteAuctions$Auction" 41 2 9 := ⟨_, rfl, by decide, Or.inl (ax_tw (i := 358) (by decide +kernel) (by decide +kernel))⟩
theorem k_V_201 : ax_fl "VoteAuctions" 201 2 9 := ⟨_, rfl, by decide, Or.inr ⟨"VoteAuctions", ax_tn (i := 359) (by decide +kernel) (by decide +kernel)⟩⟩
theorem k_A_44 : ax_fl "VoteAuctions$Auction" 44 2 10 := ⟨_, rfl, by decide, Or.inl (ax_tw (i := 360) (by decide +kernel) (by decide +kernel))⟩
theorem k_V_226 : ax_fl "VoteAuctions" 226 2 10 := ⟨_, rfl, by decide, Or.inr ⟨"VoteAuctions", ax_tn (i := 361) (by decide +kernel) (by decide +kernel)⟩⟩
theorem k_A_50 : ax_fl "VoteAuctions$Auction" 50 2 11 := ⟨_, rfl, by decide, Or.inl (ax_tw (i := 362) (by decide +kernel) (by decide +kernel))⟩
theorem k_A_47 : ax_fl "VoteAuctions$Auction" 47 2 12 := ⟨_, rfl, by decide, Or.inl (ax_tw (i := 363) (by decide +kernel) (by decide +kernel))⟩
theorem k_V_184 : ax_fl "VoteAuctions" 184 2 12 := ⟨_, rfl, by decide, Or.inr ⟨"VoteAuctions", ax_tn (i := 364) (by decide +kernel) (by decide +kernel)⟩⟩
theorem k_V_191 : ax_fl "VoteAuctions" 191 2 13 := ⟨_, rfl, by decide, Or.inr ⟨"VoteAuctions", ax_tn (i := 365) (by decide +kernel) (by decide +kernel)⟩⟩
theorem k_M_156 : ax_fl "VoteAuctionsModel" 156 3 1 := ⟨_, rfl, by decide, Or.inl (ax_tw (i := 448) (by decide +kernel) (by decide +kernel))⟩
theorem k_M_152 : ax_fl "VoteAuctionsModel" 152 3 2 := ⟨_, rfl, by decide, Or.inl (ax_tw (i := 449) (by decide +kernel) (by decide +kernel))⟩
theorem k_M_136 : ax_fl "VoteAuctionsModel" 136 3 3 := ⟨_, rfl, by decide, Or.inl (ax_tw (i := 450) (by decide +kernel) (by decide +kernel))⟩
theorem k_M_7 : ax_fl "VoteAuctionsModel" 7 3 4 := ⟨_, rfl, by decide, Or.inl (ax_tw (i := 451) (by decide +kernel) (by decide +kernel))⟩
theorem k_M_13 : ax_fl "VoteAuctionsModel" 13 3 5 := ⟨_, rfl, by decide, Or.inl (ax_tw (i := 452) (by decide +kernel) (by decide +kernel))⟩
theorem k_M_17 : ax_fl "VoteAuctionsModel" 17 3 6 := ⟨_, rfl, by decide, Or.inl (ax_tw (i := 453) (by decide +kernel) (by decide +kernel))⟩
theorem k_M_20 : ax_fl "VoteAuctionsModel" 20 3 7 := ⟨_, rfl, by decide, Or.inl (ax_tw (i := 454) (by decide +kernel) (by decide +kernel))⟩
theorem k_M_159 : ax_fl "VoteAuctionsModel" 159 3 8 := ⟨_, rfl, by decide, Or.inl (ax_tw (i := 455) (by decide +kernel) (by decide +kernel))⟩
theorem k_M_23 : ax_fl "VoteAuctionsModel" 23 3 9 := ⟨_, rfl, by decide, Or.inl (ax_tw (i := 456) (by decide +kernel) (by decide +kernel))⟩
theorem k_M_26 : ax_fl "VoteAuctionsModel" 26 3 10 := ⟨_, rfl, by decide, Or.inl (ax_tw (i := 457) (by decide +kernel) (by decide +kernel))⟩
theorem k_M_29 : ax_fl "VoteAuctionsModel" 29 3 11 := ⟨_, rfl, by decide, Or.inl (ax_tw (i := 458) (by decide +kernel) (by decide +kernel))⟩
theorem k_M_32 : ax_fl "VoteAuctionsModel" 32 3 12 := ⟨_, rfl, by decide, Or.inl (ax_tw (i := 459) (by decide +kernel) (by decide +kernel))⟩
theorem k_M_35 : ax_fl "VoteAuctionsModel" 35 3 13 := ⟨_, rfl, by decide, Or.inl (ax_tw (i := 460) (by decide +kernel) (by decide +kernel))⟩
theorem k_M_38 : ax_fl "VoteAuctionsModel" 38 3 14 := ⟨_, rfl, by decide, Or.inl (ax_tw (i := 461) (by decide +kernel) (by decide +kernel))⟩
theorem k_M_42 : ax_fl "VoteAuctionsModel" 42 3 15 := ⟨_, rfl, by decide, Or.inl (ax_tw (i := 462) (by decide +kernel) (by decide +kernel))⟩
theorem k_M_45 : ax_fl "VoteAuctionsModel" 45 3 16 := ⟨_, rfl, by decide, Or.inl (ax_tw (i := 463) (by decide +kernel) (by decide +kernel))⟩
theorem k_M_48 : ax_fl "VoteAuctionsModel" 48 3 17 := ⟨_, rfl, by decide, Or.inl (ax_tw (i := 464) (by decide +kernel) (by decide +kernel))⟩
theorem k_M_51 : ax_fl "VoteAuctionsModel" 51 3 18 := ⟨_, rfl, by decide, Or.inl (ax_tw (i := 465) (by decide +kernel) (by decide +kernel))⟩
theorem k_M_54 : ax_fl "VoteAuctionsModel" 54 3 19 := ⟨_, rfl, by decide, Or.inl (ax_tw (i := 466) (by decide +kernel) (by decide +kernel))⟩
theorem k_M_57 : ax_fl "VoteAuctionsModel" 57 3 20 := ⟨_, rfl, by decide, Or.inl (ax_tw (i := 467) (by decide +kernel) (by decide +kernel))⟩
theorem k_M_60 : ax_fl "VoteAuctionsModel" 60 3 21 := ⟨_, rfl, by decide, Or.inl (ax_tw (i := 468) (by decide +kernel) (by decide +kernel))⟩
theorem k_M_63 : ax_fl "VoteAuctionsModel" 63 3 22 := ⟨_, rfl, by decide, Or.inl (ax_tw (i := 469) (by decide +kernel) (by decide +kernel))⟩
theorem k_M_66 : ax_fl "VoteAuctionsModel" 66 3 23 := ⟨_, rfl, by decide, Or.inl (ax_tw (i := 470) (by decide +kernel) (by decide +kernel))⟩
theorem k_M_69 : ax_fl "VoteAuctionsModel" 69 3 24 := ⟨_, rfl, by decide, Or.inl (ax_tw (i := 471) (by decide +kernel) (by decide +kernel))⟩
theorem k_M_162 : ax_fl "VoteAuctionsModel" 162 3 25 := ⟨_, rfl, by decide, Or.inl (ax_tw (i := 472) (by decide +kernel) (by decide +kernel))⟩
theorem k_M_245 : ax_fl "VoteAuctionsModel" 245 3 26 := ⟨_, rfl, by decide, Or.inl (ax_tw (i := 473) (by decide +kernel) (by decide +kernel))⟩
theorem k_M_72 : ax_fl "VoteAuctionsModel" 72 3 27 := ⟨_, rfl, by decide, Or.inl (ax_tw (i := 474) (by decide +kernel) (by decide +kernel))⟩
theorem k_M_75 : ax_fl "VoteAuctionsModel" 75 3 28 := ⟨_, rfl, by decide, Or.inl (ax_tw (i := 475) (by decide +kernel) (by decide +kernel))⟩
theorem k_M_78 : ax_fl "VoteAuctionsModel" 78 3 29 := ⟨_, rfl, by decide, Or.inl (ax_tw (i := 476) (by decide +kernel) (by decide +kernel))⟩
theorem k_M_81 : ax_fl "VoteAuctionsModel" 81 3 30 := ⟨_, rfl, by decide, Or.inl (ax_tw (i := 477) (by decide +kernel) (by decide +kernel))⟩
theorem k_M_84 : ax_fl "VoteAuctionsModel" 84 3 31 := ⟨_, rfl, by decide, Or.inl (ax_tw (i := 478) (by decide +kernel) (by decide +kernel))⟩
theorem k_M_87 : ax_fl "VoteAuctionsModel" 87 3 32 := ⟨_, rfl, by decide, Or.inl (ax_tw (i := 479) (by decide +kernel) (by decide +kernel))⟩
theorem k_M_90 : ax_fl "VoteAuctionsModel" 90 3 33 := ⟨_, rfl, by decide, Or.inl (ax_tw (i := 480) (by decide +kernel) (by decide +kernel))⟩
theorem k_M_93 : ax_fl "VoteAuctionsModel" 93 3 34 := ⟨_, rfl, by decide, Or.inl (ax_tw (i := 481) (by decide +kernel) (by decide +kernel))⟩
theorem k_M_96 : ax_fl "VoteAuctionsModel" 96 3 35 := ⟨_, rfl, by decide, Or.inl (ax_tw (i := 482) (by decide +kernel) (by decide +kernel))⟩
theorem k_M_99 : ax_fl "VoteAuctionsModel" 99 3 36 := ⟨_, rfl, by decide, Or.inl (ax_tw (i := 483) (by decide +kernel) (by decide +kernel))⟩
theorem k_M_102 : ax_fl "VoteAuctionsModel" 102 3 37 := ⟨_, rfl, by decide, Or.inl (ax_tw (i := 484) (by decide +kernel) (by decide +kernel))⟩
theorem k_M_105 : ax_fl "VoteAuctionsModel" 105 3 38 := ⟨_, rfl, by decide, Or.inl (ax_tw (i := 485) (by decide +kernel) (by decide +kernel))⟩
theorem k_M_108 : ax_fl "VoteAuctionsModel" 108 3 39 := ⟨_, rfl, by decide, Or.inl (ax_tw (i := 486) (by decide +kernel) (by decide +kernel))⟩
theorem k_M_111 : ax_fl "VoteAuctionsModel" 111 3 40 := ⟨_, rfl, by decide, Or.inl (ax_tw (i := 487) (by decide +kernel) (by decide +kernel))⟩
theorem k_M_114 : ax_fl "VoteAuctionsModel" 114 3 41 := ⟨_, rfl, by decide, Or.inl (ax_tw (i := 488) (by decide +kernel) (by decide +kernel))⟩
theorem k_M_117 : ax_fl "VoteAuctionsModel" 117 3 42 := ⟨_, rfl, by decide, Or.inl (ax_tw (i := 489) (by decide +kernel) (by decide +kernel))⟩
theorem k_M_120 : ax_fl "VoteAuctionsModel" 120 3 43 := ⟨_, rfl, by decide, Or.inl (ax_tw (i := 490) (by decide +kernel) (by decide +kernel))⟩
theorem k_M_123 : ax_fl "VoteAuctionsModel" 123 3 44 := ⟨_, rfl, by decide, Or.inl (ax_tw (i := 491) (by decide +kernel) (by decide +kernel))⟩
theorem k_M_126 : ax_fl "VoteAuctionsModel" 126 3 45 := ⟨_, rfl, by decide, Or.inl (ax_tw (i := 492) (by decide +kernel) (by decide +kernel))⟩
theorem k_M_129 : ax_fl "VoteAuctionsModel" 129 3 46 := ⟨_, rfl, by decide, Or.inl (ax_tw (i := 493) (by decide +kernel) (by decide +kernel))⟩
theorem k_M_200 : ax_fl "VoteAuctionsModel" 200 3 47 := ⟨_, rfl, by decide, Or.inl (ax_tw (i := 494) (by decide +kernel) (by decide +kernel))⟩
theorem k_M_197 : ax_fl "VoteAuctionsModel" 197 3 48 := ⟨_, rfl, by decide, Or.inl (ax_tw (i := 495) (by decide +kernel) (by decide +kernel))⟩
theorem k_M_209 : ax_fl "VoteAuctionsModel" 209 3 49 := ⟨_, rfl, by decide, Or.inl (ax_tw (i := 496) (by decide +kernel) (by decide +kernel))⟩
def ax_ff (own : String) (idx ci k : Nat) : Prop := ∃ q : vw_C, ax_cl[ci]? = some q ∧ k < q.2.2 ∧ Cond.fieldLink own idx q.1 (q.2.1 k).2.1 (q.2.1 k).2.2.1 ∈ ax_ws ∧ q.1 = own ∧ (q.2.1 k).2.2.2 = true
theorem kf_V_9 : ax_ff "VoteAuctions" 9 0 3 := ⟨_, rfl, by decide, ax_tw (i := 22) (by decide +kernel) (by decide +kernel), rfl, rfl⟩
theorem kf_V_13 : ax_ff "VoteAuctions" 13 0 4 := ⟨_, rfl, by decide, ax_tw (i := 23) (by decide +kernel) (by decide +kernel), rfl, rfl⟩
theorem kf_V_17 : ax_ff "VoteAuctions" 17 0 5 := ⟨_, rfl, by decide, ax_tw (i := 24) (by decide +kernel) (by decide +kernel), rfl, rfl⟩
theorem kf_V_20 : ax_ff "VoteAuctions" 20 0 6 := ⟨_, rfl, by decide, ax_tw (i := 25) (by decide +kernel) (by decide +kernel), rfl, rfl⟩
theorem kf_V_25 : ax_ff "VoteAuctions" 25 0 8 := ⟨_, rfl, by decide, ax_tw (i := 27) (by decide +kernel) (by decide +kernel), rfl, rfl⟩
theorem kf_V_31 : ax_ff "VoteAuctions" 31 0 10 := ⟨_, rfl, by decide, ax_tw (i := 29) (by decide +kernel) (by decide +kernel), rfl, rfl⟩
theorem kf_V_35 : ax_ff "VoteAuctions" 35 0 11 := ⟨_, rfl, by decide, ax_tw (i := 30) (by decide +kernel) (by decide +kernel), rfl, rfl⟩
theorem kf_V_38 : ax_ff "VoteAuctions" 38 0 12 := ⟨_, rfl, by decide, ax_tw (i := 31) (by decide +kernel) (by decide +kernel), rfl, rfl⟩
theorem kf_V_41 : ax_ff "VoteAuctions" 41 0 13 := ⟨_, rfl, by decide, ax_tw (i := 32) (by decide +kernel) (by decide +kernel), rfl, rfl⟩
theorem kf_Q_9 : ax_ff "VoteAuctions$Question" 9 1 0 := ⟨_, rfl, by decide, ax_tw (i := 175) (by decide +kernel) (by decide +kernel), rfl, rfl⟩
theorem kf_Q_15 : ax_ff "VoteAuctions$Question" 15 1 1 := ⟨_, rfl, by decide, ax_tw (i := 177) (by decide +kernel) (by decide +kernel), rfl, rfl⟩
theorem kf_Q_18 : ax_ff "VoteAuctions$Question" 18 1 2 := ⟨_, rfl, by decide, ax_tw (i := 179) (by decide +kernel) (by decide +kernel), rfl, rfl⟩
theorem kf_Q_21 : ax_ff "VoteAuctions$Question" 21 1 3 := ⟨_, rfl, by decide, ax_tw (i := 181) (by decide +kernel) (by decide +kernel), rfl, rfl⟩
theorem kf_Q_24 : ax_ff "VoteAuctions$Question" 24 1 4 := ⟨_, rfl, by decide, ax_tw (i := 183) (by decide +kernel) (by decide +kernel), rfl, rfl⟩
theorem kf_Q_27 : ax_ff "VoteAuctions$Question" 27 1 5 := ⟨_, rfl, by decide, ax_tw (i := 185) (by decide +kernel) (by decide +kernel), rfl, rfl⟩
theorem kf_Q_31 : ax_ff "VoteAuctions$Question" 31 1 6 := ⟨_, rfl, by decide, ax_tw (i := 187) (by decide +kernel) (by decide +kernel), rfl, rfl⟩
theorem kf_Q_34 : ax_ff "VoteAuctions$Question" 34 1 7 := ⟨_, rfl, by decide, ax_tw (i := 189) (by decide +kernel) (by decide +kernel), rfl, rfl⟩
theorem kf_Q_38 : ax_ff "VoteAuctions$Question" 38 1 8 := ⟨_, rfl, by decide, ax_tw (i := 191) (by decide +kernel) (by decide +kernel), rfl, rfl⟩
theorem kf_Q_42 : ax_ff "VoteAuctions$Question" 42 1 9 := ⟨_, rfl, by decide, ax_tw (i := 193) (by decide +kernel) (by decide +kernel), rfl, rfl⟩
theorem kf_A_9 : ax_ff "VoteAuctions$Auction" 9 2 0 := ⟨_, rfl, by decide, ax_tw (i := 340) (by decide +kernel) (by decide +kernel), rfl, rfl⟩
theorem kf_A_15 : ax_ff "VoteAuctions$Auction" 15 2 1 := ⟨_, rfl, by decide, ax_tw (i := 342) (by decide +kernel) (by decide +kernel), rfl, rfl⟩
theorem kf_A_18 : ax_ff "VoteAuctions$Auction" 18 2 2 := ⟨_, rfl, by decide, ax_tw (i := 344) (by decide +kernel) (by decide +kernel), rfl, rfl⟩
theorem kf_A_21 : ax_ff "VoteAuctions$Auction" 21 2 3 := ⟨_, rfl, by decide, ax_tw (i := 346) (by decide +kernel) (by decide +kernel), rfl, rfl⟩
theorem kf_A_24 : ax_ff "VoteAuctions$Auction" 24 2 4 := ⟨_, rfl, by decide, ax_tw (i := 348) (by decide +kernel) (by decide +kernel), rfl, rfl⟩
theorem kf_A_27 : ax_ff "VoteAuctions$Auction" 27 2 5 := ⟨_, rfl, by decide, ax_tw (i := 350) (by decide +kernel) (by decide +kernel), rfl, rfl⟩
theorem kf_A_30 : ax_ff "VoteAuctions$Auction" 30 2 6 := ⟨_, rfl, by decide, ax_tw (i := 352) (by decide +kernel) (by decide +kernel), rfl, rfl⟩
theorem kf_A_34 : ax_ff "VoteAuctions$Auction" 34 2 7 := ⟨_, rfl, by decide, ax_tw (i := 354) (by decide +kernel) (by decide +kernel), rfl, rfl⟩
theorem kf_A_38 : ax_ff "VoteAuctions$Auction" 38 2 8 := ⟨_, rfl, by decide, ax_tw (i := 356) (by decide +kernel) (by decide +kernel), rfl, rfl⟩
theorem kf_A_41 : ax_ff "VoteAuctions$Auction" 41 2 9 := ⟨_, rfl, by decide, ax_tw (i := 358) (by decide +kernel) (by decide +kernel), rfl, rfl⟩
theorem kf_A_44 : ax_ff "VoteAuctions$Auction" 44 2 10 := ⟨_, rfl, by decide, ax_tw (i := 360) (by decide +kernel) (by decide +kernel), rfl, rfl⟩
theorem kf_M_7 : ax_ff "VoteAuctionsModel" 7 3 4 := ⟨_, rfl, by decide, ax_tw (i := 451) (by decide +kernel) (by decide +kernel), rfl, rfl⟩
theorem kf_M_13 : ax_ff "VoteAuctionsModel" 13 3 5 := ⟨_, rfl, by decide, ax_tw (i := 452) (by decide +kernel) (by decide +kernel), rfl, rfl⟩
theorem kf_M_17 : ax_ff "VoteAuctionsModel" 17 3 6 := ⟨_, rfl, by decide, ax_tw (i := 453) (by decide +kernel) (by decide +kernel), rfl, rfl⟩
theorem kf_M_20 : ax_ff "VoteAuctionsModel" 20 3 7 := ⟨_, rfl, by decide, ax_tw (i := 454) (by decide +kernel) (by decide +kernel), rfl, rfl⟩
theorem kf_M_23 : ax_ff "VoteAuctionsModel" 23 3 9 := ⟨_, rfl, by decide, ax_tw (i := 456) (by decide +kernel) (by decide +kernel), rfl, rfl⟩
theorem kf_M_26 : ax_ff "VoteAuctionsModel" 26 3 10 := ⟨_, rfl, by decide, ax_tw (i := 457) (by decide +kernel) (by decide +kernel), rfl, rfl⟩
theorem kf_M_29 : ax_ff "VoteAuctionsModel" 29 3 11 := ⟨_, rfl, by decide, ax_tw (i := 458) (by decide +kernel) (by decide +kernel), rfl, rfl⟩
theorem kf_M_32 : ax_ff "VoteAuctionsModel" 32 3 12 := ⟨_, rfl, by decide, ax_tw (i := 459) (by decide +kernel) (by decide +kernel), rfl, rfl⟩
theorem kf_M_35 : ax_ff "VoteAuctionsModel" 35 3 13 := ⟨_, rfl, by decide, ax_tw (i := 460) (by decide +kernel) (by decide +kernel), rfl, rfl⟩
theorem kf_M_38 : ax_ff "VoteAuctionsModel" 38 3 14 := ⟨_, rfl, by decide, ax_tw (i := 461) (by decide +kernel) (by decide +kernel), rfl, rfl⟩
theorem kf_M_42 : ax_ff "VoteAuctionsModel" 42 3 15 := ⟨_, rfl, by decide, ax_tw (i := 462) (by decide +kernel) (by decide +kernel), rfl, rfl⟩
theorem kf_M_45 : ax_ff "VoteAuctionsModel" 45 3 16 := ⟨_, rfl, by decide, ax_tw (i := 463) (by decide +kernel) (by decide +kernel), rfl, rfl⟩
theorem kf_M_48 : ax_ff "VoteAuctionsModel" 48 3 17 := ⟨_, rfl, by decide, ax_tw (i := 464) (by decide +kernel) (by decide +kernel), rfl, rfl⟩
theorem kf_M_51 : ax_ff "VoteAuctionsModel" 51 3 18 := ⟨_, rfl, by decide, ax_tw (i := 465) (by decide +kernel) (by decide +kernel), rfl, rfl⟩
theorem kf_M_54 : ax_ff "VoteAuctionsModel" 54 3 19 := ⟨_, rfl, by decide, ax_tw (i := 466) (by decide +kernel) (by decide +kernel), rfl, rfl⟩
theorem kf_M_57 : ax_ff "VoteAuctionsModel" 57 3 20 := ⟨_, rfl, by decide, ax_tw (i := 467) (by decide +kernel) (by decide +kernel), rfl, rfl⟩
theorem kf_M_60 : ax_ff "VoteAuctionsModel" 60 3 21 := ⟨_, rfl, by decide, ax_tw (i := 468) (by decide +kernel) (by decide +kernel), rfl, rfl⟩
theorem kf_M_63 : ax_ff "VoteAuctionsModel" 63 3 22 := ⟨_, rfl, by decide, ax_tw (i := 469) (by decide +kernel) (by decide +kernel), rfl, rfl⟩
theorem kf_M_66 : ax_ff "VoteAuctionsModel" 66 3 23 := ⟨_, rfl, by decide, ax_tw (i := 470) (by decide +kernel) (by decide +kernel), rfl, rfl⟩
theorem kf_M_69 : ax_ff "VoteAuctionsModel" 69 3 24 := ⟨_, rfl, by decide, ax_tw (i := 471) (by decide +kernel) (by decide +kernel), rfl, rfl⟩
theorem kf_M_72 : ax_ff "VoteAuctionsModel" 72 3 27 := ⟨_, rfl, by decide, ax_tw (i := 474) (by decide +kernel) (by decide +kernel), rfl, rfl⟩
theorem kf_M_75 : ax_ff "VoteAuctionsModel" 75 3 28 := ⟨_, rfl, by decide, ax_tw (i := 475) (by decide +kernel) (by decide +kernel), rfl, rfl⟩
theorem kf_M_78 : ax_ff "VoteAuctionsModel" 78 3 29 := ⟨_, rfl, by decide, ax_tw (i := 476) (by decide +kernel) (by decide +kernel), rfl, rfl⟩
theorem kf_M_81 : ax_ff "VoteAuctionsModel" 81 3 30 := ⟨_, rfl, by decide, ax_tw (i := 477) (by decide +kernel) (by decide +kernel), rfl, rfl⟩
theorem kf_M_84 : ax_ff "VoteAuctionsModel" 84 3 31 := ⟨_, rfl, by decide, ax_tw (i := 478) (by decide +kernel) (by decide +kernel), rfl, rfl⟩
theorem kf_M_87 : ax_ff "VoteAuctionsModel" 87 3 32 := ⟨_, rfl, by decide, ax_tw (i := 479) (by decide +kernel) (by decide +kernel), rfl, rfl⟩
theorem kf_M_90 : ax_ff "VoteAuctionsModel" 90 3 33 := ⟨_, rfl, by decide, ax_tw (i := 480) (by decide +kernel) (by decide +kernel), rfl, rfl⟩
theorem kf_M_93 : ax_ff "VoteAuctionsModel" 93 3 34 := ⟨_, rfl, by decide, ax_tw (i := 481) (by decide +kernel) (by decide +kernel), rfl, rfl⟩
theorem kf_M_96 : ax_ff "VoteAuctionsModel" 96 3 35 := ⟨_, rfl, by decide, ax_tw (i := 482) (by decide +kernel) (by decide +kernel), rfl, rfl⟩
theorem kf_M_99 : ax_ff "VoteAuctionsModel" 99 3 36 := ⟨_, rfl, by decide, ax_tw (i := 483) (by decide +kernel) (by decide +kernel), rfl, rfl⟩
theorem kf_M_102 : ax_ff "VoteAuctionsModel" 102 3 37 := ⟨_, rfl, by decide, ax_tw (i := 484) (by decide +kernel) (by decide +kernel), rfl, rfl⟩
theorem kf_M_105 : ax_ff "VoteAuctionsModel" 105 3 38 := ⟨_, rfl, by decide, ax_tw (i := 485) (by decide +kernel) (by decide +kernel), rfl, rfl⟩
theorem kf_M_108 : ax_ff "VoteAuctionsModel" 108 3 39 := ⟨_, rfl, by decide, ax_tw (i := 486) (by decide +kernel) (by decide +kernel), rfl, rfl⟩
theorem kf_M_111 : ax_ff "VoteAuctionsModel" 111 3 40 := ⟨_, rfl, by decide, ax_tw (i := 487) (by decide +kernel) (by decide +kernel), rfl, rfl⟩
theorem kf_M_114 : ax_ff "VoteAuctionsModel" 114 3 41 := ⟨_, rfl, by decide, ax_tw (i := 488) (by decide +kernel) (by decide +kernel), rfl, rfl⟩
theorem kf_M_117 : ax_ff "VoteAuctionsModel" 117 3 42 := ⟨_, rfl, by decide, ax_tw (i := 489) (by decide +kernel) (by decide +kernel), rfl, rfl⟩
theorem kf_M_120 : ax_ff "VoteAuctionsModel" 120 3 43 := ⟨_, rfl, by decide, ax_tw (i := 490) (by decide +kernel) (by decide +kernel), rfl, rfl⟩
theorem kf_M_123 : ax_ff "VoteAuctionsModel" 123 3 44 := ⟨_, rfl, by decide, ax_tw (i := 491) (by decide +kernel) (by decide +kernel), rfl, rfl⟩
theorem kf_M_126 : ax_ff "VoteAuctionsModel" 126 3 45 := ⟨_, rfl, by decide, ax_tw (i := 492) (by decide +kernel) (by decide +kernel), rfl, rfl⟩
theorem kf_M_129 : ax_ff "VoteAuctionsModel" 129 3 46 := ⟨_, rfl, by decide, ax_tw (i := 493) (by decide +kernel) (by decide +kernel), rfl, rfl⟩
def y_V_init : MethodName := ⟨"VoteAuctions", "<init>", "()V"⟩
abbrev b_V_init : ByteArray := prog_1_method_1_code
set_option maxRecDepth 100000 in
theorem m_V_init : ax_mi y_V_init b_V_init 2 0 := ⟨ax_tc1 (i := 11) rfl (by decide +kernel), ax_tw (i := 10) (by decide +kernel) (by decide +kernel), rfl, ax_tw (i := 1) (by decide +kernel) (by decide +kernel), ⟨by decide +kernel, by decide +kernel, by decide +kernel⟩⟩
def y_V_account : MethodName := ⟨"VoteAuctions", "account", "(II)I"⟩
abbrev b_V_account : ByteArray := prog_1_method_2_code
set_option maxRecDepth 100000 in
theorem m_V_account : ax_mv y_V_account b_V_account 4 (some (.int)) 2 0 := ⟨ax_tc1 (i := 70) rfl (by decide +kernel), ax_tw (i := 68) (by decide +kernel) (by decide +kernel), ax_tw (i := 69) (by decide +kernel) (by decide +kernel), ax_tw (i := 1) (by decide +kernel) (by decide +kernel), ⟨by decide +kernel, by decide +kernel, by decide +kernel⟩, _, rfl, rfl⟩
def y_V_isOutside : MethodName := ⟨"VoteAuctions", "isOutside", "(III)Z"⟩
abbrev b_V_isOutside : ByteArray := prog_1_method_27_code
set_option maxRecDepth 100000 in
theorem m_V_isOutside : ax_ms y_V_isOutside b_V_isOutside 3 (some (.boolean)) 3 := ⟨ax_tc1 (i := 73) rfl (by decide +kernel), ax_tw (i := 72) (by decide +kernel) (by decide +kernel), ax_tw (i := 1) (by decide +kernel) (by decide +kernel), ⟨by decide +kernel, by decide +kernel, by decide +kernel⟩⟩
def y_V_weigh : MethodName := ⟨"VoteAuctions", "weigh", "(II)I"⟩
abbrev b_V_weigh : ByteArray := prog_1_method_3_code
set_option maxRecDepth 100000 in
theorem m_V_weigh : ax_mv y_V_weigh b_V_weigh 4 (some (.int)) 2 0 := ⟨ax_tc1 (i := 78) rfl (by decide +kernel), ax_tw (i := 76) (by decide +kernel) (by decide +kernel), ax_tw (i := 77) (by decide +kernel) (by decide +kernel), ax_tw (i := 1) (by decide +kernel) (by decide +kernel), ⟨by decide +kernel, by decide +kernel, by decide +kernel⟩, _, rfl, rfl⟩
def y_V_isNoAccount : MethodName := ⟨"VoteAuctions", "isNoAccount", "(I)Z"⟩
abbrev b_V_isNoAccount : ByteArray := prog_1_method_28_code
set_option maxRecDepth 100000 in
theorem m_V_isNoAccount : ax_mv y_V_isNoAccount b_V_isNoAccount 2 (some (.boolean)) 1 0 := ⟨ax_tc1 (i := 82) rfl (by decide +kernel), ax_tw (i := 81) (by decide +kernel) (by decide +kernel), ax_ts0 (i := 0) (by decide +kernel) (by decide +kernel), ax_tw (i := 1) (by decide +kernel) (by decide +kernel), ⟨by decide +kernel, by decide +kernel, by decide +kernel⟩, _, rfl, rfl⟩
def y_V_fund : MethodName := ⟨"VoteAuctions", "fund", "(II)I"⟩
abbrev b_V_fund : ByteArray := prog_1_method_4_code
set_option maxRecDepth 100000 in
theorem m_V_fund : ax_mv y_V_fund b_V_fund 3 (some (.int)) 2 0 := ⟨ax_tc1 (i := 86) rfl (by decide +kernel), ax_tw (i := 84) (by decide +kernel) (by decide +kernel), ax_tw (i := 85) (by decide +kernel) (by decide +kernel), ax_tw (i := 1) (by decide +kernel) (by decide +kernel), ⟨by decide +kernel, by decide +kernel, by decide +kernel⟩, _, rfl, rfl⟩
def y_V_speak : MethodName := ⟨"VoteAuctions", "speak", "(II)I"⟩
abbrev b_V_speak : ByteArray := prog_1_method_5_code
set_option maxRecDepth 100000 in
theorem m_V_speak : ax_mv y_V_speak b_V_speak 4 (some (.int)) 2 0 := ⟨ax_tc1 (i := 91) rfl (by decide +kernel), ax_tw (i := 89) (by decide +kernel) (by decide +kernel), ax_tw (i := 90) (by decide +kernel) (by decide +kernel), ax_tw (i := 1) (by decide +kernel) (by decide +kernel), ⟨by decide +kernel, by decide +kernel, by decide +kernel⟩, _, rfl, rfl⟩
def y_V_holds : MethodName := ⟨"VoteAuctions", "holds", "(II)J"⟩
abbrev b_V_holds : ByteArray := prog_1_method_6_code
set_option maxRecDepth 100000 in
theorem m_V_holds : ax_mv y_V_holds b_V_holds 3 (some (.long)) 2 0 := ⟨ax_tc1 (i := 95) rfl (by decide +kernel), ax_tw (i := 93) (by decide +kernel) (by decide +kernel), ax_tw (i := 94) (by decide +kernel) (by decide +kernel), ax_tw (i := 1) (by decide +kernel) (by decide +kernel), ⟨by decide +kernel, by decide +kernel, by decide +kernel⟩, _, rfl, rfl⟩
def y_V_pot : MethodName := ⟨"VoteAuctions", "pot", "()J"⟩
abbrev b_V_pot : ByteArray := prog_1_method_7_code
set_option maxRecDepth 100000 in
theorem m_V_pot : ax_mv y_V_pot b_V_pot 1 (some (.long)) 0 0 := ⟨ax_tc1 (i := 101) rfl (by decide +kernel), ax_tw (i := 99) (by decide +kernel) (by decide +kernel), ax_tw (i := 100) (by decide +kernel) (by decide +kernel), ax_tw (i := 1) (by decide +kernel) (by decide +kernel), ⟨by decide +kernel, by decide +kernel, by decide +kernel⟩, _, rfl, rfl⟩
def y_V_tick : MethodName := ⟨"VoteAuctions", "tick", "(I)I"⟩
abbrev b_V_tick : ByteArray := prog_1_method_8_code
set_option maxRecDepth 100000 in
theorem m_V_tick : ax_mv y_V_tick b_V_tick 3 (some (.int)) 1 0 := ⟨ax_tc1 (i := 105) rfl (by decide +kernel), ax_tw (i := 103) (by decide +kernel) (by decide +kernel), ax_tw (i := 104) (by decide +kernel) (by decide +kernel), ax_tw (i := 1) (by decide +kernel) (by decide +kernel), ⟨by decide +kernel, by decide +kernel, by decide +kernel⟩, _, rfl, rfl⟩
def y_V_endQuestions : MethodName := ⟨"VoteAuctions", "endQuestions", "()V"⟩
abbrev b_V_endQuestions : ByteArray := prog_1_method_49_code
set_option maxRecDepth 100000 in
theorem m_V_endQuestions : ax_mv y_V_endQuestions b_V_endQuestions 3 none 0 0 := ⟨ax_tc1 (i := 109) rfl (by decide +kernel), ax_tw (i := 108) (by decide +kernel) (by decide +kernel), ax_ts0 (i := 1) (by decide +kernel) (by decide +kernel), ax_tw (i := 1) (by decide +kernel) (by decide +kernel), ⟨by decide +kernel, by decide +kernel, by decide +kernel⟩, _, rfl, rfl⟩
def y_V_endAuctions : MethodName := ⟨"VoteAuctions", "endAuctions", "()V"⟩
abbrev b_V_endAuctions : ByteArray := prog_1_method_53_code
set_option maxRecDepth 100000 in
theorem m_V_endAuctions : ax_mv y_V_endAuctions b_V_endAuctions 3 none 0 0 := ⟨ax_tc1 (i := 116) rfl (by decide +kernel), ax_tw (i := 115) (by decide +kernel) (by decide +kernel), ax_ts0 (i := 2) (by decide +kernel) (by decide +kernel), ax_tw (i := 1) (by decide +kernel) (by decide +kernel), ⟨by decide +kernel, by decide +kernel, by decide +kernel⟩, _, rfl, rfl⟩
def y_V_endAuction : MethodName := ⟨"VoteAuctions", "endAuction", "(LVoteAuctions$Auction;)V"⟩
abbrev b_V_endAuction : ByteArray := prog_1_method_54_code
set_option maxRecDepth 100000 in
theorem m_V_endAuction : ax_mv y_V_endAuction b_V_endAuction 3 none 1 0 := ⟨ax_tc1 (i := 120) rfl (by decide +kernel), ax_tw (i := 119) (by decide +kernel) (by decide +kernel), ax_ts0 (i := 3) (by decide +kernel) (by decide +kernel), ax_tw (i := 1) (by decide +kernel) (by decide +kernel), ⟨by decide +kernel, by decide +kernel, by decide +kernel⟩, _, rfl, rfl⟩
def y_A_isSealed : MethodName := ⟨"VoteAuctions$Auction", "isSealed", "()Z"⟩
abbrev b_A_isSealed : ByteArray := prog_2_method_2_code
set_option maxRecDepth 100000 in
theorem m_A_isSealed : ax_mv y_A_isSealed b_A_isSealed 1 (some (.boolean)) 0 2 := ⟨ax_tc1 (i := 125) rfl (by decide +kernel), ax_tw (i := 123) (by decide +kernel) (by decide +kernel), ax_ts0 (i := 4) (by decide +kernel) (by decide +kernel), ax_tw (i := 6) (by decide +kernel) (by decide +kernel), ⟨by decide +kernel, by decide +kernel, by decide +kernel⟩, _, rfl, rfl⟩
def y_V_payUnopened : MethodName := ⟨"VoteAuctions", "payUnopened", "(LVoteAuctions$Auction;)V"⟩
abbrev b_V_payUnopened : ByteArray := prog_1_method_55_code
set_option maxRecDepth 100000 in
theorem m_V_payUnopened : ax_mv y_V_payUnopened b_V_payUnopened 3 none 1 0 := ⟨ax_tc1 (i := 129) rfl (by decide +kernel), ax_tw (i := 128) (by decide +kernel) (by decide +kernel), ax_ts0 (i := 5) (by decide +kernel) (by decide +kernel), ax_tw (i := 1) (by decide +kernel) (by decide +kernel), ⟨by decide +kernel, by decide +kernel, by decide +kernel⟩, _, rfl, rfl⟩
def y_V_payAside : MethodName := ⟨"VoteAuctions", "payAside", "(IJ)V"⟩
abbrev b_V_payAside : ByteArray := prog_1_method_33_code
set_option maxRecDepth 100000 in
theorem m_V_payAside : ax_mv y_V_payAside b_V_payAside 4 none 2 0 := ⟨ax_tc1 (i := 133) rfl (by decide +kernel), ax_tw (i := 132) (by decide +kernel) (by decide +kernel), ax_ts0 (i := 6) (by decide +kernel) (by decide +kernel), ax_tw (i := 1) (by decide +kernel) (by decide +kernel), ⟨by decide +kernel, by decide +kernel, by decide +kernel⟩, _, rfl, rfl⟩
def y_V_shareUnits : MethodName := ⟨"VoteAuctions", "shareUnits", "(LVoteAuctions$Auction;)V"⟩
abbrev b_V_shareUnits : ByteArray := prog_1_method_56_code
set_option maxRecDepth 100000 in
theorem m_V_shareUnits : ax_ms y_V_shareUnits b_V_shareUnits 5 none 1 := ⟨ax_tc1 (i := 136) rfl (by decide +kernel), ax_tw (i := 135) (by decide +kernel) (by decide +kernel), ax_tw (i := 1) (by decide +kernel) (by decide +kernel), ⟨by decide +kernel, by decide +kernel, by decide +kernel⟩⟩
def y_A_bestWithout : MethodName := ⟨"VoteAuctions$Auction", "bestWithout", "()I"⟩
abbrev b_A_bestWithout : ByteArray := prog_2_method_5_code
set_option maxRecDepth 100000 in
theorem m_A_bestWithout : ax_mv y_A_bestWithout b_A_bestWithout 3 (some (.int)) 0 2 := ⟨ax_tc1 (i := 140) rfl (by decide +kernel), ax_tw (i := 139) (by decide +kernel) (by decide +kernel), ax_ts0 (i := 7) (by decide +kernel) (by decide +kernel), ax_tw (i := 6) (by decide +kernel) (by decide +kernel), ⟨by decide +kernel, by decide +kernel, by decide +kernel⟩, _, rfl, rfl⟩
def y_A_isAhead : MethodName := ⟨"VoteAuctions$Auction", "isAhead", "(II)Z"⟩
abbrev b_A_isAhead : ByteArray := prog_2_method_6_code
set_option maxRecDepth 100000 in
theorem m_A_isAhead : ax_mv y_A_isAhead b_A_isAhead 3 (some (.boolean)) 2 2 := ⟨ax_tc1 (i := 144) rfl (by decide +kernel), ax_tw (i := 143) (by decide +kernel) (by decide +kernel), ax_ts0 (i := 8) (by decide +kernel) (by decide +kernel), ax_tw (i := 6) (by decide +kernel) (by decide +kernel), ⟨by decide +kernel, by decide +kernel, by decide +kernel⟩, _, rfl, rfl⟩
def y_V_settleBids : MethodName := ⟨"VoteAuctions", "settleBids", "(LVoteAuctions$Auction;)V"⟩
abbrev b_V_settleBids : ByteArray := prog_1_method_57_code
set_option maxRecDepth 100000 in
theorem m_V_settleBids : ax_mv y_V_settleBids b_V_settleBids 7 none 1 0 := ⟨ax_tc1 (i := 151) rfl (by decide +kernel), ax_tw (i := 150) (by decide +kernel) (by decide +kernel), ax_ts0 (i := 9) (by decide +kernel) (by decide +kernel), ax_tw (i := 1) (by decide +kernel) (by decide +kernel), ⟨by decide +kernel, by decide +kernel, by decide +kernel⟩, _, rfl, rfl⟩
def y_A_costOf : MethodName := ⟨"VoteAuctions$Auction", "costOf", "(I)J"⟩
abbrev b_A_costOf : ByteArray := prog_2_method_4_code
set_option maxRecDepth 100000 in
theorem m_A_costOf : ax_mv y_A_costOf b_A_costOf 2 (some (.long)) 1 2 := ⟨ax_tc1 (i := 155) rfl (by decide +kernel), ax_tw (i := 154) (by decide +kernel) (by decide +kernel), ax_ts0 (i := 10) (by decide +kernel) (by decide +kernel), ax_tw (i := 6) (by decide +kernel) (by decide +kernel), ⟨by decide +kernel, by decide +kernel, by decide +kernel⟩, _, rfl, rfl⟩
def y_V_giveBack : MethodName := ⟨"VoteAuctions", "giveBack", "(IJ)V"⟩
abbrev b_V_giveBack : ByteArray := prog_1_method_32_code
set_option maxRecDepth 100000 in
theorem m_V_giveBack : ax_mv y_V_giveBack b_V_giveBack 4 none 2 0 := ⟨ax_tc1 (i := 159) rfl (by decide +kernel), ax_tw (i := 158) (by decide +kernel) (by decide +kernel), ax_ts0 (i := 11) (by decide +kernel) (by decide +kernel), ax_tw (i := 1) (by decide +kernel) (by decide +kernel), ⟨by decide +kernel, by decide +kernel, by decide +kernel⟩, _, rfl, rfl⟩
def y_V_mark : MethodName := ⟨"VoteAuctions", "mark", "(III)J"⟩
abbrev b_V_mark : ByteArray := prog_1_method_9_code
set_option maxRecDepth 100000 in
theorem m_V_mark : ax_mv y_V_mark b_V_mark 6 (some (.long)) 3 0 := ⟨ax_tc1 (i := 163) rfl (by decide +kernel), ax_tw (i := 161) (by decide +kernel) (by decide +kernel), ax_tw (i := 162) (by decide +kernel) (by decide +kernel), ax_tw (i := 1) (by decide +kernel) (by decide +kernel), ⟨by decide +kernel, by decide +kernel, by decide +kernel⟩, _, rfl, rfl⟩
def y_V_question : MethodName := ⟨"VoteAuctions", "question", "(IIIII)I"⟩
abbrev b_V_question : ByteArray := prog_1_method_10_code
set_option maxRecDepth 100000 in
theorem m_V_question : ax_mv y_V_question b_V_question 8 (some (.int)) 5 0 := ⟨ax_tc1 (i := 169) rfl (by decide +kernel), ax_tw (i := 167) (by decide +kernel) (by decide +kernel), ax_tw (i := 168) (by decide +kernel) (by decide +kernel), ax_tw (i := 1) (by decide +kernel) (by decide +kernel), ⟨by decide +kernel, by decide +kernel, by decide +kernel⟩, _, rfl, rfl⟩
def y_Q_init : MethodName := ⟨"VoteAuctions$Question", "<init>", "(IIIII)V"⟩
abbrev b_Q_init : ByteArray := prog_3_method_1_code
set_option maxRecDepth 100000 in
theorem m_Q_init : ax_mi y_Q_init b_Q_init 7 5 := ⟨ax_tc1 (i := 173) rfl (by decide +kernel), ax_tw (i := 172) (by decide +kernel) (by decide +kernel), rfl, ax_tw (i := 5) (by decide +kernel) (by decide +kernel), ⟨by decide +kernel, by decide +kernel, by decide +kernel⟩⟩
def y_V_call : MethodName := ⟨"VoteAuctions", "call", "(IIII)I"⟩
abbrev b_V_call : ByteArray := prog_1_method_11_code
set_option maxRecDepth 100000 in
theorem m_V_call : ax_mv y_V_call b_V_call 6 (some (.int)) 4 0 := ⟨ax_tc1 (i := 233) rfl (by decide +kernel), ax_tw (i := 231) (by decide +kernel) (by decide +kernel), ax_tw (i := 232) (by decide +kernel) (by decide +kernel), ax_tw (i := 1) (by decide +kernel) (by decide +kernel), ⟨by decide +kernel, by decide +kernel, by decide +kernel⟩, _, rfl, rfl⟩
def y_V_questionAt : MethodName := ⟨"VoteAuctions", "questionAt", "(I)LVoteAuctions$Question;"⟩
abbrev b_V_questionAt : ByteArray := prog_1_method_29_code
set_option maxRecDepth 100000 in
theorem m_V_questionAt : ax_mv y_V_questionAt b_V_questionAt 2 (some (.object "VoteAuctions$Question")) 1 0 := ⟨ax_tc1 (i := 237) rfl (by decide +kernel), ax_tw (i := 236) (by decide +kernel) (by decide +kernel), ax_ts0 (i := 12) (by decide +kernel) (by decide +kernel), ax_tw (i := 1) (by decide +kernel) (by decide +kernel), ⟨by decide +kernel, by decide +kernel, by decide +kernel⟩, _, rfl, rfl⟩
def y_V_vote : MethodName := ⟨"VoteAuctions", "vote", "(III)I"⟩
abbrev b_V_vote : ByteArray := prog_1_method_12_code
set_option maxRecDepth 100000 in
theorem m_V_vote : ax_mv y_V_vote b_V_vote 5 (some (.int)) 3 0 := ⟨ax_tc2 (i := 1) rfl (by decide +kernel), ax_tw (i := 239) (by decide +kernel) (by decide +kernel), ax_tw (i := 240) (by decide +kernel) (by decide +kernel), ax_tw (i := 1) (by decide +kernel) (by decide +kernel), ⟨by decide +kernel, by decide +kernel, by decide +kernel⟩, _, rfl, rfl⟩
def y_V_isVote : MethodName := ⟨"VoteAuctions", "isVote", "(LVoteAuctions$Question;II)Z"⟩
abbrev b_V_isVote : ByteArray := prog_1_method_34_code
set_option maxRecDepth 100000 in
theorem m_V_isVote : ax_ms y_V_isVote b_V_isVote 3 (some (.boolean)) 3 := ⟨ax_tc2 (i := 4) rfl (by decide +kernel), ax_tw (i := 243) (by decide +kernel) (by decide +kernel), ax_tw (i := 1) (by decide +kernel) (by decide +kernel), ⟨by decide +kernel, by decide +kernel, by decide +kernel⟩⟩
def y_V_isRanks : MethodName := ⟨"VoteAuctions", "isRanks", "(II)Z"⟩
abbrev b_V_isRanks : ByteArray := prog_1_method_35_code
set_option maxRecDepth 100000 in
theorem m_V_isRanks : ax_ms y_V_isRanks b_V_isRanks 6 (some (.boolean)) 2 := ⟨ax_tc2 (i := 7) rfl (by decide +kernel), ax_tw (i := 246) (by decide +kernel) (by decide +kernel), ax_tw (i := 1) (by decide +kernel) (by decide +kernel), ⟨by decide +kernel, by decide +kernel, by decide +kernel⟩⟩
def y_V_hasChoice : MethodName := ⟨"VoteAuctions", "hasChoice", "(II)Z"⟩
abbrev b_V_hasChoice : ByteArray := prog_1_method_38_code
set_option maxRecDepth 100000 in
theorem m_V_hasChoice : ax_ms y_V_hasChoice b_V_hasChoice 2 (some (.boolean)) 2 := ⟨ax_tc2 (i := 10) rfl (by decide +kernel), ax_tw (i := 249) (by decide +kernel) (by decide +kernel), ax_tw (i := 1) (by decide +kernel) (by decide +kernel), ⟨by decide +kernel, by decide +kernel, by decide +kernel⟩⟩
def y_V_isStrengths : MethodName := ⟨"VoteAuctions", "isStrengths", "(III)Z"⟩
abbrev b_V_isStrengths : ByteArray := prog_1_method_36_code
set_option maxRecDepth 100000 in
theorem m_V_isStrengths : ax_ms y_V_isStrengths b_V_isStrengths 6 (some (.boolean)) 3 := ⟨ax_tc2 (i := 13) rfl (by decide +kernel), ax_tw (i := 252) (by decide +kernel) (by decide +kernel), ax_tw (i := 1) (by decide +kernel) (by decide +kernel), ⟨by decide +kernel, by decide +kernel, by decide +kernel⟩⟩
def y_V_strengthOf : MethodName := ⟨"VoteAuctions", "strengthOf", "(II)I"⟩
abbrev b_V_strengthOf : ByteArray := prog_1_method_37_code
set_option maxRecDepth 100000 in
theorem m_V_strengthOf : ax_ms y_V_strengthOf b_V_strengthOf 2 (some (.int)) 2 := ⟨ax_tc2 (i := 16) rfl (by decide +kernel), ax_tw (i := 255) (by decide +kernel) (by decide +kernel), ax_tw (i := 1) (by decide +kernel) (by decide +kernel), ⟨by decide +kernel, by decide +kernel, by decide +kernel⟩⟩
def y_Q_isHidden : MethodName := ⟨"VoteAuctions$Question", "isHidden", "()Z"⟩
abbrev b_Q_isHidden : ByteArray := prog_3_method_2_code
set_option maxRecDepth 100000 in
theorem m_Q_isHidden : ax_mv y_Q_isHidden b_Q_isHidden 1 (some (.boolean)) 0 1 := ⟨ax_tc2 (i := 20) rfl (by decide +kernel), ax_tw (i := 259) (by decide +kernel) (by decide +kernel), ax_ts0 (i := 13) (by decide +kernel) (by decide +kernel), ax_tw (i := 5) (by decide +kernel) (by decide +kernel), ⟨by decide +kernel, by decide +kernel, by decide +kernel⟩, _, rfl, rfl⟩
def y_V_hide : MethodName := ⟨"VoteAuctions", "hide", "(IIJ)I"⟩
abbrev b_V_hide : ByteArray := prog_1_method_13_code
set_option maxRecDepth 100000 in
theorem m_V_hide : ax_mv y_V_hide b_V_hide 6 (some (.int)) 3 0 := ⟨ax_tc2 (i := 24) rfl (by decide +kernel), ax_tw (i := 262) (by decide +kernel) (by decide +kernel), ax_tw (i := 263) (by decide +kernel) (by decide +kernel), ax_tw (i := 1) (by decide +kernel) (by decide +kernel), ⟨by decide +kernel, by decide +kernel, by decide +kernel⟩, _, rfl, rfl⟩
def y_V_reveal : MethodName := ⟨"VoteAuctions", "reveal", "(IIII)I"⟩
abbrev b_V_reveal : ByteArray := prog_1_method_14_code
set_option maxRecDepth 100000 in
theorem m_V_reveal : ax_mv y_V_reveal b_V_reveal 6 (some (.int)) 4 0 := ⟨ax_tc2 (i := 28) rfl (by decide +kernel), ax_tw (i := 266) (by decide +kernel) (by decide +kernel), ax_tw (i := 267) (by decide +kernel) (by decide +kernel), ax_tw (i := 1) (by decide +kernel) (by decide +kernel), ⟨by decide +kernel, by decide +kernel, by decide +kernel⟩, _, rfl, rfl⟩
def y_V_count : MethodName := ⟨"VoteAuctions", "count", "(II)I"⟩
abbrev b_V_count : ByteArray := prog_1_method_15_code
set_option maxRecDepth 100000 in
theorem m_V_count : ax_mv y_V_count b_V_count 4 (some (.int)) 2 0 := ⟨ax_tc2 (i := 33) rfl (by decide +kernel), ax_tw (i := 271) (by decide +kernel) (by decide +kernel), ax_tw (i := 272) (by decide +kernel) (by decide +kernel), ax_tw (i := 1) (by decide +kernel) (by decide +kernel), ⟨by decide +kernel, by decide +kernel, by decide +kernel⟩, _, rfl, rfl⟩
def y_V_countVotes : MethodName := ⟨"VoteAuctions", "countVotes", "(LVoteAuctions$Question;)V"⟩
abbrev b_V_countVotes : ByteArray := prog_1_method_40_code
set_option maxRecDepth 100000 in
theorem m_V_countVotes : ax_mv y_V_countVotes b_V_countVotes 6 none 1 0 := ⟨ax_tc2 (i := 37) rfl (by decide +kernel), ax_tw (i := 276) (by decide +kernel) (by decide +kernel), ax_ts0 (i := 14) (by decide +kernel) (by decide +kernel), ax_tw (i := 1) (by decide +kernel) (by decide +kernel), ⟨by decide +kernel, by decide +kernel, by decide +kernel⟩, _, rfl, rfl⟩
def y_V_findVoices : MethodName := ⟨"VoteAuctions", "findVoices", "(LVoteAuctions$Question;)V"⟩
abbrev b_V_findVoices : ByteArray := prog_1_method_41_code
set_option maxRecDepth 100000 in
theorem m_V_findVoices : ax_mv y_V_findVoices b_V_findVoices 3 none 1 0 := ⟨ax_tc2 (i := 41) rfl (by decide +kernel), ax_tw (i := 280) (by decide +kernel) (by decide +kernel), ax_ts0 (i := 15) (by decide +kernel) (by decide +kernel), ax_tw (i := 1) (by decide +kernel) (by decide +kernel), ⟨by decide +kernel, by decide +kernel, by decide +kernel⟩, _, rfl, rfl⟩
def y_V_voiceOf : MethodName := ⟨"VoteAuctions", "voiceOf", "(LVoteAuctions$Question;I)I"⟩
abbrev b_V_voiceOf : ByteArray := prog_1_method_42_code
set_option maxRecDepth 100000 in
theorem m_V_voiceOf : ax_mv y_V_voiceOf b_V_voiceOf 5 (some (.int)) 2 0 := ⟨ax_tc2 (i := 45) rfl (by decide +kernel), ax_tw (i := 284) (by decide +kernel) (by decide +kernel), ax_ts0 (i := 16) (by decide +kernel) (by decide +kernel), ax_tw (i := 1) (by decide +kernel) (by decide +kernel), ⟨by decide +kernel, by decide +kernel, by decide +kernel⟩, _, rfl, rfl⟩
def y_V_countRound : MethodName := ⟨"VoteAuctions", "countRound", "(LVoteAuctions$Question;I)V"⟩
abbrev b_V_countRound : ByteArray := prog_1_method_43_code
set_option maxRecDepth 100000 in
theorem m_V_countRound : ax_mv y_V_countRound b_V_countRound 7 none 2 0 := ⟨ax_tc2 (i := 49) rfl (by decide +kernel), ax_tw (i := 288) (by decide +kernel) (by decide +kernel), ax_ts0 (i := 17) (by decide +kernel) (by decide +kernel), ax_tw (i := 1) (by decide +kernel) (by decide +kernel), ⟨by decide +kernel, by decide +kernel, by decide +kernel⟩, _, rfl, rfl⟩
def y_V_shareOf : MethodName := ⟨"VoteAuctions", "shareOf", "(LVoteAuctions$Question;IIII)I"⟩
abbrev b_V_shareOf : ByteArray := prog_1_method_44_code
set_option maxRecDepth 100000 in
theorem m_V_shareOf : ax_ms y_V_shareOf b_V_shareOf 5 (some (.int)) 5 := ⟨ax_tc2 (i := 52) rfl (by decide +kernel), ax_tw (i := 291) (by decide +kernel) (by decide +kernel), ax_tw (i := 1) (by decide +kernel) (by decide +kernel), ⟨by decide +kernel, by decide +kernel, by decide +kernel⟩⟩
def y_V_firstOfRanks : MethodName := ⟨"VoteAuctions", "firstOfRanks", "(III)I"⟩
abbrev b_V_firstOfRanks : ByteArray := prog_1_method_39_code
set_option maxRecDepth 100000 in
theorem m_V_firstOfRanks : ax_ms y_V_firstOfRanks b_V_firstOfRanks 6 (some (.int)) 3 := ⟨ax_tc2 (i := 55) rfl (by decide +kernel), ax_tw (i := 294) (by decide +kernel) (by decide +kernel), ax_tw (i := 1) (by decide +kernel) (by decide +kernel), ⟨by decide +kernel, by decide +kernel, by decide +kernel⟩⟩
def y_V_hasMoreThanHalf : MethodName := ⟨"VoteAuctions", "hasMoreThanHalf", "(LVoteAuctions$Question;)Z"⟩
abbrev b_V_hasMoreThanHalf : ByteArray := prog_1_method_45_code
set_option maxRecDepth 100000 in
theorem m_V_hasMoreThanHalf : ax_mv y_V_hasMoreThanHalf b_V_hasMoreThanHalf 5 (some (.boolean)) 1 0 := ⟨ax_tc2 (i := 59) rfl (by decide +kernel), ax_tw (i := 298) (by decide +kernel) (by decide +kernel), ax_ts0 (i := 18) (by decide +kernel) (by decide +kernel), ax_tw (i := 1) (by decide +kernel) (by decide +kernel), ⟨by decide +kernel, by decide +kernel, by decide +kernel⟩, _, rfl, rfl⟩
def y_V_leastCounted : MethodName := ⟨"VoteAuctions", "leastCounted", "(LVoteAuctions$Question;I)I"⟩
abbrev b_V_leastCounted : ByteArray := prog_1_method_46_code
set_option maxRecDepth 100000 in
theorem m_V_leastCounted : ax_mv y_V_leastCounted b_V_leastCounted 6 (some (.int)) 2 0 := ⟨ax_tc2 (i := 66) rfl (by decide +kernel), ax_tw (i := 305) (by decide +kernel) (by decide +kernel), ax_ts0 (i := 19) (by decide +kernel) (by decide +kernel), ax_tw (i := 1) (by decide +kernel) (by decide +kernel), ⟨by decide +kernel, by decide +kernel, by decide +kernel⟩, _, rfl, rfl⟩
def y_V_fallen : MethodName := ⟨"VoteAuctions", "fallen", "(II)I"⟩
abbrev b_V_fallen : ByteArray := prog_1_method_16_code
set_option maxRecDepth 100000 in
theorem m_V_fallen : ax_mv y_V_fallen b_V_fallen 4 (some (.int)) 2 0 := ⟨ax_tc2 (i := 71) rfl (by decide +kernel), ax_tw (i := 309) (by decide +kernel) (by decide +kernel), ax_tw (i := 310) (by decide +kernel) (by decide +kernel), ax_tw (i := 1) (by decide +kernel) (by decide +kernel), ⟨by decide +kernel, by decide +kernel, by decide +kernel⟩, _, rfl, rfl⟩
def y_V_winner : MethodName := ⟨"VoteAuctions", "winner", "(I)I"⟩
abbrev b_V_winner : ByteArray := prog_1_method_17_code
set_option maxRecDepth 100000 in
theorem m_V_winner : ax_mv y_V_winner b_V_winner 4 (some (.int)) 1 0 := ⟨ax_tc2 (i := 75) rfl (by decide +kernel), ax_tw (i := 313) (by decide +kernel) (by decide +kernel), ax_tw (i := 314) (by decide +kernel) (by decide +kernel), ax_tw (i := 1) (by decide +kernel) (by decide +kernel), ⟨by decide +kernel, by decide +kernel, by decide +kernel⟩, _, rfl, rfl⟩
def y_V_mostCounted : MethodName := ⟨"VoteAuctions", "mostCounted", "(LVoteAuctions$Question;)I"⟩
abbrev b_V_mostCounted : ByteArray := prog_1_method_47_code
set_option maxRecDepth 100000 in
theorem m_V_mostCounted : ax_mv y_V_mostCounted b_V_mostCounted 5 (some (.int)) 1 0 := ⟨ax_tc2 (i := 79) rfl (by decide +kernel), ax_tw (i := 318) (by decide +kernel) (by decide +kernel), ax_ts0 (i := 20) (by decide +kernel) (by decide +kernel), ax_tw (i := 1) (by decide +kernel) (by decide +kernel), ⟨by decide +kernel, by decide +kernel, by decide +kernel⟩, _, rfl, rfl⟩
def y_V_passed : MethodName := ⟨"VoteAuctions", "passed", "(I)I"⟩
abbrev b_V_passed : ByteArray := prog_1_method_18_code
set_option maxRecDepth 100000 in
theorem m_V_passed : ax_mv y_V_passed b_V_passed 3 (some (.int)) 1 0 := ⟨ax_tc2 (i := 83) rfl (by decide +kernel), ax_tw (i := 321) (by decide +kernel) (by decide +kernel), ax_tw (i := 322) (by decide +kernel) (by decide +kernel), ax_tw (i := 1) (by decide +kernel) (by decide +kernel), ⟨by decide +kernel, by decide +kernel, by decide +kernel⟩, _, rfl, rfl⟩
def y_V_isPassed : MethodName := ⟨"VoteAuctions", "isPassed", "(LVoteAuctions$Question;)Z"⟩
abbrev b_V_isPassed : ByteArray := prog_1_method_48_code
set_option maxRecDepth 100000 in
theorem m_V_isPassed : ax_mv y_V_isPassed b_V_isPassed 5 (some (.boolean)) 1 0 := ⟨ax_tc2 (i := 87) rfl (by decide +kernel), ax_tw (i := 326) (by decide +kernel) (by decide +kernel), ax_ts0 (i := 21) (by decide +kernel) (by decide +kernel), ax_tw (i := 1) (by decide +kernel) (by decide +kernel), ⟨by decide +kernel, by decide +kernel, by decide +kernel⟩, _, rfl, rfl⟩
def y_V_run : MethodName := ⟨"VoteAuctions", "run", "(I)I"⟩
abbrev b_V_run : ByteArray := prog_1_method_19_code
set_option maxRecDepth 100000 in
theorem m_V_run : ax_mv y_V_run b_V_run 3 (some (.int)) 1 0 := ⟨ax_tc2 (i := 91) rfl (by decide +kernel), ax_tw (i := 329) (by decide +kernel) (by decide +kernel), ax_tw (i := 330) (by decide +kernel) (by decide +kernel), ax_tw (i := 1) (by decide +kernel) (by decide +kernel), ⟨by decide +kernel, by decide +kernel, by decide +kernel⟩, _, rfl, rfl⟩
def y_V_auction : MethodName := ⟨"VoteAuctions", "auction", "(IIIII)I"⟩
abbrev b_V_auction : ByteArray := prog_1_method_20_code
set_option maxRecDepth 100000 in
theorem m_V_auction : ax_mv y_V_auction b_V_auction 10 (some (.int)) 5 0 := ⟨ax_tc2 (i := 95) rfl (by decide +kernel), ax_tw (i := 333) (by decide +kernel) (by decide +kernel), ax_tw (i := 334) (by decide +kernel) (by decide +kernel), ax_tw (i := 1) (by decide +kernel) (by decide +kernel), ⟨by decide +kernel, by decide +kernel, by decide +kernel⟩, _, rfl, rfl⟩
def y_A_init : MethodName := ⟨"VoteAuctions$Auction", "<init>", "(IIIIII)V"⟩
abbrev b_A_init : ByteArray := prog_2_method_1_code
set_option maxRecDepth 100000 in
theorem m_A_init : ax_mi y_A_init b_A_init 7 6 := ⟨ax_tc2 (i := 98) rfl (by decide +kernel), ax_tw (i := 337) (by decide +kernel) (by decide +kernel), rfl, ax_tw (i := 6) (by decide +kernel) (by decide +kernel), ⟨by decide +kernel, by decide +kernel, by decide +kernel⟩⟩
def y_V_bid : MethodName := ⟨"VoteAuctions", "bid", "(IIII)I"⟩
abbrev b_V_bid : ByteArray := prog_1_method_21_code
set_option maxRecDepth 100000 in
theorem m_V_bid : ax_mv y_V_bid b_V_bid 6 (some (.int)) 4 0 := ⟨ax_tc2 (i := 158) rfl (by decide +kernel), ax_tw (i := 396) (by decide +kernel) (by decide +kernel), ax_tw (i := 397) (by decide +kernel) (by decide +kernel), ax_tw (i := 1) (by decide +kernel) (by decide +kernel), ⟨by decide +kernel, by decide +kernel, by decide +kernel⟩, _, rfl, rfl⟩
def y_V_auctionAt : MethodName := ⟨"VoteAuctions", "auctionAt", "(I)LVoteAuctions$Auction;"⟩
abbrev b_V_auctionAt : ByteArray := prog_1_method_30_code
set_option maxRecDepth 100000 in
theorem m_V_auctionAt : ax_mv y_V_auctionAt b_V_auctionAt 2 (some (.object "VoteAuctions$Auction")) 1 0 := ⟨ax_tc2 (i := 162) rfl (by decide +kernel), ax_tw (i := 401) (by decide +kernel) (by decide +kernel), ax_ts0 (i := 22) (by decide +kernel) (by decide +kernel), ax_tw (i := 1) (by decide +kernel) (by decide +kernel), ⟨by decide +kernel, by decide +kernel, by decide +kernel⟩, _, rfl, rfl⟩
def y_V_isBelowStep : MethodName := ⟨"VoteAuctions", "isBelowStep", "(LVoteAuctions$Auction;I)Z"⟩
abbrev b_V_isBelowStep : ByteArray := prog_1_method_50_code
set_option maxRecDepth 100000 in
theorem m_V_isBelowStep : ax_ms y_V_isBelowStep b_V_isBelowStep 2 (some (.boolean)) 2 := ⟨ax_tc2 (i := 165) rfl (by decide +kernel), ax_tw (i := 404) (by decide +kernel) (by decide +kernel), ax_tw (i := 1) (by decide +kernel) (by decide +kernel), ⟨by decide +kernel, by decide +kernel, by decide +kernel⟩⟩
def y_V_dropBid : MethodName := ⟨"VoteAuctions", "dropBid", "(LVoteAuctions$Auction;I)V"⟩
abbrev b_V_dropBid : ByteArray := prog_1_method_52_code
set_option maxRecDepth 100000 in
theorem m_V_dropBid : ax_mv y_V_dropBid b_V_dropBid 3 none 2 0 := ⟨ax_tc2 (i := 169) rfl (by decide +kernel), ax_tw (i := 408) (by decide +kernel) (by decide +kernel), ax_ts0 (i := 23) (by decide +kernel) (by decide +kernel), ax_tw (i := 1) (by decide +kernel) (by decide +kernel), ⟨by decide +kernel, by decide +kernel, by decide +kernel⟩, _, rfl, rfl⟩
def y_A_tell : MethodName := ⟨"VoteAuctions$Auction", "tell", "(I)V"⟩
abbrev b_A_tell : ByteArray := prog_2_method_3_code
set_option maxRecDepth 100000 in
theorem m_A_tell : ax_mv y_A_tell b_A_tell 2 none 1 2 := ⟨ax_tc2 (i := 173) rfl (by decide +kernel), ax_tw (i := 412) (by decide +kernel) (by decide +kernel), ax_ts0 (i := 24) (by decide +kernel) (by decide +kernel), ax_tw (i := 6) (by decide +kernel) (by decide +kernel), ⟨by decide +kernel, by decide +kernel, by decide +kernel⟩, _, rfl, rfl⟩
def y_V_setAside : MethodName := ⟨"VoteAuctions", "setAside", "(IJ)V"⟩
abbrev b_V_setAside : ByteArray := prog_1_method_31_code
set_option maxRecDepth 100000 in
theorem m_V_setAside : ax_mv y_V_setAside b_V_setAside 4 none 2 0 := ⟨ax_tc2 (i := 177) rfl (by decide +kernel), ax_tw (i := 416) (by decide +kernel) (by decide +kernel), ax_ts0 (i := 25) (by decide +kernel) (by decide +kernel), ax_tw (i := 1) (by decide +kernel) (by decide +kernel), ⟨by decide +kernel, by decide +kernel, by decide +kernel⟩, _, rfl, rfl⟩
def y_V_seal : MethodName := ⟨"VoteAuctions", "seal", "(IIJ)I"⟩
abbrev b_V_seal : ByteArray := prog_1_method_22_code
set_option maxRecDepth 100000 in
theorem m_V_seal : ax_mv y_V_seal b_V_seal 7 (some (.int)) 3 0 := ⟨ax_tc2 (i := 181) rfl (by decide +kernel), ax_tw (i := 419) (by decide +kernel) (by decide +kernel), ax_tw (i := 420) (by decide +kernel) (by decide +kernel), ax_tw (i := 1) (by decide +kernel) (by decide +kernel), ⟨by decide +kernel, by decide +kernel, by decide +kernel⟩, _, rfl, rfl⟩
def y_V_unseal : MethodName := ⟨"VoteAuctions", "unseal", "(IIII)I"⟩
abbrev b_V_unseal : ByteArray := prog_1_method_23_code
set_option maxRecDepth 100000 in
theorem m_V_unseal : ax_mv y_V_unseal b_V_unseal 6 (some (.int)) 4 0 := ⟨ax_tc2 (i := 185) rfl (by decide +kernel), ax_tw (i := 423) (by decide +kernel) (by decide +kernel), ax_tw (i := 424) (by decide +kernel) (by decide +kernel), ax_tw (i := 1) (by decide +kernel) (by decide +kernel), ⟨by decide +kernel, by decide +kernel, by decide +kernel⟩, _, rfl, rfl⟩
def y_V_take : MethodName := ⟨"VoteAuctions", "take", "(II)I"⟩
abbrev b_V_take : ByteArray := prog_1_method_24_code
set_option maxRecDepth 100000 in
theorem m_V_take : ax_mv y_V_take b_V_take 5 (some (.int)) 2 0 := ⟨ax_tc2 (i := 189) rfl (by decide +kernel), ax_tw (i := 427) (by decide +kernel) (by decide +kernel), ax_tw (i := 428) (by decide +kernel) (by decide +kernel), ax_tw (i := 1) (by decide +kernel) (by decide +kernel), ⟨by decide +kernel, by decide +kernel, by decide +kernel⟩, _, rfl, rfl⟩
def y_V_fallingPrice : MethodName := ⟨"VoteAuctions", "fallingPrice", "(LVoteAuctions$Auction;)I"⟩
abbrev b_V_fallingPrice : ByteArray := prog_1_method_51_code
set_option maxRecDepth 100000 in
theorem m_V_fallingPrice : ax_mv y_V_fallingPrice b_V_fallingPrice 2 (some (.int)) 1 0 := ⟨ax_tc2 (i := 193) rfl (by decide +kernel), ax_tw (i := 432) (by decide +kernel) (by decide +kernel), ax_ts0 (i := 26) (by decide +kernel) (by decide +kernel), ax_tw (i := 1) (by decide +kernel) (by decide +kernel), ⟨by decide +kernel, by decide +kernel, by decide +kernel⟩, _, rfl, rfl⟩
def y_V_price : MethodName := ⟨"VoteAuctions", "price", "(I)I"⟩
abbrev b_V_price : ByteArray := prog_1_method_25_code
set_option maxRecDepth 100000 in
theorem m_V_price : ax_mv y_V_price b_V_price 3 (some (.int)) 1 0 := ⟨ax_tc2 (i := 197) rfl (by decide +kernel), ax_tw (i := 435) (by decide +kernel) (by decide +kernel), ax_tw (i := 436) (by decide +kernel) (by decide +kernel), ax_tw (i := 1) (by decide +kernel) (by decide +kernel), ⟨by decide +kernel, by decide +kernel, by decide +kernel⟩, _, rfl, rfl⟩
def y_V_won : MethodName := ⟨"VoteAuctions", "won", "(II)I"⟩
abbrev b_V_won : ByteArray := prog_1_method_26_code
set_option maxRecDepth 100000 in
theorem m_V_won : ax_mv y_V_won b_V_won 4 (some (.int)) 2 0 := ⟨ax_tc2 (i := 201) rfl (by decide +kernel), ax_tw (i := 439) (by decide +kernel) (by decide +kernel), ax_tw (i := 440) (by decide +kernel) (by decide +kernel), ax_tw (i := 1) (by decide +kernel) (by decide +kernel), ⟨by decide +kernel, by decide +kernel, by decide +kernel⟩, _, rfl, rfl⟩
def y_M_init : MethodName := ⟨"VoteAuctionsModel", "<init>", "()V"⟩
abbrev b_M_init : ByteArray := prog_5_method_1_code
set_option maxRecDepth 100000 in
theorem m_M_init : ax_mi y_M_init b_M_init 1 0 := ⟨ax_tc2 (i := 206) rfl (by decide +kernel), ax_tw (i := 445) (by decide +kernel) (by decide +kernel), rfl, ax_tw (i := 2) (by decide +kernel) (by decide +kernel), ⟨by decide +kernel, by decide +kernel, by decide +kernel⟩⟩
def y_M_account : MethodName := ⟨"VoteAuctionsModel", "account", "(II)I"⟩
abbrev b_M_account : ByteArray := prog_5_method_5_code
set_option maxRecDepth 100000 in
theorem m_M_account : ax_mv y_M_account b_M_account 3 (some (.int)) 2 3 := ⟨ax_tc3 (i := 121) rfl (by decide +kernel), ax_tw (i := 599) (by decide +kernel) (by decide +kernel), ax_tw (i := 600) (by decide +kernel) (by decide +kernel), ax_tw (i := 2) (by decide +kernel) (by decide +kernel), ⟨by decide +kernel, by decide +kernel, by decide +kernel⟩, _, rfl, rfl⟩
def y_M_isIn : MethodName := ⟨"VoteAuctionsModel", "isIn", "(III)Z"⟩
abbrev b_M_isIn : ByteArray := prog_5_method_3_code
set_option maxRecDepth 100000 in
theorem m_M_isIn : ax_ms y_M_isIn b_M_isIn 3 (some (.boolean)) 3 := ⟨ax_tc3 (i := 124) rfl (by decide +kernel), ax_tw (i := 603) (by decide +kernel) (by decide +kernel), ax_tw (i := 2) (by decide +kernel) (by decide +kernel), ⟨by decide +kernel, by decide +kernel, by decide +kernel⟩⟩
def y_M_weigh : MethodName := ⟨"VoteAuctionsModel", "weigh", "(II)I"⟩
abbrev b_M_weigh : ByteArray := prog_5_method_6_code
set_option maxRecDepth 100000 in
theorem m_M_weigh : ax_mv y_M_weigh b_M_weigh 4 (some (.int)) 2 3 := ⟨ax_tc3 (i := 129) rfl (by decide +kernel), ax_tw (i := 607) (by decide +kernel) (by decide +kernel), ax_tw (i := 608) (by decide +kernel) (by decide +kernel), ax_tw (i := 2) (by decide +kernel) (by decide +kernel), ⟨by decide +kernel, by decide +kernel, by decide +kernel⟩, _, rfl, rfl⟩
def y_M_isAccount : MethodName := ⟨"VoteAuctionsModel", "isAccount", "(I)Z"⟩
abbrev b_M_isAccount : ByteArray := prog_5_method_4_code
set_option maxRecDepth 100000 in
theorem m_M_isAccount : ax_mv y_M_isAccount b_M_isAccount 2 (some (.boolean)) 1 3 := ⟨ax_tc3 (i := 133) rfl (by decide +kernel), ax_tw (i := 612) (by decide +kernel) (by decide +kernel), ax_ts0 (i := 27) (by decide +kernel) (by decide +kernel), ax_tw (i := 2) (by decide +kernel) (by decide +kernel), ⟨by decide +kernel, by decide +kernel, by decide +kernel⟩, _, rfl, rfl⟩
def y_M_fund : MethodName := ⟨"VoteAuctionsModel", "fund", "(II)I"⟩
abbrev b_M_fund : ByteArray := prog_5_method_7_code
set_option maxRecDepth 100000 in
theorem m_M_fund : ax_mv y_M_fund b_M_fund 3 (some (.int)) 2 3 := ⟨ax_tc3 (i := 137) rfl (by decide +kernel), ax_tw (i := 615) (by decide +kernel) (by decide +kernel), ax_tw (i := 616) (by decide +kernel) (by decide +kernel), ax_tw (i := 2) (by decide +kernel) (by decide +kernel), ⟨by decide +kernel, by decide +kernel, by decide +kernel⟩, _, rfl, rfl⟩
def y_M_speak : MethodName := ⟨"VoteAuctionsModel", "speak", "(II)I"⟩
abbrev b_M_speak : ByteArray := prog_5_method_8_code
set_option maxRecDepth 100000 in
theorem m_M_speak : ax_mv y_M_speak b_M_speak 4 (some (.int)) 2 3 := ⟨ax_tc3 (i := 142) rfl (by decide +kernel), ax_tw (i := 620) (by decide +kernel) (by decide +kernel), ax_tw (i := 621) (by decide +kernel) (by decide +kernel), ax_tw (i := 2) (by decide +kernel) (by decide +kernel), ⟨by decide +kernel, by decide +kernel, by decide +kernel⟩, _, rfl, rfl⟩
def y_M_holds : MethodName := ⟨"VoteAuctionsModel", "holds", "(II)J"⟩
abbrev b_M_holds : ByteArray := prog_5_method_9_code
set_option maxRecDepth 100000 in
theorem m_M_holds : ax_mv y_M_holds b_M_holds 3 (some (.long)) 2 3 := ⟨ax_tc3 (i := 146) rfl (by decide +kernel), ax_tw (i := 624) (by decide +kernel) (by decide +kernel), ax_tw (i := 625) (by decide +kernel) (by decide +kernel), ax_tw (i := 2) (by decide +kernel) (by decide +kernel), ⟨by decide +kernel, by decide +kernel, by decide +kernel⟩, _, rfl, rfl⟩
def y_M_pot : MethodName := ⟨"VoteAuctionsModel", "pot", "()J"⟩
abbrev b_M_pot : ByteArray := prog_5_method_10_code
set_option maxRecDepth 100000 in
theorem m_M_pot : ax_mv y_M_pot b_M_pot 1 (some (.long)) 0 3 := ⟨ax_tc3 (i := 152) rfl (by decide +kernel), ax_tw (i := 630) (by decide +kernel) (by decide +kernel), ax_tw (i := 631) (by decide +kernel) (by decide +kernel), ax_tw (i := 2) (by decide +kernel) (by decide +kernel), ⟨by decide +kernel, by decide +kernel, by decide +kernel⟩, _, rfl, rfl⟩
def y_M_tick : MethodName := ⟨"VoteAuctionsModel", "tick", "(I)I"⟩
abbrev b_M_tick : ByteArray := prog_5_method_11_code
set_option maxRecDepth 100000 in
theorem m_M_tick : ax_mv y_M_tick b_M_tick 5 (some (.int)) 1 3 := ⟨ax_tc3 (i := 156) rfl (by decide +kernel), ax_tw (i := 634) (by decide +kernel) (by decide +kernel), ax_tw (i := 635) (by decide +kernel) (by decide +kernel), ax_tw (i := 2) (by decide +kernel) (by decide +kernel), ⟨by decide +kernel, by decide +kernel, by decide +kernel⟩, _, rfl, rfl⟩
def y_M_end : MethodName := ⟨"VoteAuctionsModel", "end", "(I)V"⟩
abbrev b_M_end : ByteArray := prog_5_method_47_code
set_option maxRecDepth 100000 in
theorem m_M_end : ax_mv y_M_end b_M_end 5 none 1 3 := ⟨ax_tc3 (i := 160) rfl (by decide +kernel), ax_tw (i := 639) (by decide +kernel) (by decide +kernel), ax_ts0 (i := 28) (by decide +kernel) (by decide +kernel), ax_tw (i := 2) (by decide +kernel) (by decide +kernel), ⟨by decide +kernel, by decide +kernel, by decide +kernel⟩, _, rfl, rfl⟩
def y_M_endUnits : MethodName := ⟨"VoteAuctionsModel", "endUnits", "(I)V"⟩
abbrev b_M_endUnits : ByteArray := prog_5_method_48_code
set_option maxRecDepth 100000 in
theorem m_M_endUnits : ax_mv y_M_endUnits b_M_endUnits 10 none 1 3 := ⟨ax_tc3 (i := 164) rfl (by decide +kernel), ax_tw (i := 643) (by decide +kernel) (by decide +kernel), ax_ts0 (i := 29) (by decide +kernel) (by decide +kernel), ax_tw (i := 2) (by decide +kernel) (by decide +kernel), ⟨by decide +kernel, by decide +kernel, by decide +kernel⟩, _, rfl, rfl⟩
def y_M_greatest : MethodName := ⟨"VoteAuctionsModel", "greatest", "(II)I"⟩
abbrev b_M_greatest : ByteArray := prog_5_method_41_code
set_option maxRecDepth 100000 in
theorem m_M_greatest : ax_mv y_M_greatest b_M_greatest 8 (some (.int)) 2 3 := ⟨ax_tc3 (i := 168) rfl (by decide +kernel), ax_tw (i := 647) (by decide +kernel) (by decide +kernel), ax_ts0 (i := 30) (by decide +kernel) (by decide +kernel), ax_tw (i := 2) (by decide +kernel) (by decide +kernel), ⟨by decide +kernel, by decide +kernel, by decide +kernel⟩, _, rfl, rfl⟩
def y_M_costOf : MethodName := ⟨"VoteAuctionsModel", "costOf", "(I)J"⟩
abbrev b_M_costOf : ByteArray := prog_5_method_40_code
set_option maxRecDepth 100000 in
theorem m_M_costOf : ax_mv y_M_costOf b_M_costOf 2 (some (.long)) 1 3 := ⟨ax_tc3 (i := 172) rfl (by decide +kernel), ax_tw (i := 651) (by decide +kernel) (by decide +kernel), ax_ts0 (i := 31) (by decide +kernel) (by decide +kernel), ax_tw (i := 2) (by decide +kernel) (by decide +kernel), ⟨by decide +kernel, by decide +kernel, by decide +kernel⟩, _, rfl, rfl⟩
def y_M_pay : MethodName := ⟨"VoteAuctionsModel", "pay", "(IJ)V"⟩
abbrev b_M_pay : ByteArray := prog_5_method_39_code
set_option maxRecDepth 100000 in
theorem m_M_pay : ax_mv y_M_pay b_M_pay 4 none 2 3 := ⟨ax_tc3 (i := 176) rfl (by decide +kernel), ax_tw (i := 655) (by decide +kernel) (by decide +kernel), ax_ts0 (i := 32) (by decide +kernel) (by decide +kernel), ax_tw (i := 2) (by decide +kernel) (by decide +kernel), ⟨by decide +kernel, by decide +kernel, by decide +kernel⟩, _, rfl, rfl⟩
def y_M_setAside : MethodName := ⟨"VoteAuctionsModel", "setAside", "(IJ)V"⟩
abbrev b_M_setAside : ByteArray := prog_5_method_38_code
set_option maxRecDepth 100000 in
theorem m_M_setAside : ax_mv y_M_setAside b_M_setAside 4 none 2 3 := ⟨ax_tc3 (i := 180) rfl (by decide +kernel), ax_tw (i := 659) (by decide +kernel) (by decide +kernel), ax_ts0 (i := 33) (by decide +kernel) (by decide +kernel), ax_tw (i := 2) (by decide +kernel) (by decide +kernel), ⟨by decide +kernel, by decide +kernel, by decide +kernel⟩, _, rfl, rfl⟩
def y_M_mark : MethodName := ⟨"VoteAuctionsModel", "mark", "(III)J"⟩
abbrev b_M_mark : ByteArray := prog_5_method_12_code
set_option maxRecDepth 100000 in
theorem m_M_mark : ax_mv y_M_mark b_M_mark 6 (some (.long)) 3 3 := ⟨ax_tc3 (i := 184) rfl (by decide +kernel), ax_tw (i := 662) (by decide +kernel) (by decide +kernel), ax_tw (i := 663) (by decide +kernel) (by decide +kernel), ax_tw (i := 2) (by decide +kernel) (by decide +kernel), ⟨by decide +kernel, by decide +kernel, by decide +kernel⟩, _, rfl, rfl⟩
def y_M_question : MethodName := ⟨"VoteAuctionsModel", "question", "(IIIII)I"⟩
abbrev b_M_question : ByteArray := prog_5_method_14_code
set_option maxRecDepth 100000 in
theorem m_M_question : ax_mv y_M_question b_M_question 8 (some (.int)) 5 3 := ⟨ax_tc3 (i := 190) rfl (by decide +kernel), ax_tw (i := 668) (by decide +kernel) (by decide +kernel), ax_tw (i := 669) (by decide +kernel) (by decide +kernel), ax_tw (i := 2) (by decide +kernel) (by decide +kernel), ⟨by decide +kernel, by decide +kernel, by decide +kernel⟩, _, rfl, rfl⟩
def y_M_call : MethodName := ⟨"VoteAuctionsModel", "call", "(IIII)I"⟩
abbrev b_M_call : ByteArray := prog_5_method_16_code
set_option maxRecDepth 100000 in
theorem m_M_call : ax_mv y_M_call b_M_call 5 (some (.int)) 4 3 := ⟨ax_tc3 (i := 194) rfl (by decide +kernel), ax_tw (i := 672) (by decide +kernel) (by decide +kernel), ax_tw (i := 673) (by decide +kernel) (by decide +kernel), ax_tw (i := 2) (by decide +kernel) (by decide +kernel), ⟨by decide +kernel, by decide +kernel, by decide +kernel⟩, _, rfl, rfl⟩
def y_M_isQuestion : MethodName := ⟨"VoteAuctionsModel", "isQuestion", "(I)Z"⟩
abbrev b_M_isQuestion : ByteArray := prog_5_method_13_code
set_option maxRecDepth 100000 in
theorem m_M_isQuestion : ax_mv y_M_isQuestion b_M_isQuestion 2 (some (.boolean)) 1 3 := ⟨ax_tc3 (i := 198) rfl (by decide +kernel), ax_tw (i := 677) (by decide +kernel) (by decide +kernel), ax_ts0 (i := 34) (by decide +kernel) (by decide +kernel), ax_tw (i := 2) (by decide +kernel) (by decide +kernel), ⟨by decide +kernel, by decide +kernel, by decide +kernel⟩, _, rfl, rfl⟩
def y_M_vote : MethodName := ⟨"VoteAuctionsModel", "vote", "(III)I"⟩
abbrev b_M_vote : ByteArray := prog_5_method_19_code
set_option maxRecDepth 100000 in
theorem m_M_vote : ax_mv y_M_vote b_M_vote 4 (some (.int)) 3 3 := ⟨ax_tc3 (i := 202) rfl (by decide +kernel), ax_tw (i := 680) (by decide +kernel) (by decide +kernel), ax_tw (i := 681) (by decide +kernel) (by decide +kernel), ax_tw (i := 2) (by decide +kernel) (by decide +kernel), ⟨by decide +kernel, by decide +kernel, by decide +kernel⟩, _, rfl, rfl⟩
def y_M_isVote : MethodName := ⟨"VoteAuctionsModel", "isVote", "(III)Z"⟩
abbrev b_M_isVote : ByteArray := prog_5_method_17_code
set_option maxRecDepth 100000 in
theorem m_M_isVote : ax_mv y_M_isVote b_M_isVote 8 (some (.boolean)) 3 3 := ⟨ax_tc3 (i := 206) rfl (by decide +kernel), ax_tw (i := 685) (by decide +kernel) (by decide +kernel), ax_ts0 (i := 35) (by decide +kernel) (by decide +kernel), ax_tw (i := 2) (by decide +kernel) (by decide +kernel), ⟨by decide +kernel, by decide +kernel, by decide +kernel⟩, _, rfl, rfl⟩
def y_M_isRanks : MethodName := ⟨"VoteAuctionsModel", "isRanks", "(II)Z"⟩
abbrev b_M_isRanks : ByteArray := prog_5_method_18_code
set_option maxRecDepth 100000 in
theorem m_M_isRanks : ax_ms y_M_isRanks b_M_isRanks 5 (some (.boolean)) 2 := ⟨ax_tc3 (i := 209) rfl (by decide +kernel), ax_tw (i := 688) (by decide +kernel) (by decide +kernel), ax_tw (i := 2) (by decide +kernel) (by decide +kernel), ⟨by decide +kernel, by decide +kernel, by decide +kernel⟩⟩
def y_M_isHidden : MethodName := ⟨"VoteAuctionsModel", "isHidden", "(I)Z"⟩
abbrev b_M_isHidden : ByteArray := prog_5_method_15_code
set_option maxRecDepth 100000 in
theorem m_M_isHidden : ax_mv y_M_isHidden b_M_isHidden 2 (some (.boolean)) 1 3 := ⟨ax_tc3 (i := 213) rfl (by decide +kernel), ax_tw (i := 692) (by decide +kernel) (by decide +kernel), ax_ts0 (i := 36) (by decide +kernel) (by decide +kernel), ax_tw (i := 2) (by decide +kernel) (by decide +kernel), ⟨by decide +kernel, by decide +kernel, by decide +kernel⟩, _, rfl, rfl⟩
def y_M_hide : MethodName := ⟨"VoteAuctionsModel", "hide", "(IIJ)I"⟩
abbrev b_M_hide : ByteArray := prog_5_method_20_code
set_option maxRecDepth 100000 in
theorem m_M_hide : ax_mv y_M_hide b_M_hide 5 (some (.int)) 3 3 := ⟨ax_tc3 (i := 217) rfl (by decide +kernel), ax_tw (i := 695) (by decide +kernel) (by decide +kernel), ax_tw (i := 696) (by decide +kernel) (by decide +kernel), ax_tw (i := 2) (by decide +kernel) (by decide +kernel), ⟨by decide +kernel, by decide +kernel, by decide +kernel⟩, _, rfl, rfl⟩
def y_M_reveal : MethodName := ⟨"VoteAuctionsModel", "reveal", "(IIII)I"⟩
abbrev b_M_reveal : ByteArray := prog_5_method_21_code
set_option maxRecDepth 100000 in
theorem m_M_reveal : ax_mv y_M_reveal b_M_reveal 6 (some (.int)) 4 3 := ⟨ax_tc3 (i := 221) rfl (by decide +kernel), ax_tw (i := 699) (by decide +kernel) (by decide +kernel), ax_tw (i := 700) (by decide +kernel) (by decide +kernel), ax_tw (i := 2) (by decide +kernel) (by decide +kernel), ⟨by decide +kernel, by decide +kernel, by decide +kernel⟩, _, rfl, rfl⟩
def y_M_count : MethodName := ⟨"VoteAuctionsModel", "count", "(II)I"⟩
abbrev b_M_count : ByteArray := prog_5_method_28_code
set_option maxRecDepth 100000 in
theorem m_M_count : ax_mv y_M_count b_M_count 3 (some (.int)) 2 3 := ⟨ax_tc3 (i := 226) rfl (by decide +kernel), ax_tw (i := 704) (by decide +kernel) (by decide +kernel), ax_tw (i := 705) (by decide +kernel) (by decide +kernel), ax_tw (i := 2) (by decide +kernel) (by decide +kernel), ⟨by decide +kernel, by decide +kernel, by decide +kernel⟩, _, rfl, rfl⟩
def y_M_findCounts : MethodName := ⟨"VoteAuctionsModel", "findCounts", "(I)V"⟩
abbrev b_M_findCounts : ByteArray := prog_5_method_25_code
set_option maxRecDepth 100000 in
theorem m_M_findCounts : ax_mv y_M_findCounts b_M_findCounts 5 none 1 3 := ⟨ax_tc3 (i := 230) rfl (by decide +kernel), ax_tw (i := 709) (by decide +kernel) (by decide +kernel), ax_ts0 (i := 37) (by decide +kernel) (by decide +kernel), ax_tw (i := 2) (by decide +kernel) (by decide +kernel), ⟨by decide +kernel, by decide +kernel, by decide +kernel⟩, _, rfl, rfl⟩
def y_M_findVoices : MethodName := ⟨"VoteAuctionsModel", "findVoices", "(I)V"⟩
abbrev b_M_findVoices : ByteArray := prog_5_method_23_code
set_option maxRecDepth 100000 in
theorem m_M_findVoices : ax_mv y_M_findVoices b_M_findVoices 4 none 1 3 := ⟨ax_tc3 (i := 234) rfl (by decide +kernel), ax_tw (i := 713) (by decide +kernel) (by decide +kernel), ax_ts0 (i := 38) (by decide +kernel) (by decide +kernel), ax_tw (i := 2) (by decide +kernel) (by decide +kernel), ⟨by decide +kernel, by decide +kernel, by decide +kernel⟩, _, rfl, rfl⟩
def y_M_speakerOf : MethodName := ⟨"VoteAuctionsModel", "speakerOf", "(II)I"⟩
abbrev b_M_speakerOf : ByteArray := prog_5_method_22_code
set_option maxRecDepth 100000 in
theorem m_M_speakerOf : ax_mv y_M_speakerOf b_M_speakerOf 3 (some (.int)) 2 3 := ⟨ax_tc3 (i := 238) rfl (by decide +kernel), ax_tw (i := 717) (by decide +kernel) (by decide +kernel), ax_ts0 (i := 39) (by decide +kernel) (by decide +kernel), ax_tw (i := 2) (by decide +kernel) (by decide +kernel), ⟨by decide +kernel, by decide +kernel, by decide +kernel⟩, _, rfl, rfl⟩
def y_M_weightOf : MethodName := ⟨"VoteAuctionsModel", "weightOf", "(II)I"⟩
abbrev b_M_weightOf : ByteArray := prog_5_method_24_code
set_option maxRecDepth 100000 in
theorem m_M_weightOf : ax_mv y_M_weightOf b_M_weightOf 3 (some (.int)) 2 3 := ⟨ax_tc4 (i := 2) rfl (by decide +kernel), ax_tw (i := 721) (by decide +kernel) (by decide +kernel), ax_ts0 (i := 40) (by decide +kernel) (by decide +kernel), ax_tw (i := 2) (by decide +kernel) (by decide +kernel), ⟨by decide +kernel, by decide +kernel, by decide +kernel⟩, _, rfl, rfl⟩
def y_M_runOff : MethodName := ⟨"VoteAuctionsModel", "runOff", "(I)V"⟩
abbrev b_M_runOff : ByteArray := prog_5_method_27_code
set_option maxRecDepth 100000 in
theorem m_M_runOff : ax_mv y_M_runOff b_M_runOff 7 none 1 3 := ⟨ax_tc4 (i := 6) rfl (by decide +kernel), ax_tw (i := 725) (by decide +kernel) (by decide +kernel), ax_ts0 (i := 41) (by decide +kernel) (by decide +kernel), ax_tw (i := 2) (by decide +kernel) (by decide +kernel), ⟨by decide +kernel, by decide +kernel, by decide +kernel⟩, _, rfl, rfl⟩
def y_M_rankOf : MethodName := ⟨"VoteAuctionsModel", "rankOf", "(I)I"⟩
abbrev b_M_rankOf : ByteArray := prog_5_method_26_code
set_option maxRecDepth 100000 in
theorem m_M_rankOf : ax_mv y_M_rankOf b_M_rankOf 3 (some (.int)) 1 3 := ⟨ax_tc4 (i := 10) rfl (by decide +kernel), ax_tw (i := 729) (by decide +kernel) (by decide +kernel), ax_ts0 (i := 42) (by decide +kernel) (by decide +kernel), ax_tw (i := 2) (by decide +kernel) (by decide +kernel), ⟨by decide +kernel, by decide +kernel, by decide +kernel⟩, _, rfl, rfl⟩
def y_M_fallen : MethodName := ⟨"VoteAuctionsModel", "fallen", "(II)I"⟩
abbrev b_M_fallen : ByteArray := prog_5_method_29_code
set_option maxRecDepth 100000 in
theorem m_M_fallen : ax_mv y_M_fallen b_M_fallen 3 (some (.int)) 2 3 := ⟨ax_tc4 (i := 14) rfl (by decide +kernel), ax_tw (i := 732) (by decide +kernel) (by decide +kernel), ax_tw (i := 733) (by decide +kernel) (by decide +kernel), ax_tw (i := 2) (by decide +kernel) (by decide +kernel), ⟨by decide +kernel, by decide +kernel, by decide +kernel⟩, _, rfl, rfl⟩
def y_M_winner : MethodName := ⟨"VoteAuctionsModel", "winner", "(I)I"⟩
abbrev b_M_winner : ByteArray := prog_5_method_31_code
set_option maxRecDepth 100000 in
theorem m_M_winner : ax_mv y_M_winner b_M_winner 2 (some (.int)) 1 3 := ⟨ax_tc4 (i := 18) rfl (by decide +kernel), ax_tw (i := 736) (by decide +kernel) (by decide +kernel), ax_tw (i := 737) (by decide +kernel) (by decide +kernel), ax_tw (i := 2) (by decide +kernel) (by decide +kernel), ⟨by decide +kernel, by decide +kernel, by decide +kernel⟩, _, rfl, rfl⟩
def y_M_first : MethodName := ⟨"VoteAuctionsModel", "first", "(I)I"⟩
abbrev b_M_first : ByteArray := prog_5_method_30_code
set_option maxRecDepth 100000 in
theorem m_M_first : ax_mv y_M_first b_M_first 4 (some (.int)) 1 3 := ⟨ax_tc4 (i := 22) rfl (by decide +kernel), ax_tw (i := 741) (by decide +kernel) (by decide +kernel), ax_ts0 (i := 43) (by decide +kernel) (by decide +kernel), ax_tw (i := 2) (by decide +kernel) (by decide +kernel), ⟨by decide +kernel, by decide +kernel, by decide +kernel⟩, _, rfl, rfl⟩
def y_M_passed : MethodName := ⟨"VoteAuctionsModel", "passed", "(I)I"⟩
abbrev b_M_passed : ByteArray := prog_5_method_33_code
set_option maxRecDepth 100000 in
theorem m_M_passed : ax_mv y_M_passed b_M_passed 2 (some (.int)) 1 3 := ⟨ax_tc4 (i := 26) rfl (by decide +kernel), ax_tw (i := 744) (by decide +kernel) (by decide +kernel), ax_tw (i := 745) (by decide +kernel) (by decide +kernel), ax_tw (i := 2) (by decide +kernel) (by decide +kernel), ⟨by decide +kernel, by decide +kernel, by decide +kernel⟩, _, rfl, rfl⟩
def y_M_isPassed : MethodName := ⟨"VoteAuctionsModel", "isPassed", "(I)Z"⟩
abbrev b_M_isPassed : ByteArray := prog_5_method_32_code
set_option maxRecDepth 100000 in
theorem m_M_isPassed : ax_mv y_M_isPassed b_M_isPassed 4 (some (.boolean)) 1 3 := ⟨ax_tc4 (i := 30) rfl (by decide +kernel), ax_tw (i := 749) (by decide +kernel) (by decide +kernel), ax_ts0 (i := 44) (by decide +kernel) (by decide +kernel), ax_tw (i := 2) (by decide +kernel) (by decide +kernel), ⟨by decide +kernel, by decide +kernel, by decide +kernel⟩, _, rfl, rfl⟩
def y_M_run : MethodName := ⟨"VoteAuctionsModel", "run", "(I)I"⟩
abbrev b_M_run : ByteArray := prog_5_method_34_code
set_option maxRecDepth 100000 in
theorem m_M_run : ax_mv y_M_run b_M_run 2 (some (.int)) 1 3 := ⟨ax_tc4 (i := 34) rfl (by decide +kernel), ax_tw (i := 752) (by decide +kernel) (by decide +kernel), ax_tw (i := 753) (by decide +kernel) (by decide +kernel), ax_tw (i := 2) (by decide +kernel) (by decide +kernel), ⟨by decide +kernel, by decide +kernel, by decide +kernel⟩, _, rfl, rfl⟩
def y_M_auction : MethodName := ⟨"VoteAuctionsModel", "auction", "(IIIII)I"⟩
abbrev b_M_auction : ByteArray := prog_5_method_36_code
set_option maxRecDepth 100000 in
theorem m_M_auction : ax_mv y_M_auction b_M_auction 8 (some (.int)) 5 3 := ⟨ax_tc4 (i := 38) rfl (by decide +kernel), ax_tw (i := 756) (by decide +kernel) (by decide +kernel), ax_tw (i := 757) (by decide +kernel) (by decide +kernel), ax_tw (i := 2) (by decide +kernel) (by decide +kernel), ⟨by decide +kernel, by decide +kernel, by decide +kernel⟩, _, rfl, rfl⟩
def y_M_bid : MethodName := ⟨"VoteAuctionsModel", "bid", "(IIII)I"⟩
abbrev b_M_bid : ByteArray := prog_5_method_42_code
set_option maxRecDepth 100000 in
theorem m_M_bid : ax_mv y_M_bid b_M_bid 7 (some (.int)) 4 3 := ⟨ax_tc4 (i := 43) rfl (by decide +kernel), ax_tw (i := 761) (by decide +kernel) (by decide +kernel), ax_tw (i := 762) (by decide +kernel) (by decide +kernel), ax_tw (i := 2) (by decide +kernel) (by decide +kernel), ⟨by decide +kernel, by decide +kernel, by decide +kernel⟩, _, rfl, rfl⟩
def y_M_isAuction : MethodName := ⟨"VoteAuctionsModel", "isAuction", "(I)Z"⟩
abbrev b_M_isAuction : ByteArray := prog_5_method_35_code
set_option maxRecDepth 100000 in
theorem m_M_isAuction : ax_mv y_M_isAuction b_M_isAuction 2 (some (.boolean)) 1 3 := ⟨ax_tc4 (i := 47) rfl (by decide +kernel), ax_tw (i := 766) (by decide +kernel) (by decide +kernel), ax_ts0 (i := 45) (by decide +kernel) (by decide +kernel), ax_tw (i := 2) (by decide +kernel) (by decide +kernel), ⟨by decide +kernel, by decide +kernel, by decide +kernel⟩, _, rfl, rfl⟩
def y_M_isOver : MethodName := ⟨"VoteAuctionsModel", "isOver", "(I)Z"⟩
abbrev b_M_isOver : ByteArray := prog_5_method_37_code
set_option maxRecDepth 100000 in
theorem m_M_isOver : ax_mv y_M_isOver b_M_isOver 2 (some (.boolean)) 1 3 := ⟨ax_tc4 (i := 51) rfl (by decide +kernel), ax_tw (i := 770) (by decide +kernel) (by decide +kernel), ax_ts0 (i := 46) (by decide +kernel) (by decide +kernel), ax_tw (i := 2) (by decide +kernel) (by decide +kernel), ⟨by decide +kernel, by decide +kernel, by decide +kernel⟩, _, rfl, rfl⟩
def y_M_seal : MethodName := ⟨"VoteAuctionsModel", "seal", "(IIJ)I"⟩
abbrev b_M_seal : ByteArray := prog_5_method_43_code
set_option maxRecDepth 100000 in
theorem m_M_seal : ax_mv y_M_seal b_M_seal 6 (some (.int)) 3 3 := ⟨ax_tc4 (i := 55) rfl (by decide +kernel), ax_tw (i := 773) (by decide +kernel) (by decide +kernel), ax_tw (i := 774) (by decide +kernel) (by decide +kernel), ax_tw (i := 2) (by decide +kernel) (by decide +kernel), ⟨by decide +kernel, by decide +kernel, by decide +kernel⟩, _, rfl, rfl⟩
def y_M_unseal : MethodName := ⟨"VoteAuctionsModel", "unseal", "(IIII)I"⟩
abbrev b_M_unseal : ByteArray := prog_5_method_44_code
set_option maxRecDepth 100000 in
theorem m_M_unseal : ax_mv y_M_unseal b_M_unseal 6 (some (.int)) 4 3 := ⟨ax_tc4 (i := 59) rfl (by decide +kernel), ax_tw (i := 777) (by decide +kernel) (by decide +kernel), ax_tw (i := 778) (by decide +kernel) (by decide +kernel), ax_tw (i := 2) (by decide +kernel) (by decide +kernel), ⟨by decide +kernel, by decide +kernel, by decide +kernel⟩, _, rfl, rfl⟩
def y_M_take : MethodName := ⟨"VoteAuctionsModel", "take", "(II)I"⟩
abbrev b_M_take : ByteArray := prog_5_method_46_code
set_option maxRecDepth 100000 in
theorem m_M_take : ax_mv y_M_take b_M_take 3 (some (.int)) 2 3 := ⟨ax_tc4 (i := 63) rfl (by decide +kernel), ax_tw (i := 781) (by decide +kernel) (by decide +kernel), ax_tw (i := 782) (by decide +kernel) (by decide +kernel), ax_tw (i := 2) (by decide +kernel) (by decide +kernel), ⟨by decide +kernel, by decide +kernel, by decide +kernel⟩, _, rfl, rfl⟩
def y_M_nowPrice : MethodName := ⟨"VoteAuctionsModel", "nowPrice", "(I)J"⟩
abbrev b_M_nowPrice : ByteArray := prog_5_method_45_code
set_option maxRecDepth 100000 in
theorem m_M_nowPrice : ax_mv y_M_nowPrice b_M_nowPrice 2 (some (.long)) 1 3 := ⟨ax_tc4 (i := 67) rfl (by decide +kernel), ax_tw (i := 786) (by decide +kernel) (by decide +kernel), ax_ts0 (i := 47) (by decide +kernel) (by decide +kernel), ax_tw (i := 2) (by decide +kernel) (by decide +kernel), ⟨by decide +kernel, by decide +kernel, by decide +kernel⟩, _, rfl, rfl⟩
def y_M_price : MethodName := ⟨"VoteAuctionsModel", "price", "(I)I"⟩
abbrev b_M_price : ByteArray := prog_5_method_49_code
set_option maxRecDepth 100000 in
theorem m_M_price : ax_mv y_M_price b_M_price 4 (some (.int)) 1 3 := ⟨ax_tc4 (i := 71) rfl (by decide +kernel), ax_tw (i := 789) (by decide +kernel) (by decide +kernel), ax_tw (i := 790) (by decide +kernel) (by decide +kernel), ax_tw (i := 2) (by decide +kernel) (by decide +kernel), ⟨by decide +kernel, by decide +kernel, by decide +kernel⟩, _, rfl, rfl⟩
def y_M_won : MethodName := ⟨"VoteAuctionsModel", "won", "(II)I"⟩
abbrev b_M_won : ByteArray := prog_5_method_50_code
set_option maxRecDepth 100000 in
theorem m_M_won : ax_mv y_M_won b_M_won 3 (some (.int)) 2 3 := ⟨ax_tc4 (i := 75) rfl (by decide +kernel), ax_tw (i := 793) (by decide +kernel) (by decide +kernel), ax_tw (i := 794) (by decide +kernel) (by decide +kernel), ax_tw (i := 2) (by decide +kernel) (by decide +kernel), ⟨by decide +kernel, by decide +kernel, by decide +kernel⟩, _, rfl, rfl⟩
theorem l_L_9 : ax_ml "VoteAuctionsLaw" 9 y_V_init := Or.inl (ax_tw (i := 9) (by decide +kernel) (by decide +kernel))
theorem l_L_13 : ax_ml "VoteAuctionsLaw" 13 y_V_account := Or.inl (ax_tw (i := 67) (by decide +kernel) (by decide +kernel))
theorem l_V_44 : ax_ml "VoteAuctions" 44 y_V_isOutside := Or.inl (ax_tw (i := 71) (by decide +kernel) (by decide +kernel))
theorem l_L_18 : ax_ml "VoteAuctionsLaw" 18 y_V_weigh := Or.inl (ax_tw (i := 75) (by decide +kernel) (by decide +kernel))
theorem l_V_53 : ax_ml "VoteAuctions" 53 y_V_isNoAccount := Or.inl (ax_tw (i := 79) (by decide +kernel) (by decide +kernel))
theorem l_L_22 : ax_ml "VoteAuctionsLaw" 22 y_V_fund := Or.inl (ax_tw (i := 83) (by decide +kernel) (by decide +kernel))
theorem l_L_26 : ax_ml "VoteAuctionsLaw" 26 y_V_speak := Or.inl (ax_tw (i := 88) (by decide +kernel) (by decide +kernel))
theorem l_L_30 : ax_ml "VoteAuctionsLaw" 30 y_V_holds := Or.inl (ax_tw (i := 92) (by decide +kernel) (by decide +kernel))
theorem l_L_35 : ax_ml "VoteAuctionsLaw" 35 y_V_pot := Or.inl (ax_tw (i := 98) (by decide +kernel) (by decide +kernel))
theorem l_L_40 : ax_ml "VoteAuctionsLaw" 40 y_V_tick := Or.inl (ax_tw (i := 102) (by decide +kernel) (by decide +kernel))
theorem l_V_69 : ax_ml "VoteAuctions" 69 y_V_endQuestions := Or.inl (ax_tw (i := 106) (by decide +kernel) (by decide +kernel))
theorem l_V_72 : ax_ml "VoteAuctions" 72 y_V_endAuctions := Or.inl (ax_tw (i := 113) (by decide +kernel) (by decide +kernel))
theorem l_V_285 : ax_ml "VoteAuctions" 285 y_V_endAuction := Or.inl (ax_tw (i := 117) (by decide +kernel) (by decide +kernel))
theorem l_V_211 : ax_ml "VoteAuctions" 211 y_A_isSealed := Or.inr ⟨"VoteAuctions", ax_tn (i := 121) (by decide +kernel) (by decide +kernel)⟩
theorem l_V_289 : ax_ml "VoteAuctions" 289 y_V_payUnopened := Or.inl (ax_tw (i := 126) (by decide +kernel) (by decide +kernel))
theorem l_V_223 : ax_ml "VoteAuctions" 223 y_V_payAside := Or.inl (ax_tw (i := 130) (by decide +kernel) (by decide +kernel))
theorem l_V_292 : ax_ml "VoteAuctions" 292 y_V_shareUnits := Or.inl (ax_tw (i := 134) (by decide +kernel) (by decide +kernel))
theorem l_V_295 : ax_ml "VoteAuctions" 295 y_A_bestWithout := Or.inr ⟨"VoteAuctions", ax_tn (i := 137) (by decide +kernel) (by decide +kernel)⟩
theorem l_A_53 : ax_ml "VoteAuctions$Auction" 53 y_A_isAhead := Or.inl (ax_tw (i := 141) (by decide +kernel) (by decide +kernel))
theorem l_V_299 : ax_ml "VoteAuctions" 299 y_V_settleBids := Or.inl (ax_tw (i := 148) (by decide +kernel) (by decide +kernel))
theorem l_V_180 : ax_ml "VoteAuctions" 180 y_A_costOf := Or.inr ⟨"VoteAuctions", ax_tn (i := 152) (by decide +kernel) (by decide +kernel)⟩
theorem l_V_216 : ax_ml "VoteAuctions" 216 y_V_giveBack := Or.inl (ax_tw (i := 156) (by decide +kernel) (by decide +kernel))
theorem l_L_45 : ax_ml "VoteAuctionsLaw" 45 y_V_mark := Or.inl (ax_tw (i := 160) (by decide +kernel) (by decide +kernel))
theorem l_L_50 : ax_ml "VoteAuctionsLaw" 50 y_V_question := Or.inl (ax_tw (i := 166) (by decide +kernel) (by decide +kernel))
theorem l_V_82 : ax_ml "VoteAuctions" 82 y_Q_init := Or.inr ⟨"VoteAuctions", ax_tn (i := 171) (by decide +kernel) (by decide +kernel)⟩
theorem l_L_55 : ax_ml "VoteAuctionsLaw" 55 y_V_call := Or.inl (ax_tw (i := 230) (by decide +kernel) (by decide +kernel))
theorem l_V_92 : ax_ml "VoteAuctions" 92 y_V_questionAt := Or.inl (ax_tw (i := 234) (by decide +kernel) (by decide +kernel))
theorem l_L_60 : ax_ml "VoteAuctionsLaw" 60 y_V_vote := Or.inl (ax_tw (i := 238) (by decide +kernel) (by decide +kernel))
theorem l_V_111 : ax_ml "VoteAuctions" 111 y_V_isVote := Or.inl (ax_tw (i := 242) (by decide +kernel) (by decide +kernel))
theorem l_V_229 : ax_ml "VoteAuctions" 229 y_V_isRanks := Or.inl (ax_tw (i := 245) (by decide +kernel) (by decide +kernel))
theorem l_V_236 : ax_ml "VoteAuctions" 236 y_V_hasChoice := Or.inl (ax_tw (i := 248) (by decide +kernel) (by decide +kernel))
theorem l_V_233 : ax_ml "VoteAuctions" 233 y_V_isStrengths := Or.inl (ax_tw (i := 251) (by decide +kernel) (by decide +kernel))
theorem l_V_239 : ax_ml "VoteAuctions" 239 y_V_strengthOf := Or.inl (ax_tw (i := 254) (by decide +kernel) (by decide +kernel))
theorem l_V_115 : ax_ml "VoteAuctions" 115 y_Q_isHidden := Or.inr ⟨"VoteAuctions", ax_tn (i := 257) (by decide +kernel) (by decide +kernel)⟩
theorem l_L_67 : ax_ml "VoteAuctionsLaw" 67 y_V_hide := Or.inl (ax_tw (i := 261) (by decide +kernel) (by decide +kernel))
theorem l_L_72 : ax_ml "VoteAuctionsLaw" 72 y_V_reveal := Or.inl (ax_tw (i := 265) (by decide +kernel) (by decide +kernel))
theorem l_V_129 : ax_ml "VoteAuctions" 129 y_V_mark := Or.inl (ax_tw (i := 269) (by decide +kernel) (by decide +kernel))
theorem l_L_76 : ax_ml "VoteAuctionsLaw" 76 y_V_count := Or.inl (ax_tw (i := 270) (by decide +kernel) (by decide +kernel))
theorem l_V_136 : ax_ml "VoteAuctions" 136 y_V_countVotes := Or.inl (ax_tw (i := 274) (by decide +kernel) (by decide +kernel))
theorem l_V_243 : ax_ml "VoteAuctions" 243 y_V_findVoices := Or.inl (ax_tw (i := 278) (by decide +kernel) (by decide +kernel))
theorem l_V_257 : ax_ml "VoteAuctions" 257 y_V_voiceOf := Or.inl (ax_tw (i := 282) (by decide +kernel) (by decide +kernel))
theorem l_V_246 : ax_ml "VoteAuctions" 246 y_V_countRound := Or.inl (ax_tw (i := 286) (by decide +kernel) (by decide +kernel))
theorem l_V_263 : ax_ml "VoteAuctions" 263 y_V_shareOf := Or.inl (ax_tw (i := 290) (by decide +kernel) (by decide +kernel))
theorem l_V_267 : ax_ml "VoteAuctions" 267 y_V_firstOfRanks := Or.inl (ax_tw (i := 293) (by decide +kernel) (by decide +kernel))
theorem l_V_250 : ax_ml "VoteAuctions" 250 y_V_hasMoreThanHalf := Or.inl (ax_tw (i := 296) (by decide +kernel) (by decide +kernel))
theorem l_V_253 : ax_ml "VoteAuctions" 253 y_V_leastCounted := Or.inl (ax_tw (i := 303) (by decide +kernel) (by decide +kernel))
theorem l_L_80 : ax_ml "VoteAuctionsLaw" 80 y_V_fallen := Or.inl (ax_tw (i := 308) (by decide +kernel) (by decide +kernel))
theorem l_L_84 : ax_ml "VoteAuctionsLaw" 84 y_V_winner := Or.inl (ax_tw (i := 312) (by decide +kernel) (by decide +kernel))
theorem l_V_146 : ax_ml "VoteAuctions" 146 y_V_mostCounted := Or.inl (ax_tw (i := 316) (by decide +kernel) (by decide +kernel))
theorem l_L_88 : ax_ml "VoteAuctionsLaw" 88 y_V_passed := Or.inl (ax_tw (i := 320) (by decide +kernel) (by decide +kernel))
theorem l_V_150 : ax_ml "VoteAuctions" 150 y_V_isPassed := Or.inl (ax_tw (i := 324) (by decide +kernel) (by decide +kernel))
theorem l_L_92 : ax_ml "VoteAuctionsLaw" 92 y_V_run := Or.inl (ax_tw (i := 328) (by decide +kernel) (by decide +kernel))
theorem l_L_96 : ax_ml "VoteAuctionsLaw" 96 y_V_auction := Or.inl (ax_tw (i := 332) (by decide +kernel) (by decide +kernel))
theorem l_V_161 : ax_ml "VoteAuctions" 161 y_A_init := Or.inr ⟨"VoteAuctions", ax_tn (i := 336) (by decide +kernel) (by decide +kernel)⟩
theorem l_L_100 : ax_ml "VoteAuctionsLaw" 100 y_V_bid := Or.inl (ax_tw (i := 395) (by decide +kernel) (by decide +kernel))
theorem l_V_164 : ax_ml "VoteAuctions" 164 y_V_auctionAt := Or.inl (ax_tw (i := 399) (by decide +kernel) (by decide +kernel))
theorem l_V_176 : ax_ml "VoteAuctions" 176 y_V_isBelowStep := Or.inl (ax_tw (i := 403) (by decide +kernel) (by decide +kernel))
theorem l_V_187 : ax_ml "VoteAuctions" 187 y_V_dropBid := Or.inl (ax_tw (i := 406) (by decide +kernel) (by decide +kernel))
theorem l_V_194 : ax_ml "VoteAuctions" 194 y_A_tell := Or.inr ⟨"VoteAuctions", ax_tn (i := 410) (by decide +kernel) (by decide +kernel)⟩
theorem l_V_204 : ax_ml "VoteAuctions" 204 y_V_setAside := Or.inl (ax_tw (i := 414) (by decide +kernel) (by decide +kernel))
theorem l_L_104 : ax_ml "VoteAuctionsLaw" 104 y_V_seal := Or.inl (ax_tw (i := 418) (by decide +kernel) (by decide +kernel))
theorem l_L_108 : ax_ml "VoteAuctionsLaw" 108 y_V_unseal := Or.inl (ax_tw (i := 422) (by decide +kernel) (by decide +kernel))
theorem l_L_112 : ax_ml "VoteAuctionsLaw" 112 y_V_take := Or.inl (ax_tw (i := 426) (by decide +kernel) (by decide +kernel))
theorem l_V_219 : ax_ml "VoteAuctions" 219 y_V_fallingPrice := Or.inl (ax_tw (i := 430) (by decide +kernel) (by decide +kernel))
theorem l_L_116 : ax_ml "VoteAuctionsLaw" 116 y_V_price := Or.inl (ax_tw (i := 434) (by decide +kernel) (by decide +kernel))
theorem l_L_120 : ax_ml "VoteAuctionsLaw" 120 y_V_won := Or.inl (ax_tw (i := 438) (by decide +kernel) (by decide +kernel))
theorem l_L_12 : ax_ml "VoteAuctionsLaw" 12 y_M_init := Or.inl (ax_tw (i := 444) (by decide +kernel) (by decide +kernel))
theorem l_L_17 : ax_ml "VoteAuctionsLaw" 17 y_M_account := Or.inl (ax_tw (i := 598) (by decide +kernel) (by decide +kernel))
theorem l_M_139 : ax_ml "VoteAuctionsModel" 139 y_M_isIn := Or.inl (ax_tw (i := 602) (by decide +kernel) (by decide +kernel))
theorem l_L_21 : ax_ml "VoteAuctionsLaw" 21 y_M_weigh := Or.inl (ax_tw (i := 606) (by decide +kernel) (by decide +kernel))
theorem l_M_143 : ax_ml "VoteAuctionsModel" 143 y_M_isAccount := Or.inl (ax_tw (i := 610) (by decide +kernel) (by decide +kernel))
theorem l_L_25 : ax_ml "VoteAuctionsLaw" 25 y_M_fund := Or.inl (ax_tw (i := 614) (by decide +kernel) (by decide +kernel))
theorem l_L_29 : ax_ml "VoteAuctionsLaw" 29 y_M_speak := Or.inl (ax_tw (i := 619) (by decide +kernel) (by decide +kernel))
theorem l_L_34 : ax_ml "VoteAuctionsLaw" 34 y_M_holds := Or.inl (ax_tw (i := 623) (by decide +kernel) (by decide +kernel))
theorem l_L_39 : ax_ml "VoteAuctionsLaw" 39 y_M_pot := Or.inl (ax_tw (i := 629) (by decide +kernel) (by decide +kernel))
theorem l_L_44 : ax_ml "VoteAuctionsLaw" 44 y_M_tick := Or.inl (ax_tw (i := 633) (by decide +kernel) (by decide +kernel))
theorem l_M_165 : ax_ml "VoteAuctionsModel" 165 y_M_end := Or.inl (ax_tw (i := 637) (by decide +kernel) (by decide +kernel))
theorem l_M_251 : ax_ml "VoteAuctionsModel" 251 y_M_endUnits := Or.inl (ax_tw (i := 641) (by decide +kernel) (by decide +kernel))
theorem l_M_234 : ax_ml "VoteAuctionsModel" 234 y_M_greatest := Or.inl (ax_tw (i := 645) (by decide +kernel) (by decide +kernel))
theorem l_M_237 : ax_ml "VoteAuctionsModel" 237 y_M_costOf := Or.inl (ax_tw (i := 649) (by decide +kernel) (by decide +kernel))
theorem l_M_254 : ax_ml "VoteAuctionsModel" 254 y_M_pay := Or.inl (ax_tw (i := 653) (by decide +kernel) (by decide +kernel))
theorem l_M_241 : ax_ml "VoteAuctionsModel" 241 y_M_setAside := Or.inl (ax_tw (i := 657) (by decide +kernel) (by decide +kernel))
theorem l_L_49 : ax_ml "VoteAuctionsLaw" 49 y_M_mark := Or.inl (ax_tw (i := 661) (by decide +kernel) (by decide +kernel))
theorem l_L_54 : ax_ml "VoteAuctionsLaw" 54 y_M_question := Or.inl (ax_tw (i := 667) (by decide +kernel) (by decide +kernel))
theorem l_L_59 : ax_ml "VoteAuctionsLaw" 59 y_M_call := Or.inl (ax_tw (i := 671) (by decide +kernel) (by decide +kernel))
theorem l_M_173 : ax_ml "VoteAuctionsModel" 173 y_M_isQuestion := Or.inl (ax_tw (i := 675) (by decide +kernel) (by decide +kernel))
theorem l_L_64 : ax_ml "VoteAuctionsLaw" 64 y_M_vote := Or.inl (ax_tw (i := 679) (by decide +kernel) (by decide +kernel))
theorem l_M_180 : ax_ml "VoteAuctionsModel" 180 y_M_isVote := Or.inl (ax_tw (i := 683) (by decide +kernel) (by decide +kernel))
theorem l_M_176 : ax_ml "VoteAuctionsModel" 176 y_M_isRanks := Or.inl (ax_tw (i := 687) (by decide +kernel) (by decide +kernel))
theorem l_M_183 : ax_ml "VoteAuctionsModel" 183 y_M_isHidden := Or.inl (ax_tw (i := 690) (by decide +kernel) (by decide +kernel))
theorem l_L_71 : ax_ml "VoteAuctionsLaw" 71 y_M_hide := Or.inl (ax_tw (i := 694) (by decide +kernel) (by decide +kernel))
theorem l_L_75 : ax_ml "VoteAuctionsLaw" 75 y_M_reveal := Or.inl (ax_tw (i := 698) (by decide +kernel) (by decide +kernel))
theorem l_M_186 : ax_ml "VoteAuctionsModel" 186 y_M_mark := Or.inl (ax_tw (i := 702) (by decide +kernel) (by decide +kernel))
theorem l_L_79 : ax_ml "VoteAuctionsLaw" 79 y_M_count := Or.inl (ax_tw (i := 703) (by decide +kernel) (by decide +kernel))
theorem l_M_217 : ax_ml "VoteAuctionsModel" 217 y_M_findCounts := Or.inl (ax_tw (i := 707) (by decide +kernel) (by decide +kernel))
theorem l_M_194 : ax_ml "VoteAuctionsModel" 194 y_M_findVoices := Or.inl (ax_tw (i := 711) (by decide +kernel) (by decide +kernel))
theorem l_M_190 : ax_ml "VoteAuctionsModel" 190 y_M_speakerOf := Or.inl (ax_tw (i := 715) (by decide +kernel) (by decide +kernel))
theorem l_M_203 : ax_ml "VoteAuctionsModel" 203 y_M_weightOf := Or.inl (ax_tw (i := 719) (by decide +kernel) (by decide +kernel))
theorem l_M_206 : ax_ml "VoteAuctionsModel" 206 y_M_runOff := Or.inl (ax_tw (i := 723) (by decide +kernel) (by decide +kernel))
theorem l_M_213 : ax_ml "VoteAuctionsModel" 213 y_M_rankOf := Or.inl (ax_tw (i := 727) (by decide +kernel) (by decide +kernel))
theorem l_L_83 : ax_ml "VoteAuctionsLaw" 83 y_M_fallen := Or.inl (ax_tw (i := 731) (by decide +kernel) (by decide +kernel))
theorem l_L_87 : ax_ml "VoteAuctionsLaw" 87 y_M_winner := Or.inl (ax_tw (i := 735) (by decide +kernel) (by decide +kernel))
theorem l_M_220 : ax_ml "VoteAuctionsModel" 220 y_M_first := Or.inl (ax_tw (i := 739) (by decide +kernel) (by decide +kernel))
theorem l_L_91 : ax_ml "VoteAuctionsLaw" 91 y_M_passed := Or.inl (ax_tw (i := 743) (by decide +kernel) (by decide +kernel))
theorem l_M_223 : ax_ml "VoteAuctionsModel" 223 y_M_isPassed := Or.inl (ax_tw (i := 747) (by decide +kernel) (by decide +kernel))
theorem l_L_95 : ax_ml "VoteAuctionsLaw" 95 y_M_run := Or.inl (ax_tw (i := 751) (by decide +kernel) (by decide +kernel))
theorem l_L_99 : ax_ml "VoteAuctionsLaw" 99 y_M_auction := Or.inl (ax_tw (i := 755) (by decide +kernel) (by decide +kernel))
theorem l_L_103 : ax_ml "VoteAuctionsLaw" 103 y_M_bid := Or.inl (ax_tw (i := 760) (by decide +kernel) (by decide +kernel))
theorem l_M_228 : ax_ml "VoteAuctionsModel" 228 y_M_isAuction := Or.inl (ax_tw (i := 764) (by decide +kernel) (by decide +kernel))
theorem l_M_231 : ax_ml "VoteAuctionsModel" 231 y_M_isOver := Or.inl (ax_tw (i := 768) (by decide +kernel) (by decide +kernel))
theorem l_L_107 : ax_ml "VoteAuctionsLaw" 107 y_M_seal := Or.inl (ax_tw (i := 772) (by decide +kernel) (by decide +kernel))
theorem l_L_111 : ax_ml "VoteAuctionsLaw" 111 y_M_unseal := Or.inl (ax_tw (i := 776) (by decide +kernel) (by decide +kernel))
theorem l_L_115 : ax_ml "VoteAuctionsLaw" 115 y_M_take := Or.inl (ax_tw (i := 780) (by decide +kernel) (by decide +kernel))
theorem l_M_248 : ax_ml "VoteAuctionsModel" 248 y_M_nowPrice := Or.inl (ax_tw (i := 784) (by decide +kernel) (by decide +kernel))
theorem l_L_119 : ax_ml "VoteAuctionsLaw" 119 y_M_price := Or.inl (ax_tw (i := 788) (by decide +kernel) (by decide +kernel))
theorem l_L_123 : ax_ml "VoteAuctionsLaw" 123 y_M_won := Or.inl (ax_tw (i := 792) (by decide +kernel) (by decide +kernel))
theorem j_L_7 : Cond.classLink "VoteAuctionsLaw" 7 "VoteAuctions" ∈ ax_ws := ax_tw (i := 7) (by decide +kernel) (by decide +kernel)
theorem j_V_23 : Cond.classLink "VoteAuctions" 23 "VoteAuctions$Question" ∈ ax_ws := ax_tw (i := 15) (by decide +kernel) (by decide +kernel)
theorem j_V_29 : Cond.classLink "VoteAuctions" 29 "VoteAuctions$Auction" ∈ ax_ws := ax_tw (i := 17) (by decide +kernel) (by decide +kernel)
theorem a_0 : Cond.arrayClass (ax_el 0) ∈ ax_ws := ax_tw (i := 65) (by decide +kernel) (by decide +kernel)
theorem a_1 : Cond.arrayClass (ax_el 1) ∈ ax_ws := ax_tw (i := 66) (by decide +kernel) (by decide +kernel)
theorem n_V_48 : Cond.constant "VoteAuctions" 48 (1000000) ∈ ax_ws := ax_tw (i := 74) (by decide +kernel) (by decide +kernel)
theorem n_V_57 : Cond.constant "VoteAuctions" 57 (100000) ∈ ax_ws := ax_tw (i := 87) (by decide +kernel) (by decide +kernel)
theorem n_V_58 : Cond.constantLong "VoteAuctions" 58 (-1) ∈ ax_ws := ax_tw (i := 96) (by decide +kernel) (by decide +kernel)
theorem n_V_60 : Cond.constantLong "VoteAuctions" 60 (-2) ∈ ax_ws := ax_tw (i := 97) (by decide +kernel) (by decide +kernel)
theorem n_V_75 : Cond.constantLong "VoteAuctions" 75 (-7046029254386353131) ∈ ax_ws := ax_tw (i := 164) (by decide +kernel) (by decide +kernel)
theorem n_V_77 : Cond.constantLong "VoteAuctions" 77 (-4658895280553007687) ∈ ax_ws := ax_tw (i := 165) (by decide +kernel) (by decide +kernel)
theorem a_2 : Cond.arrayClass (ax_el 2) ∈ ax_ws := ax_tw (i := 229) (by decide +kernel) (by decide +kernel)
theorem n_V_278 : Cond.constant "VoteAuctions" 278 (2147483647) ∈ ax_ws := ax_tw (i := 307) (by decide +kernel) (by decide +kernel)
theorem j_L_10 : Cond.classLink "VoteAuctionsLaw" 10 "VoteAuctionsModel" ∈ ax_ws := ax_tw (i := 442) (by decide +kernel) (by decide +kernel)
theorem n_M_142 : Cond.constant "VoteAuctionsModel" 142 (1000000) ∈ ax_ws := ax_tw (i := 605) (by decide +kernel) (by decide +kernel)
theorem n_M_147 : Cond.constant "VoteAuctionsModel" 147 (100000) ∈ ax_ws := ax_tw (i := 618) (by decide +kernel) (by decide +kernel)
theorem n_M_148 : Cond.constantLong "VoteAuctionsModel" 148 (-1) ∈ ax_ws := ax_tw (i := 627) (by decide +kernel) (by decide +kernel)
theorem n_M_150 : Cond.constantLong "VoteAuctionsModel" 150 (-2) ∈ ax_ws := ax_tw (i := 628) (by decide +kernel) (by decide +kernel)
theorem n_M_169 : Cond.constantLong "VoteAuctionsModel" 169 (-7046029254386353131) ∈ ax_ws := ax_tw (i := 665) (by decide +kernel) (by decide +kernel)
theorem n_M_171 : Cond.constantLong "VoteAuctionsModel" 171 (-4658895280553007687) ∈ ax_ws := ax_tw (i := 666) (by decide +kernel) (by decide +kernel)
theorem n_M_226 : Cond.constantLong "VoteAuctionsModel" 226 (-3) ∈ ax_ws := ax_tw (i := 759) (by decide +kernel) (by decide +kernel)
theorem n_L_65 : Cond.constantLong "VoteAuctionsLaw" 65 (4294967295) ∈ ax_ws := ax_tw (i := 796) (by decide +kernel) (by decide +kernel)
theorem x_native : Cond.native arraycopyName ∈ ax_ws := ax_tw (i := 112) (by decide +kernel) (by decide +kernel)
theorem x_static : Cond.static arraycopyName ∈ ax_ws := ax_tw (i := 111) (by decide +kernel) (by decide +kernel)
theorem x_sys : Cond.initialized "java/lang/System" ∈ ax_ws := ax_tw (i := 3) (by decide +kernel) (by decide +kernel)
theorem x_mth : Cond.initialized "java/lang/Math" ∈ ax_ws := ax_tw (i := 4) (by decide +kernel) (by decide +kernel)
theorem x_oi : Cond.instanceMethod Lib.objectInit ∈ ax_ws := ax_tw (i := 13) (by decide +kernel) (by decide +kernel)
set_option maxRecDepth 100000 in
theorem x_oc : Cond.code Lib.objectInit ⟨#[0xb1]⟩ 1 none ∈ ax_ws := ax_tc1 (i := 14) rfl (by decide +kernel)
set_option maxRecDepth 100000 in
theorem x_maxc : Cond.code Lib.Math.max.name Lib.Math.max.code 2 (some .int) ∈ ax_ws := ax_tc2 (i := 62) rfl (by decide +kernel)
theorem x_maxs : Cond.static Lib.Math.max.name ∈ ax_ws := ax_tw (i := 301) (by decide +kernel) (by decide +kernel)
set_option maxRecDepth 100000 in
theorem x_minc : Cond.code Lib.Math.min.name Lib.Math.min.code 2 (some .int) ∈ ax_ws := ax_tc1 (i := 147) rfl (by decide +kernel)
theorem x_mins : Cond.static Lib.Math.min.name ∈ ax_ws := ax_tw (i := 146) (by decide +kernel) (by decide +kernel)
theorem l_V_1 : Cond.methodLink "VoteAuctions" 1 Lib.objectInit ∈ ax_ws := ax_tw (i := 12) (by decide +kernel) (by decide +kernel)
theorem l_V_86 : Cond.methodLink "VoteAuctions" 86 arraycopyName ∈ ax_ws := ax_tw (i := 110) (by decide +kernel) (by decide +kernel)
theorem l_V_302 : Cond.methodLink "VoteAuctions" 302 Lib.Math.min.name ∈ ax_ws := ax_tw (i := 145) (by decide +kernel) (by decide +kernel)
theorem l_Q_3 : Cond.methodLink "VoteAuctions$Question" 3 Lib.objectInit ∈ ax_ws := ax_tw (i := 174) (by decide +kernel) (by decide +kernel)
theorem l_V_271 : Cond.methodLink "VoteAuctions" 271 Lib.Math.max.name ∈ ax_ws := ax_tw (i := 300) (by decide +kernel) (by decide +kernel)
theorem l_A_3 : Cond.methodLink "VoteAuctions$Auction" 3 Lib.objectInit ∈ ax_ws := ax_tw (i := 339) (by decide +kernel) (by decide +kernel)
theorem l_M_1 : Cond.methodLink "VoteAuctionsModel" 1 Lib.objectInit ∈ ax_ws := ax_tw (i := 447) (by decide +kernel) (by decide +kernel)
end
section
/-! THE MEMORY: ints, longs and references by id and place, and what an id is (inl: an object of a class; inr: an array of a kind and a length). Ids are mine; 'ad' takes an id to its cell. -/
abbrev ax_X : Type := Nat ⊕ Nat × Nat
abbrev ax_M : Type := (Nat → Nat → Int32) × (Nat → Nat → Int64) × (Nat → Nat → Option Nat) × (Nat → Option ax_X)
def ax_i (M : ax_M) (a k : Nat) : Int32 := M.1 a k
def ax_l (M : ax_M) (a k : Nat) : Int64 := M.2.1 a k
def ax_r (M : ax_M) (a k : Nat) : Option Nat := M.2.2.1 a k
def ax_s (M : ax_M) (a : Nat) : Option ax_X := M.2.2.2 a
def ax_wi (M : ax_M) (a k : Nat) (v : Int32) : ax_M := (fun b j => if b = a ∧ j = k then v else M.1 b j, M.2.1, M.2.2.1, M.2.2.2)
def ax_wl (M : ax_M) (a k : Nat) (v : Int64) : ax_M := (M.1, fun b j => if b = a ∧ j = k then v else M.2.1 b j, M.2.2.1, M.2.2.2)
def ax_wr (M : ax_M) (a k : Nat) (v : Option Nat) : ax_M := (M.1, M.2.1, fun b j => if b = a ∧ j = k then v else M.2.2.1 b j, M.2.2.2)
/-- a new cell -/
def ax_wn (M : ax_M) (a : Nat) (x : ax_X) : ax_M := (fun b j => if b = a then 0 else M.1 b j, fun b j => if b = a then 0 else M.2.1 b j, fun b j => if b = a then none else M.2.2.1 b j, fun b => if b = a then some x else M.2.2.2 b)
/-- a cell is forgotten -/
def ax_wd (M : ax_M) (a : Nat) : ax_M := (M.1, M.2.1, M.2.2.1, fun b => if b = a then none else M.2.2.2 b)
/-- ints are copied from an array to another -/
def ax_wc (M : ax_M) (a b sp dp n : Nat) : ax_M := (fun q j => if q = b then va_cpy (M.1 a) (M.1 b) sp dp n j else M.1 q j, M.2.1, M.2.2.1, M.2.2.2)
section
variable (M : ax_M) (a b k j : Nat)
theorem ax_i_wi (v : Int32) : ax_i (ax_wi M a k v) b j = if b = a ∧ j = k then v else ax_i M b j := rfl
theorem ax_l_wi (v : Int32) : ax_l (ax_wi M a k v) b j = ax_l M b j := rfl
theorem ax_r_wi (v : Int32) : ax_r (ax_wi M a k v) b j = ax_r M b j := rfl
theorem ax_s_wi (v : Int32) : ax_s (ax_wi M a k v) b = ax_s M b := rfl
theorem ax_i_wl (v : Int64) : ax_i (ax_wl M a k v) b j = ax_i M b j := rfl
theorem ax_l_wl (v : Int64) : ax_l (ax_wl M a k v) b j = if b = a ∧ j = k then v else ax_l M b j := rfl
theorem ax_r_wl (v : Int64) : ax_r (ax_wl M a k v) b j = ax_r M b j := rfl
theorem ax_s_wl (v : Int64) : ax_s (ax_wl M a k v) b = ax_s M b := rfl
theorem ax_i_wr (v : Option Nat) : ax_i (ax_wr M a k v) b j = ax_i M b j := rfl
theorem ax_l_wr (v : Option Nat) : ax_l (ax_wr M a k v) b j = ax_l M b j := rfl
theorem ax_r_wr (v : Option Nat) : ax_r (ax_wr M a k v) b j = if b = a ∧ j = k then v else ax_r M b j := rfl
theorem ax_s_wr (v : Option Nat) : ax_s (ax_wr M a k v) b = ax_s M b := rfl
theorem ax_i_wn (x : ax_X) : ax_i (ax_wn M a x) b j = if b = a then 0 else ax_i M b j := rfl
theorem ax_l_wn (x : ax_X) : ax_l (ax_wn M a x) b j = if b = a then 0 else ax_l M b j := rfl
theorem ax_r_wn (x : ax_X) : ax_r (ax_wn M a x) b j = if b = a then none else ax_r M b j := rfl
theorem ax_s_wn (x : ax_X) : ax_s (ax_wn M a x) b = if b = a then some x else ax_s M b := rfl
theorem ax_i_wd : ax_i (ax_wd M a) b j = ax_i M b j := rfl
theorem ax_l_wd : ax_l (ax_wd M a) b j = ax_l M b j := rfl
theorem ax_r_wd : ax_r (ax_wd M a) b j = ax_r M b j := rfl
theorem ax_s_wd : ax_s (ax_wd M a) b = if b = a then none else ax_s M b := rfl
theorem ax_i_wc (sp dp n : Nat) : ax_i (ax_wc M a k sp dp n) b j = if b = k then va_cpy (ax_i M a) (ax_i M k) sp dp n j else ax_i M b j := rfl
theorem ax_l_wc (sp dp n : Nat) : ax_l (ax_wc M a k sp dp n) b j = ax_l M b j := rfl
theorem ax_r_wc (sp dp n : Nat) : ax_r (ax_wc M a k sp dp n) b j = ax_r M b j := rfl
theorem ax_s_wc (sp dp n : Nat) : ax_s (ax_wc M a k sp dp n) b = ax_s M b := rfl
end
/-- an object of class ci -/
def ax_ob (M : ax_M) (ci : Nat) (o : Option Nat) : Option Nat := o.bind fun a => if ax_s M a = some (.inl ci) then some a else none
/-- a place in an array of kind t -/
def ax_ix (M : ax_M) (t : Nat) (o : Option Nat) (i : Int32) : Option (Nat × Nat) := o.bind fun a => match ax_s M a with
  | some (.inr (t', n)) => if t' = t ∧ ¬ (i < 0 ∨ n ≤ i.toNatClampNeg) then some (a, i.toNatClampNeg) else none
  | _ => none
theorem ax_ob_some {M : ax_M} {ci a : Nat} (h : ax_s M a = some (.inl ci)) : ax_ob M ci (some a) = some a := by simp [ax_ob, h]
theorem ax_ob_inv {M : ax_M} {ci a : Nat} {o : Option Nat} (h : ax_ob M ci o = some a) : o = some a ∧ ax_s M a = some (.inl ci) := by
  cases o with
  | none => simp [ax_ob] at h
  | some b =>
    by_cases hb : ax_s M b = some (.inl ci)
    · simp [ax_ob, hb] at h
      subst h
      exact ⟨rfl, hb⟩
    · simp [ax_ob, hb] at h
theorem ax_ix_some {M : ax_M} {t a n : Nat} {i : Int32} (h : ax_s M a = some (.inr (t, n))) (hi : vp_in i n) : ax_ix M t (some a) i = some (a, i.toNatClampNeg) := by
  have hi' : ¬ (i < 0 ∨ n ≤ i.toNatClampNeg) := hi
  simp only [ax_ix, Option.bind_some, h]
  rw [if_pos ⟨trivial, hi'⟩]
theorem ax_ix_inv {M : ax_M} {t : Nat} {o : Option Nat} {i : Int32} {q : Nat × Nat} (h : ax_ix M t o i = some q) : ∃ n, o = some q.1 ∧ ax_s M q.1 = some (.inr (t, n)) ∧ vp_in i n ∧ q.2 = i.toNatClampNeg := by
  cases o with
  | none => simp [ax_ix] at h
  | some b =>
    simp only [ax_ix, Option.bind_some] at h
    split at h
    · next t' n hs =>
      by_cases hc : t' = t ∧ ¬ (i < 0 ∨ n ≤ i.toNatClampNeg)
      · rw [if_pos hc] at h
        cases h
        obtain ⟨rfl, h2⟩ := hc
        exact ⟨n, rfl, hs, h2, rfl⟩
      · rw [if_neg hc] at h
        cases h
    · cases h
theorem ax_bd {α β : Type} {x : Option α} {f : α → Option β} {r : β} (h : x.bind f = some r) : ∃ a, x = some a ∧ f a = some r := Option.bind_eq_some_iff.mp h
/-! reads and writes, each with its own guard -/
def ax_gi (M : ax_M) (ci k : Nat) (o : Option Nat) : Option Int32 := (ax_ob M ci o).map fun a => ax_i M a k
def ax_gl (M : ax_M) (ci k : Nat) (o : Option Nat) : Option Int64 := (ax_ob M ci o).map fun a => ax_l M a k
def ax_gr (M : ax_M) (ci k : Nat) (o : Option Nat) : Option (Option Nat) := (ax_ob M ci o).map fun a => ax_r M a k
def ax_pi (M : ax_M) (ci k : Nat) (o : Option Nat) (v : Int32) : Option ax_M := (ax_ob M ci o).map fun a => ax_wi M a k v
def ax_pl (M : ax_M) (ci k : Nat) (o : Option Nat) (v : Int64) : Option ax_M := (ax_ob M ci o).map fun a => ax_wl M a k v
/-- what may be written as a reference: null, or something that is there -/
def ax_lk (M : ax_M) (v : Option Nat) : Bool := match v with
  | none => true
  | some b => (ax_s M b).isSome
def ax_pr (M : ax_M) (ci k : Nat) (o v : Option Nat) : Option ax_M := if ax_lk M v = true then (ax_ob M ci o).map fun a => ax_wr M a k v else none
def ax_ri (M : ax_M) (t : Nat) (o : Option Nat) (i : Int32) : Option Int32 := (ax_ix M t o i).map fun q => ax_i M q.1 q.2
def ax_rl (M : ax_M) (t : Nat) (o : Option Nat) (i : Int32) : Option Int64 := (ax_ix M t o i).map fun q => ax_l M q.1 q.2
def ax_rr (M : ax_M) (t : Nat) (o : Option Nat) (i : Int32) : Option (Option Nat) := (ax_ix M t o i).map fun q => ax_r M q.1 q.2
def ax_ti (M : ax_M) (t : Nat) (o : Option Nat) (i v : Int32) : Option ax_M := (ax_ix M t o i).map fun q => ax_wi M q.1 q.2 v
def ax_tl (M : ax_M) (t : Nat) (o : Option Nat) (i : Int32) (v : Int64) : Option ax_M := (ax_ix M t o i).map fun q => ax_wl M q.1 q.2 v
/-- a reference into an array of objects of class ci -/
def ax_tr (M : ax_M) (t ci : Nat) (o : Option Nat) (i : Int32) (v : Option Nat) : Option ax_M := (ax_ob M ci v).bind fun _ => (ax_ix M t o i).map fun q => ax_wr M q.1 q.2 v
def ax_al (M : ax_M) (t : Nat) (o : Option Nat) : Option Int32 := o.bind fun a => match ax_s M a with
  | some (.inr (t', n)) => if t' = t then some (Int32.ofNat n) else none
  | _ => none
/-- ints are copied, all within -/
def ax_cp (M : ax_M) (t : Nat) (a : Option Nat) (sp : Int32) (b : Option Nat) (dp n : Int32) : Option ax_M := a.bind fun a => b.bind fun b => match ax_s M a, ax_s M b with
  | some (.inr (t0, n0)), some (.inr (t1, n1)) => if t0 = t ∧ t1 = t ∧ ¬ sp < 0 ∧ ¬ dp < 0 ∧ ¬ n < 0 ∧ sp.toNatClampNeg + n.toNatClampNeg ≤ n0 ∧ dp.toNatClampNeg + n.toNatClampNeg ≤ n1 then some (ax_wc M a b sp.toNatClampNeg dp.toNatClampNeg n.toNatClampNeg) else none
  | _, _ => none
theorem ax_al_inv {M : ax_M} {t : Nat} {o : Option Nat} {x : Int32} (h : ax_al M t o = some x) : ∃ a n, o = some a ∧ ax_s M a = some (.inr (t, n)) ∧ x = Int32.ofNat n := by
  cases o with
  | none => simp [ax_al] at h
  | some b =>
    simp only [ax_al, Option.bind_some] at h
    split at h
    · next t' n hs =>
      by_cases hc : t' = t
      · rw [if_pos hc] at h
        cases h
        exact ⟨b, n, rfl, by rw [hs, hc], rfl⟩
      · rw [if_neg hc] at h
        cases h
    · cases h
end
section
/-! HOW THE MEMORY LIES IN THE MACHINE'S HEAP -/
/-- a value with ids: an int, a long, a reference -/
abbrev ax_U : Type := Int32 ⊕ Int64 ⊕ Option Nat
abbrev ax_I (x : Int32) : ax_U := .inl x
abbrev ax_L (x : Int64) : ax_U := .inr (.inl x)
abbrev ax_O (o : Option Nat) : ax_U := .inr (.inr o)
def ax_ct (v : ax_U) : Nat := match v with
  | .inl _ => 1
  | .inr (.inl _) => 2
  | .inr (.inr _) => 1
/-- as the machine has it -/
def ax_v (ad : Nat → Nat) (v : ax_U) : Value := match v with
  | .inl x => .int x
  | .inr (.inl x) => .long x
  | .inr (.inr o) => va_rf (o.map ad)
theorem ax_v_rf (ad : Nat → Nat) (o : Option Nat) : ax_v ad (ax_O o) = va_rf (o.map ad) := rfl
theorem ax_v_cat (ad : Nat → Nat) (v : ax_U) : (ax_v ad v).category = ax_ct v := by
  rcases v with x | x | o
  · rfl
  · rfl
  · cases o <;> rfl
/-- what a field of a type shows -/
def ax_fv (M : ax_M) (ty : FieldType) (a k : Nat) : ax_U := match ty with
  | .long => ax_L (ax_l M a k)
  | .object _ => ax_O (ax_r M a k)
  | .array _ => ax_O (ax_r M a k)
  | _ => ax_I (ax_i M a k)
/-- what an array of a type holds -/
def ax_py (M : ax_M) (ad : Nat → Nat) (ty : FieldType) (a : Nat) : (Nat → Int32) ⊕ (Nat → Int64) ⊕ (Nat → UInt32) ⊕ (Nat → UInt64) ⊕ (Nat → Option Nat) := match ty with
  | .long => .inr (.inl (ax_l M a))
  | .object _ => .inr (.inr (.inr (.inr (fun j => (ax_r M a j).map ad))))
  | .array _ => .inr (.inr (.inr (.inr (fun j => (ax_r M a j).map ad))))
  | _ => .inl (ax_i M a)
/-- the classes' numbers, their slots, the array classes, the first address that is ours -/
abbrev ax_G : Type := (Nat → ClassId) × (Nat → Nat → Nat) × (Nat → ClassId) × Nat
abbrev ax_A (G : ax_G) : Nat → Prop := fun q => G.2.2.2 ≤ q
def ax_nf (ci : Nat) : Nat := match ax_cl[ci]? with
  | some q => q.2.2
  | none => 0
def ax_fs (M : ax_M) (ad : Nat → Nat) (ci a : Nat) : List Value := (List.range (ax_nf ci)).map fun k => ax_v ad (ax_fv M (ax_ty ci k) a k)
def ax_ce (G : ax_G) (ad : Nat → Nat) (M : ax_M) (a : Nat) (x : ax_X) : va_E := match x with
  | .inl ci => .inr (ci, ax_fs M ad ci a)
  | .inr (t, n) => .inl (G.2.2.1 t, n, ax_py M ad (ax_el t) a)
def ax_c1 (G : ax_G) (ad : Nat → Nat) (M : ax_M) (a : Nat) : va_E := ax_ce G ad M a ((ax_s M a).getD (.inl 0))
def ax_ls (G : ax_G) (ad : Nat → Nat) (M : ax_M) (dom : List Nat) : va_W := dom.map fun a => (ad a, ax_c1 G ad M a)
def ax_P (G : ax_G) (ad : Nat → Nat) (M : ax_M) (H : Heap) : Prop := ∃ dom : List Nat, dom.Nodup ∧ (∀ a, a ∈ dom ↔ ax_s M a ≠ none) ∧ va_P (G.1, G.2.1) ax_cl (ax_ls G ad M dom) H ∧ va_D (ax_A G) (ax_ls G ad M dom) ∧ ∀ a k b, a ∈ dom → ax_r M a k = some b → b ∈ dom
abbrev ax_ts (G : ax_G) : List (ClassId × FieldType) := (List.range ax_nt).map fun t => (G.2.2.1 t, ax_el t)
/-- the tables: classes, array classes, links to nest mates, arrays over classes -/
def ax_K (G : ax_G) (U : State) : Prop := va_K (G.1, G.2.1) ax_cl (ax_ts G) U ∧ (∀ w ∈ ax_nest, va_Nw w U) ∧ ∀ C ∈ ax_ao, va_AO C U
theorem ax_K.moved {G : ax_G} {s U : State} (hW : s.WarmedH U.vm) (h : ax_K G s) : ax_K G U :=
  ⟨va_K.moved hW.alike h.1, fun w hw => ax_nest_warm w hw hW (h.2.1 w hw), fun C hC => va_AO.moved hW.alike (h.2.2 C hC)⟩
theorem ax_K.same {G : ax_G} {u U : State} (e : u.vm = U.vm) (h : ax_K G u) : ax_K G U :=
  ⟨va_K.moved (by rw [e]; exact Vm.Alike.refl _) h.1, fun w hw => va_Nw.same (ax_nest_tab w hw) e (h.2.1 w hw), fun C hC => va_AO.moved (by rw [e]; exact Vm.Alike.refl _) (h.2.2 C hC)⟩
theorem ax_ls_at {G : ax_G} {ad : Nat → Nat} {M : ax_M} {dom : List Nat} {a : Nat} {x : ax_X} (h : a ∈ dom) (hs : ax_s M a = some x) : ∃ q : Nat, dom[q]? = some a ∧ (ax_ls G ad M dom)[q]? = some (ad a, ax_ce G ad M a x) := by
  obtain ⟨q, hq⟩ := List.getElem?_of_mem h
  refine ⟨q, hq, ?_⟩
  simp [ax_ls, hq, ax_c1, hs]
/-- an id's cell, in the list of all -/
theorem ax_P.at {G : ax_G} {ad : Nat → Nat} {M : ax_M} {H : Heap} {a : Nat} {x : ax_X} (h : ax_P G ad M H) (hs : ax_s M a = some x) : ∃ (dom : List Nat) (q : Nat), dom.Nodup ∧ (∀ a, a ∈ dom ↔ ax_s M a ≠ none) ∧ va_P (G.1, G.2.1) ax_cl (ax_ls G ad M dom) H ∧ va_D (ax_A G) (ax_ls G ad M dom) ∧ (∀ a k b, a ∈ dom → ax_r M a k = some b → b ∈ dom) ∧ dom[q]? = some a ∧ (ax_ls G ad M dom)[q]? = some (ad a, ax_ce G ad M a x) := by
  obtain ⟨dom, h1, h2, h3, h4, h5⟩ := h
  obtain ⟨q, hq, he⟩ := ax_ls_at (G := G) (ad := ad) ((h2 a).mpr (by rw [hs]; exact fun z => by cases z)) hs
  exact ⟨dom, q, h1, h2, h3, h4, h5, hq, he⟩
/-- one cell is written: the list of all behind it -/
theorem ax_ls_set {G : ax_G} {ad : Nat → Nat} {M M' : ax_M} {dom : List Nat} {q a : Nat} {x : ax_X} (hn : dom.Nodup) (hq : dom[q]? = some a) (hs : ax_s M' a = some x) (ho : ∀ b, b ≠ a → ax_c1 G ad M' b = ax_c1 G ad M b) : (ax_ls G ad M dom).set q (ad a, ax_ce G ad M' a x) = ax_ls G ad M' dom := by
  have hl : q < dom.length := (List.getElem?_eq_some_iff.mp hq).1
  have hqe : dom[q] = a := (List.getElem?_eq_some_iff.mp hq).2
  apply List.ext_getElem?
  intro i
  by_cases hi : i = q
  · subst hi
    rw [List.getElem?_set_self (by simpa [ax_ls] using hl)]
    simp [ax_ls, hq, ax_c1, hs]
  · rw [List.getElem?_set_ne (fun z => hi z.symm)]
    simp only [ax_ls, List.getElem?_map]
    cases hb : dom[i]? with
    | none => rfl
    | some b =>
      have hba : b ≠ a := fun z => hi (by
        have hil : i < dom.length := (List.getElem?_eq_some_iff.mp hb).1
        have hbe : dom[i] = b := (List.getElem?_eq_some_iff.mp hb).2
        exact (List.getElem_inj (h₀ := hil) (h₁ := hl) hn).mp (by rw [hbe, hqe, z]))
      simp [ho b hba]
theorem ax_rm_set {N k : Nat} {f g : Nat → Value} {v : Value} (hv : g k = v) (ho : ∀ j, j ≠ k → g j = f j) : ((List.range N).map f).set k v = (List.range N).map g := by
  apply List.ext_getElem?
  intro i
  by_cases hi : i = k
  · subst hi
    by_cases hl : i < N
    · rw [List.getElem?_set_self (by simpa using hl)]
      simp [hl, hv]
    · rw [List.getElem?_eq_none (by simp; omega), List.getElem?_eq_none (by simp; omega)]
  · rw [List.getElem?_set_ne (fun z => hi z.symm)]
    simp only [List.getElem?_map]
    cases hb : (List.range N)[i]? with
    | none => rfl
    | some b =>
      have hbi : b = i := by
        have := List.getElem?_eq_some_iff.mp hb
        obtain ⟨h1, h2⟩ := this
        simpa using h2.symm
      simp [ho b (by rw [hbi]; exact hi)]
theorem ax_fs_at {M : ax_M} {ad : Nat → Nat} {ci a k : Nat} (hk : k < ax_nf ci) : (ax_fs M ad ci a)[k]? = some (ax_v ad (ax_fv M (ax_ty ci k) a k)) := by
  simp [ax_fs, hk]
theorem ax_c1_congr {G : ax_G} {ad ad' : Nat → Nat} {M M' : ax_M} {b : Nat} (hi : ∀ j, ax_i M' b j = ax_i M b j) (hl : ∀ j, ax_l M' b j = ax_l M b j) (hr : ∀ j, ax_r M' b j = ax_r M b j) (hs : ax_s M' b = ax_s M b) (ha : ∀ j c, ax_r M b j = some c → ad' c = ad c) : ax_c1 G ad' M' b = ax_c1 G ad M b := by
  have ei : ax_i M' b = ax_i M b := funext hi
  have el : ax_l M' b = ax_l M b := funext hl
  have er : ∀ j, (ax_r M' b j).map ad' = (ax_r M b j).map ad := fun j => by
    rw [hr j]
    cases hc : ax_r M b j with
    | none => rfl
    | some c => simp [ha j c hc]
  have ef : ∀ ty k, ax_v ad' (ax_fv M' ty b k) = ax_v ad (ax_fv M ty b k) := fun ty k => by
    cases ty <;> simp only [ax_fv, hi, hl, ax_v_rf, er, ax_v]
  have ep : ∀ ty, ax_py M' ad' ty b = ax_py M ad ty b := fun ty => by
    cases ty <;> simp only [ax_py, ei, el, er]
  unfold ax_c1
  rw [hs]
  generalize (ax_s M b).getD (.inl 0) = x
  cases x with
  | inl ci =>
    simp only [ax_ce, ax_fs]
    congr 2
    exact List.map_congr_left (fun k _ => ef _ k)
  | inr q =>
    obtain ⟨t, n⟩ := q
    simp only [ax_ce, ep]
/-- a write that leaves shapes and links alone -/
theorem ax_P.write {G : ax_G} {ad : Nat → Nat} {M M' : ax_M} {H1 : Heap} {dom : List Nat} {q a : Nat} {x : ax_X} {E : va_E} (hn : dom.Nodup) (hm : ∀ a, a ∈ dom ↔ ax_s M a ≠ none) (hc : ∀ a k b, a ∈ dom → ax_r M' a k = some b → b ∈ dom) (hq : dom[q]? = some a) (hs : ∀ b, ax_s M' b = ax_s M b) (hx : ax_s M a = some x)
    (hi : ∀ b j, b ≠ a → ax_i M' b j = ax_i M b j) (hl : ∀ b j, b ≠ a → ax_l M' b j = ax_l M b j) (hr : ∀ b j, b ≠ a → ax_r M' b j = ax_r M b j) (hE : E = ax_ce G ad M' a x) (hP : va_P (G.1, G.2.1) ax_cl ((ax_ls G ad M dom).set q (ad a, E)) H1) (hD : va_D (ax_A G) ((ax_ls G ad M dom).set q (ad a, E))) : ax_P G ad M' H1 := by
  have e := ax_ls_set (G := G) (ad := ad) (M := M) (M' := M') hn hq ((hs a).trans hx) (fun b hb => ax_c1_congr (fun j => hi b j hb) (fun j => hl b j hb) (fun j => hr b j hb) (hs b) (fun _ _ _ => rfl))
  rw [hE, e] at hP hD
  exact ⟨dom, hn, fun b => by rw [hs b]; exact hm b, hP, hD, hc⟩
theorem ax_ts_at {G : ax_G} {t : Nat} (h : t < ax_nt) : (ax_ts G)[t]? = some (G.2.2.1 t, ax_el t) := by simp [ax_ts, h]
def ax_ki (ci k : Nat) : Bool := match ax_ty ci k with
  | .long => false
  | .object _ => false
  | .array _ => false
  | .float => false
  | .double => false
  | _ => true
def ax_kl (ci k : Nat) : Bool := match ax_ty ci k with
  | .long => true
  | _ => false
def ax_kr (ci k : Nat) : Bool := match ax_ty ci k with
  | .object _ => true
  | .array _ => true
  | _ => false
theorem ax_ki_fv {ci k : Nat} (h : ax_ki ci k = true) (M : ax_M) (a j : Nat) : ax_fv M (ax_ty ci k) a j = ax_I (ax_i M a j) := by
  unfold ax_ki at h
  cases hty : ax_ty ci k <;> simp [hty] at h <;> rfl
theorem ax_kl_fv {ci k : Nat} (h : ax_kl ci k = true) (M : ax_M) (a j : Nat) : ax_fv M (ax_ty ci k) a j = ax_L (ax_l M a j) := by
  unfold ax_kl at h
  cases hty : ax_ty ci k <;> simp [hty] at h <;> rfl
theorem ax_kr_fv {ci k : Nat} (h : ax_kr ci k = true) (M : ax_M) (a j : Nat) : ax_fv M (ax_ty ci k) a j = ax_O (ax_r M a j) := by
  unfold ax_kr at h
  cases hty : ax_ty ci k <;> simp [hty] at h <;> rfl
theorem ax_nf_at {ci : Nat} {q : vw_C} (h : ax_cl[ci]? = some q) : ax_nf ci = q.2.2 := by simp [ax_nf, h]
end
section
/-! MY OWN JUDGEMENT: the machine at a program counter, locals and stack as values with ids, the memory; it comes to Q -/
abbrev ax_Z : Type := Program × Launch × Env × Room × State × MethodId × Array Value × List Frame × Method × Code × ax_G × Nat × (State → Prop)
abbrev ax_B (Z : ax_Z) (own : String) (cc : ByteArray) (ret : Option FieldType) : Prop :=
  Z.1.tables.exec = Jvm.exec ∧ Z.2.2.2.2.2.2.2.2.2.1.code = cc ∧ Z.2.2.2.2.2.2.2.2.2.1.maxLocals = Z.2.2.2.2.2.2.2.2.2.2.2.1 ∧ Z.2.2.2.2.2.2.2.2.1.sig.returnType = ret ∧ (∀ w ∈ ax_ws, w.before Z.2.2.2.2.2.2.1 Z.2.2.2.2.1 = true) ∧ Z.2.2.2.2.1.vm.findClass own = some Z.2.2.2.2.2.1.cls ∧ Z.2.2.2.2.2.2.2.2.1.locks = false ∧ ax_K Z.2.2.2.2.2.2.2.2.2.2.1 Z.2.2.2.2.1 ∧ Z.2.2.2.2.2.2.2.2.2.2.1.2.2.2 ≤ Z.2.2.2.2.1.heap.size
def ax_lv (ad : Nat → Nat) (lv : List (Nat × ax_U)) : List (Nat × Value) := lv.map fun q => (q.1, ax_v ad q.2)
def ax_W (Z : ax_Z) (ad : Nat → Nat) (cells slots pc : Nat) (lv : List (Nat × ax_U)) (st : List ax_U) (M : ax_M) : Prop :=
  ∀ (H : Heap) (locs : List Loc) (ls : Array Slot), lv_has ls Z.2.2.2.2.2.2.2.2.2.2.2.1 (ax_lv ad lv) → ax_P Z.2.2.2.2.2.2.2.2.2.2.1 ad M H → va_S (ax_A Z.2.2.2.2.2.2.2.2.2.2.1) Z.2.2.2.2.1.heap H locs → W Z.1 Z.2.1 Z.2.2.1 Z.2.2.2.1 Z.2.2.2.2.1 Z.2.2.2.2.2.1 Z.2.2.2.2.2.2.1 Z.2.2.2.2.2.2.2.1 Z.2.2.2.2.2.2.2.2.1 Z.2.2.2.2.2.2.2.2.2.1 H locs cells slots Z.2.2.2.2.2.2.2.2.2.2.2.2 (F0 Z.2.2.2.2.2.1 pc ls (st.map (ax_v ad)))
theorem ax_updI (M : ax_M) (a k : Nat) (v : Int32) : upd (ax_i M a) k v = ax_i (ax_wi M a k v) a := by
  funext j
  simp [upd, ax_i_wi]
theorem ax_updL (M : ax_M) (a k : Nat) (v : Int64) : vp_updL (ax_l M a) k v = ax_l (ax_wl M a k v) a := by
  funext j
  simp [vp_updL, ax_l_wl]
theorem ax_lv_at {ad : Nat → Nat} {lv : List (Nat × ax_U)} {j i : Nat} {v : ax_U} (h : lv[j]? = some (i, v)) : (ax_lv ad lv)[j]? = some (i, ax_v ad v) := by simp [ax_lv, h]
theorem ax_lv_flt {ad : Nat → Nat} {lv : List (Nat × ax_U)} {F : Nat × Value → Bool} {F' : Nat × ax_U → Bool} (hF : ∀ q : Nat × ax_U, F (q.1, ax_v ad q.2) = F' q) : (ax_lv ad lv).filter F = ax_lv ad (lv.filter F') := by
  unfold ax_lv
  rw [List.filter_map]
  congr 1
  apply List.filter_congr
  intro q _
  exact hF q
theorem ax_lv_st1 {ad : Nat → Nat} {lv lv' : List (Nat × ax_U)} {i : Nat} {v : ax_U} (h : (i, v) :: lv.filter (fun q => !(q.1 == i) && !(q.1 + 1 == i && ax_ct q.2 == 2)) = lv') : (i, ax_v ad v) :: (ax_lv ad lv).filter (fun q => !(q.1 == i) && !(q.1 + 1 == i && q.2.category == 2)) = ax_lv ad lv' := by
  subst h
  rw [ax_lv_flt (F' := fun q => !(q.1 == i) && !(q.1 + 1 == i && ax_ct q.2 == 2)) (fun q => by simp only [ax_v_cat])]
  rfl
theorem ax_lv_st2 {ad : Nat → Nat} {lv lv' : List (Nat × ax_U)} {i : Nat} {v : ax_U} (h : (i, v) :: lv.filter (fun q => !(q.1 == i) && (!(q.1 == i + 1) && !(q.1 + 1 == i && ax_ct q.2 == 2))) = lv') : (i, ax_v ad v) :: (ax_lv ad lv).filter (fun q => !(q.1 == i) && (!(q.1 == i + 1) && !(q.1 + 1 == i && q.2.category == 2))) = ax_lv ad lv' := by
  subst h
  rw [ax_lv_flt (F' := fun q => !(q.1 == i) && (!(q.1 == i + 1) && !(q.1 + 1 == i && ax_ct q.2 == 2))) (fun q => by simp only [ax_v_cat])]
  rfl
def ax_pk (l : List (Nat × ax_U)) (ks : List Nat) : List (Nat × ax_U) := ks.filterMap (fun k => l[k]?)
theorem ax_lv_pick {ad : Nat → Nat} {lv lv' : List (Nat × ax_U)} {ks : List Nat} (h : ax_pk lv ks = lv') : lv_pick (ax_lv ad lv) ks = ax_lv ad lv' := by
  subst h
  induction ks with
  | nil => rfl
  | cons k ks ih =>
    simp only [lv_pick, ax_pk, List.filterMap_cons] at ih ⊢
    cases hk : lv[k]? with
    | none => simp [ax_lv, hk] at ih ⊢; exact ih
    | some q => simp [ax_lv, hk] at ih ⊢; exact ih
section
variable {Z : ax_Z} {own : String} {cc : ByteArray} {ret : Option FieldType} {ad : Nat → Nat} {cells slots pc : Nat} {lv : List (Nat × ax_U)} {st : List ax_U} {M : ax_M}
theorem ax_iconst (B : ax_B Z own cc ret) {n : Int} {v : Int32} (hv : Int32.ofInt n = v) (hd : decode cc pc = .ok (.iconst n, 1)) (k : ax_W Z ad cells slots (pc + 1) lv (ax_I v :: st) M) : ax_W Z ad cells slots (pc) lv (st) M := fun H locs ls h1 h2 h3 => lv_iconst B.1 B.2.1 hd hv (k H locs ls h1 h2 h3)
theorem ax_bipush (B : ax_B Z own cc ret) {n : Int} {v : Int32} (hv : (Int8.ofInt n).toInt32 = v) (hd : decode cc pc = .ok (.bipush n, 2)) (k : ax_W Z ad cells slots (pc + 2) lv (ax_I v :: st) M) : ax_W Z ad cells slots (pc) lv (st) M := fun H locs ls h1 h2 h3 => lv_bipush B.1 B.2.1 hd hv (k H locs ls h1 h2 h3)
theorem ax_sipush (B : ax_B Z own cc ret) {n : Int} {v : Int32} (hv : (Int16.ofInt n).toInt32 = v) (hd : decode cc pc = .ok (.sipush n, 3)) (k : ax_W Z ad cells slots (pc + 3) lv (ax_I v :: st) M) : ax_W Z ad cells slots (pc) lv (st) M := fun H locs ls h1 h2 h3 => lv_sipush B.1 B.2.1 hd hv (k H locs ls h1 h2 h3)
theorem ax_lconst (B : ax_B Z own cc ret) {n : Fin 2} {v : Int64} (hv : Int64.ofNat (n : Nat) = v) (hd : decode cc pc = .ok (.lconst n, 1)) (k : ax_W Z ad cells slots (pc + 1) lv (ax_L v :: st) M) : ax_W Z ad cells slots (pc) lv (st) M := fun H locs ls h1 h2 h3 => lv_lconst B.1 B.2.1 hd hv (k H locs ls h1 h2 h3)
theorem ax_null (B : ax_B Z own cc ret)  (hd : decode cc pc = .ok (.aconst_null, 1)) (k : ax_W Z ad cells slots (pc + 1) lv (ax_O none :: st) M) : ax_W Z ad cells slots (pc) lv (st) M := fun H locs ls h1 h2 h3 => lv_null B.1 B.2.1 hd (k H locs ls h1 h2 h3)
theorem ax_ldc (B : ax_B Z own cc ret) {idx : Nat} {v : Int32} (hw : Cond.constant own idx v ∈ ax_ws) (hd : decode cc pc = .ok (.ldc idx, 2)) (k : ax_W Z ad cells slots (pc + 2) lv (ax_I v :: st) M) : ax_W Z ad cells slots (pc) lv (st) M := fun H locs ls h1 h2 h3 => lv_ldc B.1 B.2.1 B.2.2.2.2.2.1 (B.2.2.2.2.1 _ hw) hd (k H locs ls h1 h2 h3)
theorem ax_ldc2 (B : ax_B Z own cc ret) {idx : Nat} {v : Int64} (hw : Cond.constantLong own idx v ∈ ax_ws) (hd : decode cc pc = .ok (.ldc2_w idx, 3)) (k : ax_W Z ad cells slots (pc + 3) lv (ax_L v :: st) M) : ax_W Z ad cells slots (pc) lv (st) M := fun H locs ls h1 h2 h3 => lv_ldc2 B.1 B.2.1 B.2.2.2.2.2.1 (B.2.2.2.2.1 _ hw) hd (k H locs ls h1 h2 h3)
theorem ax_iload_n (B : ax_B Z own cc ret) {f : Fin 4} {i j : Nat} {x : Int32} (hd : decode cc pc = .ok (.iload_n f, 1)) (hi : (f : Nat) = i) (hk : lv[j]? = some (i, ax_I x)) (k : ax_W Z ad cells slots (pc + 1) lv (ax_I x :: st) M) : ax_W Z ad cells slots (pc) lv (st) M := fun H locs ls h1 h2 h3 => lv_iload_n B.1 B.2.1 hd hi (lv_at h1 j (ax_lv_at hk)) (k H locs ls h1 h2 h3)
theorem ax_iload (B : ax_B Z own cc ret) {i j : Nat} {x : Int32} (hd : decode cc pc = .ok (.iload i, 2)) (hk : lv[j]? = some (i, ax_I x)) (k : ax_W Z ad cells slots (pc + 2) lv (ax_I x :: st) M) : ax_W Z ad cells slots (pc) lv (st) M := fun H locs ls h1 h2 h3 => lv_iload B.1 B.2.1 hd (lv_at h1 j (ax_lv_at hk)) (k H locs ls h1 h2 h3)
theorem ax_lload_n (B : ax_B Z own cc ret) {f : Fin 4} {i j : Nat} {x : Int64} (hd : decode cc pc = .ok (.lload_n f, 1)) (hi : (f : Nat) = i) (hk : lv[j]? = some (i, ax_L x)) (k : ax_W Z ad cells slots (pc + 1) lv (ax_L x :: st) M) : ax_W Z ad cells slots (pc) lv (st) M := fun H locs ls h1 h2 h3 => lv_lload_n B.1 B.2.1 hd hi (lv_at h1 j (ax_lv_at hk)) (k H locs ls h1 h2 h3)
theorem ax_lload (B : ax_B Z own cc ret) {i j : Nat} {x : Int64} (hd : decode cc pc = .ok (.lload i, 2)) (hk : lv[j]? = some (i, ax_L x)) (k : ax_W Z ad cells slots (pc + 2) lv (ax_L x :: st) M) : ax_W Z ad cells slots (pc) lv (st) M := fun H locs ls h1 h2 h3 => lv_lload B.1 B.2.1 hd (lv_at h1 j (ax_lv_at hk)) (k H locs ls h1 h2 h3)
theorem ax_aload_n (B : ax_B Z own cc ret) {f : Fin 4} {i j : Nat} {x : Option Nat} (hd : decode cc pc = .ok (.aload_n f, 1)) (hi : (f : Nat) = i) (hk : lv[j]? = some (i, ax_O x)) (k : ax_W Z ad cells slots (pc + 1) lv (ax_O x :: st) M) : ax_W Z ad cells slots (pc) lv (st) M := by
  intro H locs ls h1 h2 h3
  have e := lv_at h1 j (ax_lv_at hk)
  cases x with
  | none => exact lv_aload_nN B.1 B.2.1 hd hi e (k H locs ls h1 h2 h3)
  | some a => exact lv_aload_n B.1 B.2.1 hd hi e (k H locs ls h1 h2 h3)
theorem ax_aload (B : ax_B Z own cc ret) {i j : Nat} {x : Option Nat} (hd : decode cc pc = .ok (.aload i, 2)) (hk : lv[j]? = some (i, ax_O x)) (k : ax_W Z ad cells slots (pc + 2) lv (ax_O x :: st) M) : ax_W Z ad cells slots (pc) lv (st) M := by
  intro H locs ls h1 h2 h3
  have e := lv_at h1 j (ax_lv_at hk)
  cases x with
  | none => exact lv_aloadN B.1 B.2.1 hd e (k H locs ls h1 h2 h3)
  | some a => exact lv_aload B.1 B.2.1 hd e (k H locs ls h1 h2 h3)
theorem ax_istore_n (B : ax_B Z own cc ret) {f : Fin 4} {i : Nat} {x : Int32} {lv' : List (Nat × ax_U)} (hd : decode cc pc = .ok (.istore_n f, 1)) (hi : (f : Nat) = i) (hn : i < Z.2.2.2.2.2.2.2.2.2.2.2.1) (hl : (i, ax_I x) :: lv.filter (fun q => !(q.1 == i) && !(q.1 + 1 == i && ax_ct q.2 == 2)) = lv') (k : ax_W Z ad cells slots (pc + 1) lv' (st) M) : ax_W Z ad cells slots (pc) lv (ax_I x :: st) M := fun H locs ls h1 h2 h3 => lv_istore_n B.1 B.2.1 hd hi h1 hn (ax_lv_st1 hl) (fun ls' h => k H locs ls' h h2 h3)
theorem ax_istore (B : ax_B Z own cc ret) {i : Nat} {x : Int32} {lv' : List (Nat × ax_U)} (hd : decode cc pc = .ok (.istore i, 2)) (hn : i < Z.2.2.2.2.2.2.2.2.2.2.2.1) (hl : (i, ax_I x) :: lv.filter (fun q => !(q.1 == i) && !(q.1 + 1 == i && ax_ct q.2 == 2)) = lv') (k : ax_W Z ad cells slots (pc + 2) lv' (st) M) : ax_W Z ad cells slots (pc) lv (ax_I x :: st) M := fun H locs ls h1 h2 h3 => lv_istore B.1 B.2.1 hd h1 hn (ax_lv_st1 hl) (fun ls' h => k H locs ls' h h2 h3)
theorem ax_lstore_n (B : ax_B Z own cc ret) {f : Fin 4} {i : Nat} {x : Int64} {lv' : List (Nat × ax_U)} (hd : decode cc pc = .ok (.lstore_n f, 1)) (hi : (f : Nat) = i) (hn : i + 1 < Z.2.2.2.2.2.2.2.2.2.2.2.1) (hl : (i, ax_L x) :: lv.filter (fun q => !(q.1 == i) && (!(q.1 == i + 1) && !(q.1 + 1 == i && ax_ct q.2 == 2))) = lv') (k : ax_W Z ad cells slots (pc + 1) lv' (st) M) : ax_W Z ad cells slots (pc) lv (ax_L x :: st) M := fun H locs ls h1 h2 h3 => lv_lstore_n B.1 B.2.1 hd hi h1 hn (ax_lv_st2 hl) (fun ls' h => k H locs ls' h h2 h3)
theorem ax_lstore (B : ax_B Z own cc ret) {i : Nat} {x : Int64} {lv' : List (Nat × ax_U)} (hd : decode cc pc = .ok (.lstore i, 2)) (hn : i + 1 < Z.2.2.2.2.2.2.2.2.2.2.2.1) (hl : (i, ax_L x) :: lv.filter (fun q => !(q.1 == i) && (!(q.1 == i + 1) && !(q.1 + 1 == i && ax_ct q.2 == 2))) = lv') (k : ax_W Z ad cells slots (pc + 2) lv' (st) M) : ax_W Z ad cells slots (pc) lv (ax_L x :: st) M := fun H locs ls h1 h2 h3 => lv_lstore B.1 B.2.1 hd h1 hn (ax_lv_st2 hl) (fun ls' h => k H locs ls' h h2 h3)
theorem ax_astore_n (B : ax_B Z own cc ret) {f : Fin 4} {i : Nat} {x : Option Nat} {lv' : List (Nat × ax_U)} (hd : decode cc pc = .ok (.astore_n f, 1)) (hi : (f : Nat) = i) (hn : i < Z.2.2.2.2.2.2.2.2.2.2.2.1) (hl : (i, ax_O x) :: lv.filter (fun q => !(q.1 == i) && !(q.1 + 1 == i && ax_ct q.2 == 2)) = lv') (k : ax_W Z ad cells slots (pc + 1) lv' (st) M) : ax_W Z ad cells slots (pc) lv (ax_O x :: st) M := by
  intro H locs ls h1 h2 h3
  cases x with
  | none => exact lv_astore_nN B.1 B.2.1 hd hi h1 hn (ax_lv_st1 hl) (fun ls' h => k H locs ls' h h2 h3)
  | some a => exact lv_astore_n B.1 B.2.1 hd hi h1 hn (ax_lv_st1 hl) (fun ls' h => k H locs ls' h h2 h3)
theorem ax_astore (B : ax_B Z own cc ret) {i : Nat} {x : Option Nat} {lv' : List (Nat × ax_U)} (hd : decode cc pc = .ok (.astore i, 2)) (hn : i < Z.2.2.2.2.2.2.2.2.2.2.2.1) (hl : (i, ax_O x) :: lv.filter (fun q => !(q.1 == i) && !(q.1 + 1 == i && ax_ct q.2 == 2)) = lv') (k : ax_W Z ad cells slots (pc + 2) lv' (st) M) : ax_W Z ad cells slots (pc) lv (ax_O x :: st) M := by
  intro H locs ls h1 h2 h3
  cases x with
  | none => exact lv_astoreN B.1 B.2.1 hd h1 hn (ax_lv_st1 hl) (fun ls' h => k H locs ls' h h2 h3)
  | some a => exact lv_astore B.1 B.2.1 hd h1 hn (ax_lv_st1 hl) (fun ls' h => k H locs ls' h h2 h3)
theorem ax_iinc (B : ax_B Z own cc ret) {i j : Nat} {n : Int} {x v : Int32} {lv' : List (Nat × ax_U)} (hd : decode cc pc = .ok (.iinc i n, 3)) (hk : lv[j]? = some (i, ax_I x)) (hv : x + Int32.ofInt n = v) (hn : i < Z.2.2.2.2.2.2.2.2.2.2.2.1) (hl : (i, ax_I v) :: lv.filter (fun q => !(q.1 == i) && !(q.1 + 1 == i && ax_ct q.2 == 2)) = lv') (k : ax_W Z ad cells slots (pc + 3) lv' (st) M) : ax_W Z ad cells slots (pc) lv (st) M := fun H locs ls h1 h2 h3 => lv_iinc B.1 B.2.1 hd h1 (ax_lv_at hk) hv hn (ax_lv_st1 hl) (fun ls' h => k H locs ls' h h2 h3)
theorem ax_sub {lv' : List (Nat × ax_U)} (ks : List Nat) (hl : ax_pk lv ks = lv') (k : ax_W Z ad cells slots (pc) lv' (st) M) : ax_W Z ad cells slots (pc) lv (st) M := fun H locs ls h1 h2 h3 => k H locs ls (lv_sub h1 ks (ax_lv_pick hl)) h2 h3
theorem ax_iadd (B : ax_B Z own cc ret) {x y : Int32} (hd : decode cc pc = .ok (.iadd, 1)) (k : ax_W Z ad cells slots (pc + 1) lv (ax_I (x + y) :: st) M) : ax_W Z ad cells slots (pc) lv (ax_I y :: ax_I x :: st) M := fun H locs ls h1 h2 h3 => lv_iadd B.1 B.2.1 hd (k H locs ls h1 h2 h3)
theorem ax_isub (B : ax_B Z own cc ret) {x y : Int32} (hd : decode cc pc = .ok (.isub, 1)) (k : ax_W Z ad cells slots (pc + 1) lv (ax_I (x - y) :: st) M) : ax_W Z ad cells slots (pc) lv (ax_I y :: ax_I x :: st) M := fun H locs ls h1 h2 h3 => lv_isub B.1 B.2.1 hd (k H locs ls h1 h2 h3)
theorem ax_imul (B : ax_B Z own cc ret) {x y : Int32} (hd : decode cc pc = .ok (.imul, 1)) (k : ax_W Z ad cells slots (pc + 1) lv (ax_I (x * y) :: st) M) : ax_W Z ad cells slots (pc) lv (ax_I y :: ax_I x :: st) M := fun H locs ls h1 h2 h3 => lv_imul B.1 B.2.1 hd (k H locs ls h1 h2 h3)
theorem ax_iand (B : ax_B Z own cc ret) {x y : Int32} (hd : decode cc pc = .ok (.iand, 1)) (k : ax_W Z ad cells slots (pc + 1) lv (ax_I (x &&& y) :: st) M) : ax_W Z ad cells slots (pc) lv (ax_I y :: ax_I x :: st) M := fun H locs ls h1 h2 h3 => lv_iand B.1 B.2.1 hd (k H locs ls h1 h2 h3)
theorem ax_ior (B : ax_B Z own cc ret) {x y : Int32} (hd : decode cc pc = .ok (.ior, 1)) (k : ax_W Z ad cells slots (pc + 1) lv (ax_I (x ||| y) :: st) M) : ax_W Z ad cells slots (pc) lv (ax_I y :: ax_I x :: st) M := fun H locs ls h1 h2 h3 => lv_ior B.1 B.2.1 hd (k H locs ls h1 h2 h3)
theorem ax_ixor (B : ax_B Z own cc ret) {x y : Int32} (hd : decode cc pc = .ok (.ixor, 1)) (k : ax_W Z ad cells slots (pc + 1) lv (ax_I (x ^^^ y) :: st) M) : ax_W Z ad cells slots (pc) lv (ax_I y :: ax_I x :: st) M := fun H locs ls h1 h2 h3 => lv_ixor B.1 B.2.1 hd (k H locs ls h1 h2 h3)
theorem ax_ishl (B : ax_B Z own cc ret) {x y : Int32} (hd : decode cc pc = .ok (.ishl, 1)) (k : ax_W Z ad cells slots (pc + 1) lv (ax_I (x <<< (y &&& 31)) :: st) M) : ax_W Z ad cells slots (pc) lv (ax_I y :: ax_I x :: st) M := fun H locs ls h1 h2 h3 => lv_ishl B.1 B.2.1 hd (k H locs ls h1 h2 h3)
theorem ax_ishr (B : ax_B Z own cc ret) {x y : Int32} (hd : decode cc pc = .ok (.ishr, 1)) (k : ax_W Z ad cells slots (pc + 1) lv (ax_I (x >>> (y &&& 31)) :: st) M) : ax_W Z ad cells slots (pc) lv (ax_I y :: ax_I x :: st) M := fun H locs ls h1 h2 h3 => lv_ishr B.1 B.2.1 hd (k H locs ls h1 h2 h3)
theorem ax_idiv (B : ax_B Z own cc ret) {x y : Int32} (hy : ¬ y = 0) (hd : decode cc pc = .ok (.idiv, 1)) (k : ax_W Z ad cells slots (pc + 1) lv (ax_I (x / y) :: st) M) : ax_W Z ad cells slots (pc) lv (ax_I y :: ax_I x :: st) M := fun H locs ls h1 h2 h3 => lv_idiv B.1 B.2.1 hd hy (k H locs ls h1 h2 h3)
theorem ax_irem (B : ax_B Z own cc ret) {x y : Int32} (hy : ¬ y = 0) (hd : decode cc pc = .ok (.irem, 1)) (k : ax_W Z ad cells slots (pc + 1) lv (ax_I (x - x / y * y) :: st) M) : ax_W Z ad cells slots (pc) lv (ax_I y :: ax_I x :: st) M := fun H locs ls h1 h2 h3 => lv_irem B.1 B.2.1 hd hy (k H locs ls h1 h2 h3)
theorem ax_lneg (B : ax_B Z own cc ret) {x : Int64} (hd : decode cc pc = .ok (.lneg, 1)) (k : ax_W Z ad cells slots (pc + 1) lv (ax_L (-x) :: st) M) : ax_W Z ad cells slots (pc) lv (ax_L x :: st) M := fun H locs ls h1 h2 h3 => lv_lneg B.1 B.2.1 hd (k H locs ls h1 h2 h3)
theorem ax_lshl (B : ax_B Z own cc ret) {x : Int64} {y : Int32} (hd : decode cc pc = .ok (.lshl, 1)) (k : ax_W Z ad cells slots (pc + 1) lv (ax_L (x <<< (y.toInt64 &&& 63)) :: st) M) : ax_W Z ad cells slots (pc) lv (ax_I y :: ax_L x :: st) M := fun H locs ls h1 h2 h3 => lv_lshl B.1 B.2.1 hd rfl (k H locs ls h1 h2 h3)
theorem ax_ineg (B : ax_B Z own cc ret) {x : Int32} (hd : decode cc pc = .ok (.ineg, 1)) (k : ax_W Z ad cells slots (pc + 1) lv (ax_I (-x) :: st) M) : ax_W Z ad cells slots (pc) lv (ax_I x :: st) M := fun H locs ls h1 h2 h3 => lv_ineg B.1 B.2.1 hd (k H locs ls h1 h2 h3)
theorem ax_ladd (B : ax_B Z own cc ret) {x y : Int64} (hd : decode cc pc = .ok (.ladd, 1)) (k : ax_W Z ad cells slots (pc + 1) lv (ax_L (x + y) :: st) M) : ax_W Z ad cells slots (pc) lv (ax_L y :: ax_L x :: st) M := fun H locs ls h1 h2 h3 => lv_ladd B.1 B.2.1 hd (k H locs ls h1 h2 h3)
theorem ax_lsub (B : ax_B Z own cc ret) {x y : Int64} (hd : decode cc pc = .ok (.lsub, 1)) (k : ax_W Z ad cells slots (pc + 1) lv (ax_L (x - y) :: st) M) : ax_W Z ad cells slots (pc) lv (ax_L y :: ax_L x :: st) M := fun H locs ls h1 h2 h3 => lv_lsub B.1 B.2.1 hd (k H locs ls h1 h2 h3)
theorem ax_lmul (B : ax_B Z own cc ret) {x y : Int64} (hd : decode cc pc = .ok (.lmul, 1)) (k : ax_W Z ad cells slots (pc + 1) lv (ax_L (x * y) :: st) M) : ax_W Z ad cells slots (pc) lv (ax_L y :: ax_L x :: st) M := fun H locs ls h1 h2 h3 => lv_lmul B.1 B.2.1 hd (k H locs ls h1 h2 h3)
theorem ax_land (B : ax_B Z own cc ret) {x y : Int64} (hd : decode cc pc = .ok (.land, 1)) (k : ax_W Z ad cells slots (pc + 1) lv (ax_L (x &&& y) :: st) M) : ax_W Z ad cells slots (pc) lv (ax_L y :: ax_L x :: st) M := fun H locs ls h1 h2 h3 => lv_land B.1 B.2.1 hd (k H locs ls h1 h2 h3)
theorem ax_lor (B : ax_B Z own cc ret) {x y : Int64} (hd : decode cc pc = .ok (.lor, 1)) (k : ax_W Z ad cells slots (pc + 1) lv (ax_L (x ||| y) :: st) M) : ax_W Z ad cells slots (pc) lv (ax_L y :: ax_L x :: st) M := fun H locs ls h1 h2 h3 => lv_lor B.1 B.2.1 hd (k H locs ls h1 h2 h3)
theorem ax_lxor (B : ax_B Z own cc ret) {x y : Int64} (hd : decode cc pc = .ok (.lxor, 1)) (k : ax_W Z ad cells slots (pc + 1) lv (ax_L (x ^^^ y) :: st) M) : ax_W Z ad cells slots (pc) lv (ax_L y :: ax_L x :: st) M := fun H locs ls h1 h2 h3 => lv_lxor B.1 B.2.1 hd (k H locs ls h1 h2 h3)
theorem ax_lushr (B : ax_B Z own cc ret) {x : Int64} {y : Int32} (hd : decode cc pc = .ok (.lushr, 1)) (k : ax_W Z ad cells slots (pc + 1) lv (ax_L (x.toUInt64 >>> (y.toInt64.toUInt64 &&& Int64.toUInt64 63)).toInt64 :: st) M) : ax_W Z ad cells slots (pc) lv (ax_I y :: ax_L x :: st) M := fun H locs ls h1 h2 h3 => lv_lushr B.1 B.2.1 hd rfl (k H locs ls h1 h2 h3)
theorem ax_i2l (B : ax_B Z own cc ret) {x : Int32} (hd : decode cc pc = .ok (.i2l, 1)) (k : ax_W Z ad cells slots (pc + 1) lv (ax_L x.toInt64 :: st) M) : ax_W Z ad cells slots (pc) lv (ax_I x :: st) M := fun H locs ls h1 h2 h3 => lv_i2l B.1 B.2.1 hd rfl (k H locs ls h1 h2 h3)
theorem ax_l2i (B : ax_B Z own cc ret) {x : Int64} (hd : decode cc pc = .ok (.l2i, 1)) (k : ax_W Z ad cells slots (pc + 1) lv (ax_I x.toInt32 :: st) M) : ax_W Z ad cells slots (pc) lv (ax_L x :: st) M := fun H locs ls h1 h2 h3 => lv_l2i B.1 B.2.1 hd rfl (k H locs ls h1 h2 h3)
theorem ax_lcmp (B : ax_B Z own cc ret) {x y : Int64} (hd : decode cc pc = .ok (.lcmp, 1)) (k : ax_W Z ad cells slots (pc + 1) lv (ax_I (lg_cmp x y) :: st) M) : ax_W Z ad cells slots (pc) lv (ax_L y :: ax_L x :: st) M := fun H locs ls h1 h2 h3 => W.lcmp B.1 B.2.1 hd (k H locs ls h1 h2 h3)
theorem ax_dup (B : ax_B Z own cc ret) {a : ax_U} (ha : ax_ct a = 1) (hd : decode cc pc = .ok (.dup, 1)) (k : ax_W Z ad cells slots (pc + 1) lv (a :: a :: st) M) : ax_W Z ad cells slots (pc) lv (a :: st) M := fun H locs ls h1 h2 h3 => lv_dup B.1 B.2.1 hd ((ax_v_cat ad a).trans ha) (k H locs ls h1 h2 h3)
theorem ax_pop (B : ax_B Z own cc ret) {a : ax_U} (ha : ax_ct a = 1) (hd : decode cc pc = .ok (.pop, 1)) (k : ax_W Z ad cells slots (pc + 1) lv (st) M) : ax_W Z ad cells slots (pc) lv (a :: st) M := fun H locs ls h1 h2 h3 => lv_pop B.1 B.2.1 hd ((ax_v_cat ad a).trans ha) (k H locs ls h1 h2 h3)
theorem ax_dup_x1 (B : ax_B Z own cc ret) {a b : ax_U} (ha : ax_ct a = 1) (hb : ax_ct b = 1) (hd : decode cc pc = .ok (.dup_x1, 1)) (k : ax_W Z ad cells slots (pc + 1) lv (a :: b :: a :: st) M) : ax_W Z ad cells slots (pc) lv (a :: b :: st) M := fun H locs ls h1 h2 h3 => lv_dup_x1 B.1 B.2.1 hd ((ax_v_cat ad a).trans ha) ((ax_v_cat ad b).trans hb) (k H locs ls h1 h2 h3)
theorem ax_dup_x2 (B : ax_B Z own cc ret) {a b d : ax_U} (ha : ax_ct a = 1) (hb : ax_ct b = 1) (hc : ax_ct d = 1) (hd : decode cc pc = .ok (.dup_x2, 1)) (k : ax_W Z ad cells slots (pc + 1) lv (a :: b :: d :: a :: st) M) : ax_W Z ad cells slots (pc) lv (a :: b :: d :: st) M := fun H locs ls h1 h2 h3 => lv_dup_x2 B.1 B.2.1 hd ((ax_v_cat ad a).trans ha) ((ax_v_cat ad b).trans hb) ((ax_v_cat ad d).trans hc) (k H locs ls h1 h2 h3)
theorem ax_dup2_11 (B : ax_B Z own cc ret) {a b : ax_U} (ha : ax_ct a = 1) (hb : ax_ct b = 1) (hd : decode cc pc = .ok (.dup2, 1)) (k : ax_W Z ad cells slots (pc + 1) lv (a :: b :: a :: b :: st) M) : ax_W Z ad cells slots (pc) lv (a :: b :: st) M := fun H locs ls h1 h2 h3 => lv_dup2_11 B.1 B.2.1 hd ((ax_v_cat ad a).trans ha) ((ax_v_cat ad b).trans hb) (k H locs ls h1 h2 h3)
theorem ax_dup2_2 (B : ax_B Z own cc ret) {a : ax_U} (ha : ax_ct a = 2) (hd : decode cc pc = .ok (.dup2, 1)) (k : ax_W Z ad cells slots (pc + 1) lv (a :: a :: st) M) : ax_W Z ad cells slots (pc) lv (a :: st) M := fun H locs ls h1 h2 h3 => lv_dup2_2 B.1 B.2.1 hd ((ax_v_cat ad a).trans ha) (k H locs ls h1 h2 h3)
theorem ax_pop2_2 (B : ax_B Z own cc ret) {a : ax_U} (ha : ax_ct a = 2) (hd : decode cc pc = .ok (.pop2, 1)) (k : ax_W Z ad cells slots (pc + 1) lv (st) M) : ax_W Z ad cells slots (pc) lv (a :: st) M := fun H locs ls h1 h2 h3 => lv_pop2_2 B.1 B.2.1 hd ((ax_v_cat ad a).trans ha) (k H locs ls h1 h2 h3)
theorem ax_if_eq (B : ax_B Z own cc ret) {x : Int32} {off : Int} {tgt : Nat} {β : Type} {P Q : Option β} {r : β} (hd : decode cc pc = .ok (.ifCond .eq off, 3)) (ht : (pc : Int) + off = (tgt : Int)) (hf : (if x = 0 then P else Q) = some r) (kt : P = some r → ax_W Z ad cells slots (tgt) lv (st) M) (kf : Q = some r → ax_W Z ad cells slots (pc + 3) lv (st) M) : ax_W Z ad cells slots (pc) lv (ax_I x :: st) M := fun H locs ls h1 h2 h3 => lv_if_eq B.1 B.2.1 hd ht (fun h => kt (by rw [if_pos h] at hf; exact hf) H locs ls h1 h2 h3) (fun h => kf (by rw [if_neg h] at hf; exact hf) H locs ls h1 h2 h3)
theorem ax_icmp_eq (B : ax_B Z own cc ret) {x y : Int32} {off : Int} {tgt : Nat} {β : Type} {P Q : Option β} {r : β} (hd : decode cc pc = .ok (.if_icmp .eq off, 3)) (ht : (pc : Int) + off = (tgt : Int)) (hf : (if x = y then P else Q) = some r) (kt : P = some r → ax_W Z ad cells slots (tgt) lv (st) M) (kf : Q = some r → ax_W Z ad cells slots (pc + 3) lv (st) M) : ax_W Z ad cells slots (pc) lv (ax_I y :: ax_I x :: st) M := fun H locs ls h1 h2 h3 => lv_icmp_eq B.1 B.2.1 hd ht (fun h => kt (by rw [if_pos h] at hf; exact hf) H locs ls h1 h2 h3) (fun h => kf (by rw [if_neg h] at hf; exact hf) H locs ls h1 h2 h3)
theorem ax_if_lt (B : ax_B Z own cc ret) {x : Int32} {off : Int} {tgt : Nat} {β : Type} {P Q : Option β} {r : β} (hd : decode cc pc = .ok (.ifCond .lt off, 3)) (ht : (pc : Int) + off = (tgt : Int)) (hf : (if x < 0 then P else Q) = some r) (kt : P = some r → ax_W Z ad cells slots (tgt) lv (st) M) (kf : Q = some r → ax_W Z ad cells slots (pc + 3) lv (st) M) : ax_W Z ad cells slots (pc) lv (ax_I x :: st) M := fun H locs ls h1 h2 h3 => lv_if_lt B.1 B.2.1 hd ht (fun h => kt (by rw [if_pos h] at hf; exact hf) H locs ls h1 h2 h3) (fun h => kf (by rw [if_neg h] at hf; exact hf) H locs ls h1 h2 h3)
theorem ax_icmp_lt (B : ax_B Z own cc ret) {x y : Int32} {off : Int} {tgt : Nat} {β : Type} {P Q : Option β} {r : β} (hd : decode cc pc = .ok (.if_icmp .lt off, 3)) (ht : (pc : Int) + off = (tgt : Int)) (hf : (if x < y then P else Q) = some r) (kt : P = some r → ax_W Z ad cells slots (tgt) lv (st) M) (kf : Q = some r → ax_W Z ad cells slots (pc + 3) lv (st) M) : ax_W Z ad cells slots (pc) lv (ax_I y :: ax_I x :: st) M := fun H locs ls h1 h2 h3 => lv_icmp_lt B.1 B.2.1 hd ht (fun h => kt (by rw [if_pos h] at hf; exact hf) H locs ls h1 h2 h3) (fun h => kf (by rw [if_neg h] at hf; exact hf) H locs ls h1 h2 h3)
theorem ax_if_ge (B : ax_B Z own cc ret) {x : Int32} {off : Int} {tgt : Nat} {β : Type} {P Q : Option β} {r : β} (hd : decode cc pc = .ok (.ifCond .ge off, 3)) (ht : (pc : Int) + off = (tgt : Int)) (hf : (if 0 ≤ x then P else Q) = some r) (kt : P = some r → ax_W Z ad cells slots (tgt) lv (st) M) (kf : Q = some r → ax_W Z ad cells slots (pc + 3) lv (st) M) : ax_W Z ad cells slots (pc) lv (ax_I x :: st) M := fun H locs ls h1 h2 h3 => lv_if_ge B.1 B.2.1 hd ht (fun h => kt (by rw [if_pos h] at hf; exact hf) H locs ls h1 h2 h3) (fun h => kf (by rw [if_neg h] at hf; exact hf) H locs ls h1 h2 h3)
theorem ax_icmp_ge (B : ax_B Z own cc ret) {x y : Int32} {off : Int} {tgt : Nat} {β : Type} {P Q : Option β} {r : β} (hd : decode cc pc = .ok (.if_icmp .ge off, 3)) (ht : (pc : Int) + off = (tgt : Int)) (hf : (if y ≤ x then P else Q) = some r) (kt : P = some r → ax_W Z ad cells slots (tgt) lv (st) M) (kf : Q = some r → ax_W Z ad cells slots (pc + 3) lv (st) M) : ax_W Z ad cells slots (pc) lv (ax_I y :: ax_I x :: st) M := fun H locs ls h1 h2 h3 => lv_icmp_ge B.1 B.2.1 hd ht (fun h => kt (by rw [if_pos h] at hf; exact hf) H locs ls h1 h2 h3) (fun h => kf (by rw [if_neg h] at hf; exact hf) H locs ls h1 h2 h3)
theorem ax_if_gt (B : ax_B Z own cc ret) {x : Int32} {off : Int} {tgt : Nat} {β : Type} {P Q : Option β} {r : β} (hd : decode cc pc = .ok (.ifCond .gt off, 3)) (ht : (pc : Int) + off = (tgt : Int)) (hf : (if 0 < x then P else Q) = some r) (kt : P = some r → ax_W Z ad cells slots (tgt) lv (st) M) (kf : Q = some r → ax_W Z ad cells slots (pc + 3) lv (st) M) : ax_W Z ad cells slots (pc) lv (ax_I x :: st) M := fun H locs ls h1 h2 h3 => lv_if_gt B.1 B.2.1 hd ht (fun h => kt (by rw [if_pos h] at hf; exact hf) H locs ls h1 h2 h3) (fun h => kf (by rw [if_neg h] at hf; exact hf) H locs ls h1 h2 h3)
theorem ax_icmp_gt (B : ax_B Z own cc ret) {x y : Int32} {off : Int} {tgt : Nat} {β : Type} {P Q : Option β} {r : β} (hd : decode cc pc = .ok (.if_icmp .gt off, 3)) (ht : (pc : Int) + off = (tgt : Int)) (hf : (if y < x then P else Q) = some r) (kt : P = some r → ax_W Z ad cells slots (tgt) lv (st) M) (kf : Q = some r → ax_W Z ad cells slots (pc + 3) lv (st) M) : ax_W Z ad cells slots (pc) lv (ax_I y :: ax_I x :: st) M := fun H locs ls h1 h2 h3 => lv_icmp_gt B.1 B.2.1 hd ht (fun h => kt (by rw [if_pos h] at hf; exact hf) H locs ls h1 h2 h3) (fun h => kf (by rw [if_neg h] at hf; exact hf) H locs ls h1 h2 h3)
theorem ax_if_le (B : ax_B Z own cc ret) {x : Int32} {off : Int} {tgt : Nat} {β : Type} {P Q : Option β} {r : β} (hd : decode cc pc = .ok (.ifCond .le off, 3)) (ht : (pc : Int) + off = (tgt : Int)) (hf : (if x ≤ 0 then P else Q) = some r) (kt : P = some r → ax_W Z ad cells slots (tgt) lv (st) M) (kf : Q = some r → ax_W Z ad cells slots (pc + 3) lv (st) M) : ax_W Z ad cells slots (pc) lv (ax_I x :: st) M := fun H locs ls h1 h2 h3 => lv_if_le B.1 B.2.1 hd ht (fun h => kt (by rw [if_pos h] at hf; exact hf) H locs ls h1 h2 h3) (fun h => kf (by rw [if_neg h] at hf; exact hf) H locs ls h1 h2 h3)
theorem ax_icmp_le (B : ax_B Z own cc ret) {x y : Int32} {off : Int} {tgt : Nat} {β : Type} {P Q : Option β} {r : β} (hd : decode cc pc = .ok (.if_icmp .le off, 3)) (ht : (pc : Int) + off = (tgt : Int)) (hf : (if x ≤ y then P else Q) = some r) (kt : P = some r → ax_W Z ad cells slots (tgt) lv (st) M) (kf : Q = some r → ax_W Z ad cells slots (pc + 3) lv (st) M) : ax_W Z ad cells slots (pc) lv (ax_I y :: ax_I x :: st) M := fun H locs ls h1 h2 h3 => lv_icmp_le B.1 B.2.1 hd ht (fun h => kt (by rw [if_pos h] at hf; exact hf) H locs ls h1 h2 h3) (fun h => kf (by rw [if_neg h] at hf; exact hf) H locs ls h1 h2 h3)
theorem ax_if_ne (B : ax_B Z own cc ret) {x : Int32} {off : Int} {tgt : Nat} {β : Type} {P Q : Option β} {r : β} (hd : decode cc pc = .ok (.ifCond .ne off, 3)) (ht : (pc : Int) + off = (tgt : Int)) (hf : (if x = 0 then P else Q) = some r) (kf : P = some r → ax_W Z ad cells slots (pc + 3) lv (st) M) (kt : Q = some r → ax_W Z ad cells slots (tgt) lv (st) M) : ax_W Z ad cells slots (pc) lv (ax_I x :: st) M := fun H locs ls h1 h2 h3 => lv_if_ne B.1 B.2.1 hd ht (fun h => kt (by rw [if_neg h] at hf; exact hf) H locs ls h1 h2 h3) (fun h => kf (by rw [if_pos h] at hf; exact hf) H locs ls h1 h2 h3)
theorem ax_icmp_ne (B : ax_B Z own cc ret) {x y : Int32} {off : Int} {tgt : Nat} {β : Type} {P Q : Option β} {r : β} (hd : decode cc pc = .ok (.if_icmp .ne off, 3)) (ht : (pc : Int) + off = (tgt : Int)) (hf : (if x = y then P else Q) = some r) (kf : P = some r → ax_W Z ad cells slots (pc + 3) lv (st) M) (kt : Q = some r → ax_W Z ad cells slots (tgt) lv (st) M) : ax_W Z ad cells slots (pc) lv (ax_I y :: ax_I x :: st) M := fun H locs ls h1 h2 h3 => lv_icmp_ne B.1 B.2.1 hd ht (fun h => kt (by rw [if_neg h] at hf; exact hf) H locs ls h1 h2 h3) (fun h => kf (by rw [if_pos h] at hf; exact hf) H locs ls h1 h2 h3)
theorem ax_goto (B : ax_B Z own cc ret) {off : Int} {tgt : Nat} (hd : decode cc pc = .ok (.goto off, 3)) (ht : (pc : Int) + off = (tgt : Int)) (k : ax_W Z ad cells slots (tgt) lv (st) M) : ax_W Z ad cells slots (pc) lv (st) M := fun H locs ls h1 h2 h3 => lv_goto B.1 B.2.1 hd ht (k H locs ls h1 h2 h3)
theorem ax_ifnull (B : ax_B Z own cc ret) {o : Option Nat} {off : Int} {tgt : Nat} {β : Type} {P Q : Option β} {r : β} (hd : decode cc pc = .ok (.ifnull off, 3)) (ht : (pc : Int) + off = (tgt : Int)) (hf : (if o = none then P else Q) = some r) (kt : P = some r → ax_W Z ad cells slots (tgt) lv (st) M) (kf : Q = some r → ax_W Z ad cells slots (pc + 3) lv (st) M) : ax_W Z ad cells slots (pc) lv (ax_O o :: st) M := by
  intro H locs ls h1 h2 h3
  cases o with
  | none => exact lv_ifnullN B.1 B.2.1 hd ht (kt (by rw [if_pos rfl] at hf; exact hf) H locs ls h1 h2 h3)
  | some a => exact lv_ifnull B.1 B.2.1 hd (kf (by rw [if_neg (fun z => by cases z)] at hf; exact hf) H locs ls h1 h2 h3)
theorem ax_ifnonnull (B : ax_B Z own cc ret) {o : Option Nat} {off : Int} {tgt : Nat} {β : Type} {P Q : Option β} {r : β} (hd : decode cc pc = .ok (.ifnonnull off, 3)) (ht : (pc : Int) + off = (tgt : Int)) (hf : (if o = none then P else Q) = some r) (kf : P = some r → ax_W Z ad cells slots (pc + 3) lv (st) M) (kt : Q = some r → ax_W Z ad cells slots (tgt) lv (st) M) : ax_W Z ad cells slots (pc) lv (ax_O o :: st) M := by
  intro H locs ls h1 h2 h3
  cases o with
  | none => exact lv_ifnonnullN B.1 B.2.1 hd (kf (by rw [if_pos rfl] at hf; exact hf) H locs ls h1 h2 h3)
  | some a => exact lv_ifnonnull B.1 B.2.1 hd ht (kt (by rw [if_neg (fun z => by cases z)] at hf; exact hf) H locs ls h1 h2 h3)
theorem ax_nmI {x : Int32} {β : Type} {f : Int32 → Option β} {r : β} (hf : (some x).bind f = some r) (k : ∀ y, f y = some r → ax_W Z ad cells slots (pc) lv (ax_I y :: st) M) : ax_W Z ad cells slots (pc) lv (ax_I x :: st) M := k x hf
theorem ax_nmL {x : Int64} {β : Type} {f : Int64 → Option β} {r : β} (hf : (some x).bind f = some r) (k : ∀ y, f y = some r → ax_W Z ad cells slots (pc) lv (ax_L y :: st) M) : ax_W Z ad cells slots (pc) lv (ax_L x :: st) M := k x hf
/-- a field is read: its link is own, or by the nest -/
theorem ax_getG (B : ax_B Z own cc ret) {idx ci k a q : Nat} {H : Heap} {locs : List Loc} {ls : Array Slot} {ws : va_W} {ad' : Nat} (hd : decode cc pc = .ok (.getfield idx, 3)) (hl : ax_fl own idx ci k) (hP : va_P (Z.2.2.2.2.2.2.2.2.2.2.1.1, Z.2.2.2.2.2.2.2.2.2.2.1.2.1) ax_cl ws H) (he : ws[q]? = some (ad', .inr (ci, ax_fs M ad ci a))) {rest : List Value}
    (kk : W Z.1 Z.2.1 Z.2.2.1 Z.2.2.2.1 Z.2.2.2.2.1 Z.2.2.2.2.2.1 Z.2.2.2.2.2.2.1 Z.2.2.2.2.2.2.2.1 Z.2.2.2.2.2.2.2.2.1 Z.2.2.2.2.2.2.2.2.2.1 H locs cells slots Z.2.2.2.2.2.2.2.2.2.2.2.2 (F0 Z.2.2.2.2.2.1 (pc + 3) ls (ax_v ad (ax_fv M (ax_ty ci k) a k) :: rest))) : W Z.1 Z.2.1 Z.2.2.1 Z.2.2.2.1 Z.2.2.2.2.1 Z.2.2.2.2.2.1 Z.2.2.2.2.2.2.1 Z.2.2.2.2.2.2.2.1 Z.2.2.2.2.2.2.2.2.1 Z.2.2.2.2.2.2.2.2.2.1 H locs cells slots Z.2.2.2.2.2.2.2.2.2.2.2.2 (F0 Z.2.2.2.2.2.1 pc ls (.ref ad' :: rest)) := by
  obtain ⟨hx, hb, hml, hr, hts, hown, hlk, hK, hsz⟩ := B
  obtain ⟨⟨C, T, N⟩, hc, hk, hlk⟩ := hl
  obtain ⟨o1, o2, o3, o4, o5, o6⟩ := ax_cl_ok hc
  have hv := ax_fs_at (M := M) (ad := ad) (a := a) (show k < ax_nf ci by rw [ax_nf_at hc]; exact hk)
  have hsame : ∀ x, Z.2.2.2.2.1.fieldFound? (T k).1 (T k).2.1 (T k).2.2.1 = some x → Z.2.2.2.2.1.fieldFound? C (T k).2.1 (T k).2.2.1 = some x := fun x h => by rw [o6 k hk] at h; exact h
  rcases hlk with w | ⟨host, w⟩
  · exact va_get hx hb hts o1 hown hK.1 hP q he hc k hk (hts _ w) hsame hv hd kk
  · exact va_getN hx hb hts o1 hown hK.1 hP q he hc k hk (va_Nw.use (ax_nest_tab _ w) (hK.2.1 _ w)) hsame hv hd kk
theorem ax_getI (B : ax_B Z own cc ret) {idx ci k : Nat} {o : Option Nat} {β : Type} {f : Int32 → Option β} {r : β} (hd : decode cc pc = .ok (.getfield idx, 3)) (hl : ax_fl own idx ci k) (ht : ax_ki ci k = true) (hf : (ax_gi M ci k o).bind f = some r) (kk : ∀ x, f x = some r → ax_W Z ad cells slots (pc + 3) lv (ax_I x :: st) M) : ax_W Z ad cells slots (pc) lv (ax_O o :: st) M := by
  intro H locs ls h1 h2 h3
  obtain ⟨x, e1, e2⟩ := ax_bd hf
  obtain ⟨a, ha, hx⟩ := Option.map_eq_some_iff.mp e1
  obtain ⟨rfl, hs⟩ := ax_ob_inv ha
  obtain ⟨dom, q, g1, g2, g3, g4, g5, g6, g7⟩ := h2.at hs
  have hw := kk x e2 H locs ls h1 h2 h3
  have hv : ax_v ad (ax_fv M (ax_ty ci k) a k) = ax_v ad (ax_I x) := by
    rw [ax_ki_fv ht, hx]
  exact ax_getG B hd hl g3 g7 (by rw [hv]; exact hw)
theorem ax_getL (B : ax_B Z own cc ret) {idx ci k : Nat} {o : Option Nat} {β : Type} {f : Int64 → Option β} {r : β} (hd : decode cc pc = .ok (.getfield idx, 3)) (hl : ax_fl own idx ci k) (ht : ax_kl ci k = true) (hf : (ax_gl M ci k o).bind f = some r) (kk : ∀ x, f x = some r → ax_W Z ad cells slots (pc + 3) lv (ax_L x :: st) M) : ax_W Z ad cells slots (pc) lv (ax_O o :: st) M := by
  intro H locs ls h1 h2 h3
  obtain ⟨x, e1, e2⟩ := ax_bd hf
  obtain ⟨a, ha, hx⟩ := Option.map_eq_some_iff.mp e1
  obtain ⟨rfl, hs⟩ := ax_ob_inv ha
  obtain ⟨dom, q, g1, g2, g3, g4, g5, g6, g7⟩ := h2.at hs
  have hw := kk x e2 H locs ls h1 h2 h3
  have hv : ax_v ad (ax_fv M (ax_ty ci k) a k) = ax_v ad (ax_L x) := by
    rw [ax_kl_fv ht, hx]
  exact ax_getG B hd hl g3 g7 (by rw [hv]; exact hw)
theorem ax_getR (B : ax_B Z own cc ret) {idx ci k : Nat} {o : Option Nat} {β : Type} {f : Option Nat → Option β} {r : β} (hd : decode cc pc = .ok (.getfield idx, 3)) (hl : ax_fl own idx ci k) (ht : ax_kr ci k = true) (hf : (ax_gr M ci k o).bind f = some r) (kk : ∀ x, f x = some r → ax_W Z ad cells slots (pc + 3) lv (ax_O x :: st) M) : ax_W Z ad cells slots (pc) lv (ax_O o :: st) M := by
  intro H locs ls h1 h2 h3
  obtain ⟨x, e1, e2⟩ := ax_bd hf
  obtain ⟨a, ha, hx⟩ := Option.map_eq_some_iff.mp e1
  obtain ⟨rfl, hs⟩ := ax_ob_inv ha
  obtain ⟨dom, q, g1, g2, g3, g4, g5, g6, g7⟩ := h2.at hs
  have hw := kk x e2 H locs ls h1 h2 h3
  have hv : ax_v ad (ax_fv M (ax_ty ci k) a k) = ax_v ad (ax_O x) := by
    rw [ax_kr_fv ht, hx]
  exact ax_getG B hd hl g3 g7 (by rw [hv]; exact hw)
theorem ax_iald (B : ax_B Z own cc ret) {t : Nat} {o : Option Nat} {i : Int32} {β : Type} {f : Int32 → Option β} {r : β} (hd : decode cc pc = .ok (.iaload, 1)) (ht : t < ax_nt) (he : ax_el t = .int) (hf : (ax_ri M t o i).bind f = some r) (kk : ∀ x, f x = some r → ax_W Z ad cells slots (pc + 1) lv (ax_I x :: st) M) : ax_W Z ad cells slots (pc) lv (ax_I i :: ax_O o :: st) M := by
  intro H locs ls h1 h2 h3
  obtain ⟨x, e1, e2⟩ := ax_bd hf
  obtain ⟨⟨a, j⟩, ha, hx⟩ := Option.map_eq_some_iff.mp e1
  obtain ⟨n, rfl, hs, hi, hj⟩ := ax_ix_inv ha
  dsimp only at hx hs hj
  subst hj
  obtain ⟨dom, q, g1, g2, g3, g4, g5, g6, g7⟩ := h2.at hs
  have hw := kk x e2 H locs ls h1 h2 h3
  rw [← hx] at hw
  simp only [ax_ce, he, ax_py] at g7
  exact va_iald B.1 B.2.1 B.2.2.2.2.2.2.2.1.1 g3 q t g7 (by rw [← he]; exact ax_ts_at ht) hi hd hw
theorem ax_zald (B : ax_B Z own cc ret) {t : Nat} {o : Option Nat} {i : Int32} {β : Type} {f : Int32 → Option β} {r : β} (hd : decode cc pc = .ok (.baload, 1)) (ht : t < ax_nt) (he : ax_el t = .boolean) (hf : (ax_ri M t o i).bind f = some r) (kk : ∀ x, f x = some r → ax_W Z ad cells slots (pc + 1) lv (ax_I x :: st) M) : ax_W Z ad cells slots (pc) lv (ax_I i :: ax_O o :: st) M := by
  intro H locs ls h1 h2 h3
  obtain ⟨x, e1, e2⟩ := ax_bd hf
  obtain ⟨⟨a, j⟩, ha, hx⟩ := Option.map_eq_some_iff.mp e1
  obtain ⟨n, rfl, hs, hi, hj⟩ := ax_ix_inv ha
  dsimp only at hx hs hj
  subst hj
  obtain ⟨dom, q, g1, g2, g3, g4, g5, g6, g7⟩ := h2.at hs
  have hw := kk x e2 H locs ls h1 h2 h3
  rw [← hx] at hw
  simp only [ax_ce, he, ax_py] at g7
  exact va_zald B.1 B.2.1 B.2.2.2.2.2.2.2.1.1 g3 q t g7 (by rw [← he]; exact ax_ts_at ht) hi hd hw
theorem ax_lald (B : ax_B Z own cc ret) {t : Nat} {o : Option Nat} {i : Int32} {β : Type} {f : Int64 → Option β} {r : β} (hd : decode cc pc = .ok (.laload, 1)) (ht : t < ax_nt) (he : ax_el t = .long) (hf : (ax_rl M t o i).bind f = some r) (kk : ∀ x, f x = some r → ax_W Z ad cells slots (pc + 1) lv (ax_L x :: st) M) : ax_W Z ad cells slots (pc) lv (ax_I i :: ax_O o :: st) M := by
  intro H locs ls h1 h2 h3
  obtain ⟨x, e1, e2⟩ := ax_bd hf
  obtain ⟨⟨a, j⟩, ha, hx⟩ := Option.map_eq_some_iff.mp e1
  obtain ⟨n, rfl, hs, hi, hj⟩ := ax_ix_inv ha
  dsimp only at hx hs hj
  subst hj
  obtain ⟨dom, q, g1, g2, g3, g4, g5, g6, g7⟩ := h2.at hs
  have hw := kk x e2 H locs ls h1 h2 h3
  rw [← hx] at hw
  simp only [ax_ce, he, ax_py] at g7
  exact va_lald B.1 B.2.1 B.2.2.2.2.2.2.2.1.1 g3 q t g7 (by rw [← he]; exact ax_ts_at ht) hi hd hw
theorem ax_aald (B : ax_B Z own cc ret) {t : Nat} {C : String} {o : Option Nat} {i : Int32} {β : Type} {f : Option Nat → Option β} {r : β} (hd : decode cc pc = .ok (.aaload, 1)) (ht : t < ax_nt) (he : ax_el t = .object C) (hf : (ax_rr M t o i).bind f = some r) (kk : ∀ x, f x = some r → ax_W Z ad cells slots (pc + 1) lv (ax_O x :: st) M) : ax_W Z ad cells slots (pc) lv (ax_I i :: ax_O o :: st) M := by
  intro H locs ls h1 h2 h3
  obtain ⟨x, e1, e2⟩ := ax_bd hf
  obtain ⟨⟨a, j⟩, ha, hx⟩ := Option.map_eq_some_iff.mp e1
  obtain ⟨n, rfl, hs, hi, hj⟩ := ax_ix_inv ha
  dsimp only at hx hs hj
  subst hj
  obtain ⟨dom, q, g1, g2, g3, g4, g5, g6, g7⟩ := h2.at hs
  have hw := kk x e2 H locs ls h1 h2 h3
  rw [← hx, List.map_cons, ax_v_rf] at hw
  simp only [ax_ce, he, ax_py] at g7
  exact va_aldq B.1 B.2.1 B.2.2.2.2.2.2.2.1.1 g3 q t g7 (by rw [← he]; exact ax_ts_at ht) hi hd hw
theorem ax_alen (B : ax_B Z own cc ret) {t : Nat} {o : Option Nat} {β : Type} {f : Int32 → Option β} {r : β} (hd : decode cc pc = .ok (.arraylength, 1)) (ht : t < ax_nt) (hf : (ax_al M t o).bind f = some r) (kk : ∀ x, f x = some r → ax_W Z ad cells slots (pc + 1) lv (ax_I x :: st) M) : ax_W Z ad cells slots (pc) lv (ax_O o :: st) M := by
  intro H locs ls h1 h2 h3
  obtain ⟨x, e1, e2⟩ := ax_bd hf
  obtain ⟨a, n, rfl, hs, hx⟩ := ax_al_inv e1
  obtain ⟨dom, q, g1, g2, g3, g4, g5, g6, g7⟩ := h2.at hs
  exact va_alen B.1 B.2.1 B.2.2.2.2.2.2.2.1.1 g3 q t g7 (ax_ts_at ht) hx.symm hd (kk x e2 H locs ls h1 h2 h3)
theorem ax_iast (B : ax_B Z own cc ret) {t : Nat} {o : Option Nat} {i : Int32} {v : Int32} {β : Type} {f : ax_M → Option β} {r : β} (hd : decode cc pc = .ok (.iastore, 1)) (ht : t < ax_nt) (he : ax_el t = .int) (hf : (ax_ti M t o i v).bind f = some r) (kk : ∀ M1, f M1 = some r → ax_W Z ad cells slots (pc + 1) lv (st) M1) : ax_W Z ad cells slots (pc) lv (ax_I v :: ax_I i :: ax_O o :: st) M := by
  intro H locs ls h1 h2 h3
  obtain ⟨M1, e1, e2⟩ := ax_bd hf
  obtain ⟨⟨a, j⟩, ha, hx⟩ := Option.map_eq_some_iff.mp e1
  obtain ⟨n, rfl, hs, hi, hj⟩ := ax_ix_inv ha
  dsimp only at hx hs hj
  subst hj
  obtain ⟨dom, q, g1, g2, g3, g4, g5, g6, g7⟩ := h2.at hs
  simp only [ax_ce, he, ax_py] at g7
  refine va_iast B.1 B.2.1 B.2.2.2.2.2.2.2.1.1 g3 g4 h3 q t g7 (by rw [← he]; exact ax_ts_at ht) hi hd (fun H1 locs1 k1 k2 k3 => ?_)
  have h2' : ax_P Z.2.2.2.2.2.2.2.2.2.2.1 ad M1 H1 := by
    subst hx
    refine ax_P.write (M := M) g1 g2 g5 g6 (fun _ => rfl) hs ?_ ?_ ?_ ?_ k1 k2
    · intro b j hb; simp [ax_i_wi, ax_i_wl, hb]
    · intro b j hb; simp [ax_l_wi, ax_l_wl, hb]
    · intro b j hb; rfl
    · simp only [ax_ce, he, ax_py]
      first | rw [ax_updI] | rw [ax_updL]
  exact kk M1 e2 H1 locs1 ls h1 h2' k3
theorem ax_last (B : ax_B Z own cc ret) {t : Nat} {o : Option Nat} {i : Int32} {v : Int64} {β : Type} {f : ax_M → Option β} {r : β} (hd : decode cc pc = .ok (.lastore, 1)) (ht : t < ax_nt) (he : ax_el t = .long) (hf : (ax_tl M t o i v).bind f = some r) (kk : ∀ M1, f M1 = some r → ax_W Z ad cells slots (pc + 1) lv (st) M1) : ax_W Z ad cells slots (pc) lv (ax_L v :: ax_I i :: ax_O o :: st) M := by
  intro H locs ls h1 h2 h3
  obtain ⟨M1, e1, e2⟩ := ax_bd hf
  obtain ⟨⟨a, j⟩, ha, hx⟩ := Option.map_eq_some_iff.mp e1
  obtain ⟨n, rfl, hs, hi, hj⟩ := ax_ix_inv ha
  dsimp only at hx hs hj
  subst hj
  obtain ⟨dom, q, g1, g2, g3, g4, g5, g6, g7⟩ := h2.at hs
  simp only [ax_ce, he, ax_py] at g7
  refine va_last B.1 B.2.1 B.2.2.2.2.2.2.2.1.1 g3 g4 h3 q t g7 (by rw [← he]; exact ax_ts_at ht) hi hd (fun H1 locs1 k1 k2 k3 => ?_)
  have h2' : ax_P Z.2.2.2.2.2.2.2.2.2.2.1 ad M1 H1 := by
    subst hx
    refine ax_P.write (M := M) g1 g2 g5 g6 (fun _ => rfl) hs ?_ ?_ ?_ ?_ k1 k2
    · intro b j hb; simp [ax_i_wi, ax_i_wl, hb]
    · intro b j hb; simp [ax_l_wi, ax_l_wl, hb]
    · intro b j hb; rfl
    · simp only [ax_ce, he, ax_py]
      first | rw [ax_updI] | rw [ax_updL]
  exact kk M1 e2 H1 locs1 ls h1 h2' k3
theorem ax_zast (B : ax_B Z own cc ret) {t : Nat} {o : Option Nat} {i v : Int32} {β : Type} {f : ax_M → Option β} {r : β} (hd : decode cc pc = .ok (.bastore, 1)) (ht : t < ax_nt) (he : ax_el t = .boolean) (hv : vp_nar .boolean v = v) (hf : (ax_ti M t o i v).bind f = some r) (kk : ∀ M1, f M1 = some r → ax_W Z ad cells slots (pc + 1) lv (st) M1) : ax_W Z ad cells slots (pc) lv (ax_I v :: ax_I i :: ax_O o :: st) M := by
  intro H locs ls h1 h2 h3
  obtain ⟨M1, e1, e2⟩ := ax_bd hf
  obtain ⟨⟨a, j⟩, ha, hx⟩ := Option.map_eq_some_iff.mp e1
  obtain ⟨n, rfl, hs, hi, hj⟩ := ax_ix_inv ha
  dsimp only at hx hs hj
  subst hj
  obtain ⟨dom, q, g1, g2, g3, g4, g5, g6, g7⟩ := h2.at hs
  simp only [ax_ce, he, ax_py] at g7
  refine va_zast B.1 B.2.1 B.2.2.2.2.2.2.2.1.1 g3 g4 h3 q t g7 (by rw [← he]; exact ax_ts_at ht) hi hd (fun H1 locs1 k1 k2 k3 => ?_)
  rw [hv] at k1 k2
  have h2' : ax_P Z.2.2.2.2.2.2.2.2.2.2.1 ad M1 H1 := by
    subst hx
    refine ax_P.write (M := M) g1 g2 g5 g6 (fun _ => rfl) hs ?_ ?_ ?_ ?_ k1 k2
    · intro b j hb; simp [ax_i_wi, hb]
    · intro b j hb; rfl
    · intro b j hb; rfl
    · simp only [ax_ce, he, ax_py]
      rw [ax_updI]
  exact kk M1 e2 H1 locs1 ls h1 h2' k3
end
end
section
/-! CONTRACTS, CALLS, RETURNS, NEW CELLS -/
theorem ax_sl_len (ad : Nat → Nat) (as : List ax_U) : (lg_sl (as.map (ax_v ad))).length = (as.map ax_ct).sum := by
  induction as with
  | nil => rfl
  | cons v t ih =>
    simp only [lg_sl, List.map_cons, List.flatMap_cons, List.length_append, ax_v_cat, List.sum_cons] at ih ⊢
    rw [ih]
    rcases v with x | x | o <;> simp [ax_ct]
def ax_la : Nat → List ax_U → List (Nat × ax_U)
  | _, [] => []
  | i, v :: vs => (i, v) :: ax_la (i + ax_ct v) vs
theorem ax_lv_args (ad : Nat → Nat) (as : List ax_U) : ∀ i, lv_args i (as.map (ax_v ad)) = ax_lv ad (ax_la i as) := by
  induction as with
  | nil => intro i; rfl
  | cons v t ih =>
    intro i
    simp only [List.map_cons, lv_args, ax_v_cat, ih]
    rcases v with x | x | o <;> rfl
theorem ax_v_st (ad : Nat → Nat) (st : List ax_U) : ((st.map (ax_v ad)).map fun v => v.category).sum = (st.map ax_ct).sum := by
  rw [List.map_map]
  congr 1
  exact List.map_congr_left (fun v _ => ax_v_cat ad v)
def ax_rm (d mc ms : Nat) : Room := { frames := d, cells := mc, slots := ms, locals := 37 * d }
def ax_Qc (G : ax_G) (ad : Nat → Nat) (gs : List Nat) (r : Option ax_U) (M' : ax_M) : Array Value → State → Outcome → State → Prop := fun _ st o t =>
  (∃ ad' : Nat → Nat, (∀ a, a ∉ gs → ad' a = ad a) ∧ o = .returned (r.map (ax_v ad')) ∧ ax_P G ad' M' t.heap) ∧ va_F (ax_A G) st t
/-- a method's contract: from the memory M, with these values, it answers r and leaves M'; 'gs': the ids that it makes -/
def ax_C (l : Launch) (G : ax_G) (y : MethodName) (cc : ByteArray) (nL : Nat) (ret : Option FieldType) (gs : List Nat) (d mc ms : Nat) (as : List ax_U) (M : ax_M) (r : Option ax_U) (M' : ax_M) : Prop :=
  ∀ ad : Nat → Nat, Met l y (Cond.code y cc nL ret :: ax_ws) (ax_rm d mc ms) (va_Pc (as.map (ax_v ad)) (fun U => G.2.2.2 ≤ U.heap.size ∧ ax_P G ad M U.heap ∧ ax_K G U)) (ax_Qc G ad gs r M') mc ms (ax_A G)
/-- the room of a walk -/
abbrev ax_R (Z : ax_Z) (d mc ms : Nat) : Prop := d ≤ Z.2.2.2.1.frames ∧ 37 * d ≤ Z.2.2.2.1.locals ∧ mc ≤ Z.2.2.2.1.cells ∧ ms ≤ Z.2.2.2.1.slots
/-- where a walk ends -/
abbrev ax_E (Z : ax_Z) (ad0 : Nat → Nat) (gs : List Nat) (mc ms : Nat) (r : Option ax_U) (M' : ax_M) : Prop := Z.2.2.2.2.2.2.2.2.2.2.2.2 = MQ Z.2.2.2.2.2.2.2.1 (ax_Qc Z.2.2.2.2.2.2.2.2.2.2.1 ad0 gs r M') Z.2.2.2.2.2.2.1 Z.2.2.2.2.1 mc ms (ax_A Z.2.2.2.2.2.2.2.2.2.2.1)
theorem ax_blind {G : ax_G} {ad : Nat → Nat} {M : ax_M} {as : List Value} : FrameBlind (va_Pc as (fun U => G.2.2.2 ≤ U.heap.size ∧ ax_P G ad M U.heap ∧ ax_K G U)) := by
  intro a U g mk q
  obtain ⟨q0, q1, q2, q3⟩ := q
  exact ⟨q0, q1, q2, ax_K.same (u := U) (U := U.calling g mk a) rfl q3⟩
/-- a contract, out of the walk of its body -/
theorem ax_ofW {l : Launch} {G : ax_G} {y : MethodName} {cc : ByteArray} {nL : Nat} {ret : Option FieldType} {gs : List Nat} {d mc ms : Nat} {as : List ax_U} {M M' : ax_M} {r : Option ax_U} (hy : plainName y.cls = true) (hn : (as.map ax_ct).sum ≤ nL) {lv0 : List (Nat × ax_U)} (hl0 : ax_la 0 as = lv0)
    (body : ∀ (Z : ax_Z) (ad : Nat → Nat), ax_B Z y.cls cc ret → Z.2.2.2.2.2.2.2.2.1.name = y.name → Z.2.1 = l → Z.2.2.2.2.2.2.2.2.2.2.1 = G → Z.2.2.2.2.2.2.2.2.2.2.2.1 = nL → ax_R Z d mc ms → ax_E Z ad gs mc ms r M' → ax_W Z ad 0 0 0 lv0 [] M) : ax_C l G y cc nL ret gs d mc ms as M r M' := by
  subst hl0
  intro ad
  refine Met.ofW (cc := cc) (maxL := nL) (ret := ret) hy rfl ?_
  intro p e s m args below meth c s₁ B hml hv
  obtain ⟨hv, hsz, hP, hK⟩ := hv
  have hts := atoms_spec (ws := Cond.code y cc nL ret :: ax_ws) B.pre
  have hown : s.vm.findClass y.cls = some m.cls := findClass_of_methodNamed B.named
  have hb := body (p, l, e, ax_rm d mc ms, s, m, args, below, meth, c, G, nL, MQ below (ax_Qc G ad gs r M') args s mc ms (ax_A G)) ad
    ⟨B.exec, B.bytes, hml, B.returns, fun w hw => hts w (List.mem_cons_of_mem _ hw), hown, B.notSynchronized, hK, hsz⟩ (name_of_methodNamed B.named B.method).1 rfl rfl rfl ⟨Nat.le_refl _, Nat.le_refl _, Nat.le_refl _, Nat.le_refl _⟩ rfl
  have hl := lv_entry (as.map (ax_v ad)) (n := nL) (by rw [ax_sl_len]; exact hn)
  rw [hv, lg_entry_eq]
  rw [hv] at hb
  rw [ax_lv_args] at hl
  exact hb s.heap [] _ hl hP va_S.rf
section
variable {Z : ax_Z} {own : String} {cc : ByteArray} {ret : Option FieldType} {ad : Nat → Nat} {cells slots pc : Nat} {lv : List (Nat × ax_U)} {st : List ax_U} {M : ax_M}
/-- behind a call -/
theorem ax_behind {p : Program} {l : Launch} {e : Env} {R : Room} {s : State} {m : MethodId} {args : Array Value} {below : List Frame} {meth : Method} {c : Code} {H : Heap} {locs : List Loc} {cells slots mc ms pc : Nat} {Q : State → Prop} {ls : Array Slot} {st0 rest : List Value} {G : ax_G} {ad : Nat → Nat} {gs : List Nat} {M' : ax_M} {r : Option ax_U} {a : Array Value}
    (hr : va_Run p l e R s m args below meth c H locs cells slots mc ms (F0 m pc ls st0) rest (ax_Qc G ad gs r M' a) (ax_A G)) (hS : va_S (ax_A G) s.heap H locs)
    (kk : ∀ (ad' : Nat → Nat) (H1 : Heap) (locs1 : List Loc), (∀ a, a ∉ gs → ad' a = ad a) → ax_P G ad' M' H1 → va_S (ax_A G) s.heap H1 locs1 → W p l e R s m args below meth c H1 locs1 (cells + mc) (slots + ms) Q (F0 m (pc + 3) ls ((r.map (ax_v ad')).toList ++ rest))) : W p l e R s m args below meth c H locs cells slots Q (F0 m pc ls st0) := by
  intro T hT X
  obtain ⟨v, st₀, t, T', L, h0, X', hL, e1, e2, ⟨⟨ad', h1, hv, hP⟩, hz, hk⟩, stp⟩ := hr T hT X
  cases hv
  rw [h0] at hz hk
  obtain ⟨t2, a1, b1⟩ := kk ad' T'.heap (locs ++ L) h1 (by rw [e1]; exact hP)
    ⟨Nat.le_trans hS.1 (by rw [e1]; exact hz), fun q g1 g2 => by rw [e1, hk q (Nat.lt_of_lt_of_le g1 hS.1) g2]; exact hS.2.1 q g1 g2, fun q hq => by
      rcases List.mem_append.mp hq with h | h
      · exact hS.2.2 q h
      · exact hL q h⟩ T' rfl X'
  exact ⟨t2, stp t2 a1, b1⟩
theorem ax_pay {s : State} {args : Array Value} {y : MethodName} {bytes : ByteArray} {maxL : Nat} {rt : Option FieldType} (hts : ∀ w ∈ ax_ws, w.before args s = true) (hc : Cond.code y bytes maxL rt ∈ ax_ws) : ∀ w ∈ Cond.code y bytes maxL rt :: ax_ws, ∀ (a' : Array Value) (U : State), s.WarmedH U.vm → w.before a' U = true := by
  have key : ∀ w ∈ ax_ws, ∀ (a' : Array Value) (U : State), s.WarmedH U.vm → w.before a' U = true := fun w hw a' U hW => word_at hW (ax_ws_good w hw) (hts w hw)
  intro w hw
  rcases List.mem_cons.mp hw with rfl | h
  · exact key _ hc
  · exact key _ h
theorem ax_pre {s : State} {H : Heap} {G : ax_G} {as : List ax_U} (hK : ax_K G s) (hsz : G.2.2.2 ≤ H.size) (hP : ax_P G ad M H) : ∀ U : State, U.heap = H → s.WarmedH U.vm → va_Pc (as.map (ax_v ad)) (fun U => G.2.2.2 ≤ U.heap.size ∧ ax_P G ad M U.heap ∧ ax_K G U) (as.map (ax_v ad)).toArray U :=
  fun U hU hW => ⟨rfl, by rw [hU]; exact hsz, by rw [hU]; exact hP, hK.moved hW⟩
theorem ax_len {y : MethodName} {n : Nat} (h : (parseMethodDescriptor y.desc).map (fun d => d.parameters.length) = some n) : ∀ sig, parseMethodDescriptor y.desc = some sig → n = sig.parameters.length := by
  intro sig hs
  rw [hs] at h
  exact (Option.some.inj h).symm
/-- what is left to be walked behind a call -/
abbrev ax_KK (Z : ax_Z) (ad : Nat → Nat) (gs : List Nat) (cells slots pc : Nat) (lv : List (Nat × ax_U)) (st : List ax_U) (M : ax_M) (r : Option ax_U) (M' : ax_M) : Prop :=
  ∀ (ad' : Nat → Nat) (H : Heap) (locs : List Loc) (ls : Array Slot), lv_has ls Z.2.2.2.2.2.2.2.2.2.2.2.1 (ax_lv ad lv) → (∀ a, a ∉ gs → ad' a = ad a) → ax_P Z.2.2.2.2.2.2.2.2.2.2.1 ad' M' H → va_S (ax_A Z.2.2.2.2.2.2.2.2.2.2.1) Z.2.2.2.2.1.heap H locs → W Z.1 Z.2.1 Z.2.2.1 Z.2.2.2.1 Z.2.2.2.2.1 Z.2.2.2.2.2.1 Z.2.2.2.2.2.2.1 Z.2.2.2.2.2.2.2.1 Z.2.2.2.2.2.2.2.2.1 Z.2.2.2.2.2.2.2.2.2.1 H locs cells slots Z.2.2.2.2.2.2.2.2.2.2.2.2 (F0 Z.2.2.2.2.2.1 (pc + 3) ls ((r.map (ax_v ad')).toList ++ st.map (ax_v ad)))
/-- a static method is called -/
theorem ax_callS (B : ax_B Z own cc ret) {d0 mc0 ms0 : Nat} (hR : ax_R Z d0 mc0 ms0) {idx : Nat} {y : MethodName} {bytes : ByteArray} {maxL n d mc ms : Nat} {rt : Option FieldType} {gs : List Nat} {as : List ax_U} {M' : ax_M} {r : Option ax_U} {stk : List ax_U}
    (hd : decode cc pc = .ok (.invokestatic idx, 3)) (hl : ax_ml own idx y) (hw : ax_ms y bytes maxL rt n) (hC : ax_C Z.2.1 Z.2.2.2.2.2.2.2.2.2.2.1 y bytes maxL rt gs d mc ms as M r M') (hst : stk = as.reverse ++ st) (hn : as.length = n) (hf : d + 1 ≤ d0) (hm : maxL ≤ 18) (hc : cells + mc ≤ mc0) (hs : slots + ms ≤ ms0) (h8 : (st.map ax_ct).sum ≤ 8)
    (kk : ax_KK Z ad gs (cells + mc) (slots + ms) pc lv st M r M') : ax_W Z ad cells slots pc lv stk M := by
  intro H locs ls h1 h2 h3
  obtain ⟨hx, hb, hml, hr, hts, hown, hlk, hK, hsz⟩ := B
  obtain ⟨w1, w2, w3, w4, w5, w6⟩ := hw
  have hlo : 8 + (maxL + 11) + (ax_rm d mc ms).locals ≤ Z.2.2.2.1.locals := by
    have := hR.2.1
    show 8 + (maxL + 11) + 37 * d ≤ _
    omega
  have hfr : (ax_rm d mc ms).frames + 1 ≤ Z.2.2.2.1.frames := Nat.le_trans hf hR.1
  have hroom : cells + mc ≤ Z.2.2.2.1.cells ∧ slots + ms ≤ Z.2.2.2.1.slots := ⟨Nat.le_trans hc hR.2.2.1, Nat.le_trans hs hR.2.2.2⟩
  have hstk : stk.map (ax_v ad) = (as.map (ax_v ad)).reverse ++ st.map (ax_v ad) := by rw [hst, List.map_append, List.map_reverse]
  have hH : Z.2.2.2.2.2.2.2.2.2.2.1.2.2.2 ≤ H.size := Nat.le_trans hsz h3.1
  have h8' : ((st.map (ax_v ad)).map fun v => v.category).sum ≤ 8 := by rw [ax_v_st]; exact h8
  rcases hl with w7 | ⟨host, w7⟩
  · exact ax_behind (va_runS (As := as.map (ax_v ad)) (rest := st.map (ax_v ad)) ⟨hx, hb, hml, hown, hts⟩ (hC ad) ⟨⟨rfl, rfl, hfr, hlo, ax_pay hts w1, List.mem_cons_self, hts _ w1, hts _ w3, ⟨w4, w5⟩, ax_len w6, hts _ w7⟩, hts _ w2⟩ ⟨ax_blind, ax_pre hK hH h2⟩ rfl (by rw [List.length_map]; exact hn) h1.1 hstk (lv_room h8') hd hroom) h3 (fun ad' H1 locs1 g1 g3 g4 => kk ad' H1 locs1 ls h1 g1 g3 g4)
  · exact ax_behind (va_runSN (As := as.map (ax_v ad)) (rest := st.map (ax_v ad)) ⟨hx, hb, hml, hown, hts⟩ (hC ad) ⟨⟨⟨rfl, rfl, hfr, hlo, ax_pay hts w1, List.mem_cons_self⟩, hts _ w1, hts _ w3, ⟨w4, w5⟩, ax_len w6, va_Nw.use (ax_nest_tab _ w7) (hK.2.1 _ w7)⟩, hts _ w2, trivial⟩ ⟨ax_blind, ax_pre hK hH h2⟩ rfl (by rw [List.length_map]; exact hn) h1.1 hstk (lv_room h8') hd hroom) h3 (fun ad' H1 locs1 g1 g3 g4 => kk ad' H1 locs1 ls h1 g1 g3 g4)
/-- a method of an object is called; the object is there, of the class -/
theorem ax_callV (B : ax_B Z own cc ret) {d0 mc0 ms0 : Nat} (hR : ax_R Z d0 mc0 ms0) {idx : Nat} {y : MethodName} {bytes : ByteArray} {maxL n d mc ms : Nat} {rt : Option FieldType} {gs : List Nat} {as : List ax_U} {M' : ax_M} {r : Option ax_U} {stk : List ax_U} {o ci : Nat}
    (hd : decode cc pc = .ok (.invokevirtual idx, 3)) (hl : ax_ml own idx y) (hw : ax_mv y bytes maxL rt n ci) (ho : ax_s M o = some (.inl ci)) (hC : ax_C Z.2.1 Z.2.2.2.2.2.2.2.2.2.2.1 y bytes maxL rt gs d mc ms (ax_O (some o) :: as) M r M') (hst : stk = as.reverse ++ ax_O (some o) :: st) (hn : as.length = n) (hf : d + 1 ≤ d0) (hm : maxL ≤ 18) (hc : cells + mc ≤ mc0) (hs : slots + ms ≤ ms0) (h8 : (st.map ax_ct).sum ≤ 8)
    (kk : ax_KK Z ad gs (cells + mc) (slots + ms) pc lv st M r M') : ax_W Z ad cells slots pc lv stk M := by
  intro H locs ls h1 h2 h3
  obtain ⟨hx, hb, hml, hr, hts, hown, hlk, hK, hsz⟩ := B
  obtain ⟨w1, w2, w8, w3, ⟨w4, w5, w6⟩, ⟨C, T, N⟩, hcl, hC0⟩ := hw
  have hlo : 8 + (maxL + 11) + (ax_rm d mc ms).locals ≤ Z.2.2.2.1.locals := by
    have := hR.2.1
    show 8 + (maxL + 11) + 37 * d ≤ _
    omega
  have hfr : (ax_rm d mc ms).frames + 1 ≤ Z.2.2.2.1.frames := Nat.le_trans hf hR.1
  have hroom : cells + mc ≤ Z.2.2.2.1.cells ∧ slots + ms ≤ Z.2.2.2.1.slots := ⟨Nat.le_trans hc hR.2.2.1, Nat.le_trans hs hR.2.2.2⟩
  have hstk : stk.map (ax_v ad) = (as.map (ax_v ad)).reverse ++ .ref (ad o) :: st.map (ax_v ad) := by rw [hst, List.map_append, List.map_reverse]; rfl
  have hH : Z.2.2.2.2.2.2.2.2.2.2.1.2.2.2 ≤ H.size := Nat.le_trans hsz h3.1
  have h8' : ((st.map (ax_v ad)).map fun v => v.category).sum ≤ 8 := by rw [ax_v_st]; exact h8
  have hpre := ax_pre (as := ax_O (some o) :: as) hK hH h2
  obtain ⟨dom, q, g1, g2, g3, g4, g5, g6, g7⟩ := h2.at ho
  have hrec := va_recv hK.1 g3 hcl (he := g7)
  dsimp only at hrec hC0
  rw [hC0] at hrec
  rcases hl with w7 | ⟨host, w7⟩
  · exact ax_behind (va_runV (As := as.map (ax_v ad)) (rest := st.map (ax_v ad)) ⟨hx, hb, hml, hown, hts⟩ (hC ad) ⟨⟨rfl, rfl, hfr, hlo, ax_pay hts w1, List.mem_cons_self, hts _ w1, hts _ w3, ⟨w4, w5⟩, ax_len w6, hts _ w7⟩, hts _ w2, hts _ w8⟩ ⟨ax_blind, hrec, hpre⟩ rfl (by rw [List.length_map]; exact hn) h1.1 hstk (lv_room h8') hd hroom) h3 (fun ad' H1 locs1 g1 g3 g4 => kk ad' H1 locs1 ls h1 g1 g3 g4)
  · exact ax_behind (va_runVN (As := as.map (ax_v ad)) (rest := st.map (ax_v ad)) ⟨hx, hb, hml, hown, hts⟩ (hC ad) ⟨⟨⟨rfl, rfl, hfr, hlo, ax_pay hts w1, List.mem_cons_self⟩, hts _ w1, hts _ w3, ⟨w4, w5⟩, ax_len w6, va_Nw.use (ax_nest_tab _ w7) (hK.2.1 _ w7)⟩, hts _ w2, hts _ w8⟩ ⟨ax_blind, hrec, hpre⟩ rfl (by rw [List.length_map]; exact hn) h1.1 hstk (lv_room h8') hd hroom) h3 (fun ad' H1 locs1 g1 g3 g4 => kk ad' H1 locs1 ls h1 g1 g3 g4)
/-- a constructor is called -/
theorem ax_callI (B : ax_B Z own cc ret) {d0 mc0 ms0 : Nat} (hR : ax_R Z d0 mc0 ms0) {idx : Nat} {y : MethodName} {bytes : ByteArray} {maxL n d mc ms : Nat} {rt : Option FieldType} {gs : List Nat} {as : List ax_U} {M' : ax_M} {r : Option ax_U} {stk : List ax_U} {o : Nat}
    (hd : decode cc pc = .ok (.invokespecial idx, 3)) (hl : ax_ml own idx y) (hw : ax_mi y bytes maxL n) (hrt : rt = none) (hC : ax_C Z.2.1 Z.2.2.2.2.2.2.2.2.2.2.1 y bytes maxL rt gs d mc ms (ax_O (some o) :: as) M r M') (hst : stk = as.reverse ++ ax_O (some o) :: st) (hn : as.length = n) (hf : d + 1 ≤ d0) (hm : maxL ≤ 18) (hc : cells + mc ≤ mc0) (hs : slots + ms ≤ ms0) (h8 : (st.map ax_ct).sum ≤ 8)
    (kk : ax_KK Z ad gs (cells + mc) (slots + ms) pc lv st M r M') : ax_W Z ad cells slots pc lv stk M := by
  subst hrt
  intro H locs ls h1 h2 h3
  obtain ⟨hx, hb, hml, hr, hts, hown, hlk, hK, hsz⟩ := B
  obtain ⟨w1, w2, w8, w3, w4, w5, w6⟩ := hw
  have hlo : 8 + (maxL + 11) + (ax_rm d mc ms).locals ≤ Z.2.2.2.1.locals := by
    have := hR.2.1
    show 8 + (maxL + 11) + 37 * d ≤ _
    omega
  have hfr : (ax_rm d mc ms).frames + 1 ≤ Z.2.2.2.1.frames := Nat.le_trans hf hR.1
  have hroom : cells + mc ≤ Z.2.2.2.1.cells ∧ slots + ms ≤ Z.2.2.2.1.slots := ⟨Nat.le_trans hc hR.2.2.1, Nat.le_trans hs hR.2.2.2⟩
  have hstk : stk.map (ax_v ad) = (as.map (ax_v ad)).reverse ++ .ref (ad o) :: st.map (ax_v ad) := by rw [hst, List.map_append, List.map_reverse]; rfl
  have hH : Z.2.2.2.2.2.2.2.2.2.2.1.2.2.2 ≤ H.size := Nat.le_trans hsz h3.1
  have h8' : ((st.map (ax_v ad)).map fun v => v.category).sum ≤ 8 := by rw [ax_v_st]; exact h8
  have hpre := ax_pre (as := ax_O (some o) :: as) hK hH h2
  rcases hl with w7 | ⟨host, w7⟩
  · exact ax_behind (va_runI (As := as.map (ax_v ad)) (rest := st.map (ax_v ad)) ⟨hx, hb, hml, hown, hts⟩ (hC ad) ⟨⟨rfl, rfl, hfr, hlo, ax_pay hts w1, List.mem_cons_self, hts _ w1, hts _ w3, ⟨w4, w5⟩, ax_len w6, hts _ w7⟩, w8, hts _ w2⟩ ⟨ax_blind, hpre⟩ rfl (by rw [List.length_map]; exact hn) h1.1 hstk (lv_room h8') hd hroom) h3 (fun ad' H1 locs1 g1 g3 g4 => kk ad' H1 locs1 ls h1 g1 g3 g4)
  · exact ax_behind (va_runIN (As := as.map (ax_v ad)) (rest := st.map (ax_v ad)) ⟨hx, hb, hml, hown, hts⟩ (hC ad) ⟨⟨⟨rfl, rfl, hfr, hlo, ax_pay hts w1, List.mem_cons_self⟩, hts _ w1, hts _ w3, ⟨w4, w5⟩, ax_len w6, va_Nw.use (ax_nest_tab _ w7) (hK.2.1 _ w7)⟩, w8, hts _ w2⟩ ⟨ax_blind, hpre⟩ rfl (by rw [List.length_map]; exact hn) h1.1 hstk (lv_room h8') hd hroom) h3 (fun ad' H1 locs1 g1 g3 g4 => kk ad' H1 locs1 ls h1 g1 g3 g4)
/-- no id moved: the walk goes on -/
theorem ax_kk0 {r : Option ax_U} {M' : ax_M} (k : ax_W Z ad cells slots (pc + 3) lv (r.toList ++ st) M') : ax_KK Z ad [] cells slots pc lv st M r M' := by
  intro ad' H locs ls h1 g1 g3 g4
  have e : ad' = ad := funext fun a => g1 a (by simp)
  subst e
  have h := k H locs ls h1 g3 g4
  rw [List.map_append] at h
  cases r <;> exact h
/-- the call rows with the function's equation in them: a value comes back -/
theorem ax_kkV {v : ax_U} {M' : ax_M} (k : ax_W Z ad cells slots (pc + 3) lv (v :: st) M') : ax_KK Z ad [] cells slots pc lv st M (some v) M' := ax_kk0 k
theorem ax_kkN {M' : ax_M} (k : ax_W Z ad cells slots (pc + 3) lv st M') : ax_KK Z ad [] cells slots pc lv st M none M' := ax_kk0 k
end
end
section
/-! RETURNS, NEW CELLS, FIELDS WRITTEN -/
/-- a value is none of these ids -/
def ax_nr (gs : List Nat) (v : ax_U) : Prop := ∀ a, v = ax_O (some a) → a ∉ gs
theorem ax_nr_int {gs : List Nat} {x : Int32} : ax_nr gs (ax_I x) := fun a h => by cases h
theorem ax_nr_long {gs : List Nat} {x : Int64} : ax_nr gs (ax_L x) := fun a h => by cases h
theorem ax_nr_rf {gs : List Nat} {o : Option Nat} (h : ∀ g ∈ gs, o ≠ some g) : ax_nr gs (ax_O o) := by
  intro a e
  cases e
  exact fun z => h _ z rfl
theorem ax_v_nr {gs : List Nat} {ad ad' : Nat → Nat} (h : ∀ a, a ∉ gs → ad' a = ad a) {v : ax_U} (hv : ax_nr gs v) : ax_v ad' v = ax_v ad v := by
  rcases v with x | x | o
  · rfl
  · rfl
  · cases o with
    | none => rfl
    | some a => simp only [ax_v, Option.map_some, h a (hv a rfl)]
theorem ax_lv_nr {gs : List Nat} {ad ad' : Nat → Nat} (h : ∀ a, a ∉ gs → ad' a = ad a) {lv : List (Nat × ax_U)} (hv : ∀ q ∈ lv, ax_nr gs q.2) : ax_lv ad' lv = ax_lv ad lv := by
  unfold ax_lv
  exact List.map_congr_left (fun q hq => by rw [ax_v_nr h (hv q hq)])
theorem ax_st_nr {gs : List Nat} {ad ad' : Nat → Nat} (h : ∀ a, a ∉ gs → ad' a = ad a) {st : List ax_U} (hv : ∀ v ∈ st, ax_nr gs v) : st.map (ax_v ad') = st.map (ax_v ad) := List.map_congr_left (fun v hq => ax_v_nr h (hv v hq))
/-- a new cell at the id g: it isn't there yet, and none of these references is it -/
def ax_nw (M : ax_M) (g : Nat) (x : ax_X) (refs : List (Option Nat)) : Option ax_M := if ax_s M g = none ∧ ∀ o ∈ refs, o ≠ some g then some (ax_wn M g x) else none
section
variable {Z : ax_Z} {own : String} {cc : ByteArray} {ret : Option FieldType} {ad : Nat → Nat} {cells slots pc : Nat} {lv : List (Nat × ax_U)} {st : List ax_U} {M : ax_M}
theorem ax_ireturn {ty : FieldType} (B : ax_B Z own cc (some ty)) {ad0 : Nat → Nat} {gs : List Nat} {mc ms : Nat} {q : Int32 × ax_M} (hE : ax_E Z ad0 gs mc ms (some (ax_I q.1)) q.2) {v : Int32} (hd : decode cc pc = .ok (.ireturn, 1)) (hf : some (v, M) = some q) (hn : narrow ty (.int v) = .int v) (hag : ∀ a, a ∉ gs → ad a = ad0 a) (hc : cells ≤ mc) (hs : slots ≤ ms) : ax_W Z ad cells slots pc lv [ax_I v] M := by
  intro H locs ls h1 h2 h3
  cases hf
  rw [hE]
  refine W.widen hc hs ?_
  exact W.zret B.1 B.2.1 B.2.2.2.1 hn (fun t ht hW => ⟨⟨ad, hag, rfl, by rw [ht]; exact h2⟩, h3.F ht⟩) h3.2.2 hd B.2.2.2.2.2.2.1
theorem ax_lreturn (B : ax_B Z own cc (some .long)) {ad0 : Nat → Nat} {gs : List Nat} {mc ms : Nat} {q : Int64 × ax_M} (hE : ax_E Z ad0 gs mc ms (some (ax_L q.1)) q.2) {v : Int64} (hd : decode cc pc = .ok (.lreturn, 1)) (hf : some (v, M) = some q) (hag : ∀ a, a ∉ gs → ad a = ad0 a) (hc : cells ≤ mc) (hs : slots ≤ ms) : ax_W Z ad cells slots pc lv [ax_L v] M := by
  intro H locs ls h1 h2 h3
  cases hf
  rw [hE]
  refine W.widen hc hs ?_
  exact W.lret B.1 B.2.1 B.2.2.2.1 (fun t ht hW => ⟨⟨ad, hag, rfl, by rw [ht]; exact h2⟩, h3.F ht⟩) h3.2.2 hd B.2.2.2.2.2.2.1
theorem ax_areturn {ty : FieldType} (B : ax_B Z own cc (some ty)) {ad0 : Nat → Nat} {gs : List Nat} {mc ms : Nat} {q : Option Nat × ax_M} (hE : ax_E Z ad0 gs mc ms (some (ax_O q.1)) q.2) {v : Option Nat} (hd : decode cc pc = .ok (.areturn, 1)) (hf : some (v, M) = some q) (hty : (∃ n, ty = .object n) ∨ ∃ t, ty = .array t) (hag : ∀ a, a ∉ gs → ad a = ad0 a) (hc : cells ≤ mc) (hs : slots ≤ ms) : ax_W Z ad cells slots pc lv [ax_O v] M := by
  intro H locs ls h1 h2 h3
  cases hf
  rw [hE]
  refine W.widen hc hs ?_
  exact W.aret B.1 B.2.1 B.2.2.2.1 hty (by rw [ax_v_rf]; exact va_rf_or _) (fun t ht hW => ⟨⟨ad, hag, rfl, by rw [ht]; exact h2⟩, h3.F ht⟩) h3.2.2 hd B.2.2.2.2.2.2.1
theorem ax_vreturn (B : ax_B Z own cc none) {ad0 : Nat → Nat} {gs : List Nat} {mc ms : Nat} {q : ax_M} (hE : ax_E Z ad0 gs mc ms none q) (hd : decode cc pc = .ok (.return_, 1)) (hf : some M = some q) (hag : ∀ a, a ∉ gs → ad a = ad0 a) (hc : cells ≤ mc) (hs : slots ≤ ms) : ax_W Z ad cells slots pc lv [] M := by
  intro H locs ls h1 h2 h3
  cases hf
  rw [hE]
  refine W.widen hc hs ?_
  exact W.vret B.1 B.2.1 B.2.2.2.1 (fun t ht hW => ⟨⟨ad, hag, rfl, by rw [ht]; exact h2⟩, h3.F ht⟩) h3.2.2 hd B.2.2.2.2.2.2.1
end
end
section
/-! FIELDS WRITTEN -/
def ax_fin (ci k : Nat) : Bool := match ax_cl[ci]? with
  | some q => (q.2.1 k).2.2.2
  | none => false
theorem ax_nar_r {ci k : Nat} (h : ax_kr ci k = true) (o : Option Nat) : narrow (ax_ty ci k) (va_rf o) = va_rf o ∧ fits (ax_ty ci k) (va_rf o) = true := by
  unfold ax_kr at h
  cases hty : ax_ty ci k <;> simp [hty] at h <;> cases o <;> exact ⟨rfl, rfl⟩
theorem ax_nar_l {ci k : Nat} (h : ax_kl ci k = true) (v : Int64) : narrow (ax_ty ci k) (.long v) = .long v ∧ fits (ax_ty ci k) (.long v) = true := by
  unfold ax_kl at h
  cases hty : ax_ty ci k <;> simp [hty] at h <;> exact ⟨rfl, rfl⟩
theorem ax_fs_set {M M' : ax_M} {ad : Nat → Nat} {ci a k : Nat} {v : Value} (hv : ax_v ad (ax_fv M' (ax_ty ci k) a k) = v) (ho : ∀ j ty, j ≠ k → ax_fv M' ty a j = ax_fv M ty a j) : (ax_fs M ad ci a).set k v = ax_fs M' ad ci a := ax_rm_set hv (fun j hj => by rw [ho j _ hj])
section
variable {Z : ax_Z} {own : String} {cc : ByteArray} {ret : Option FieldType} {ad : Nat → Nat} {cells slots pc : Nat} {lv : List (Nat × ax_U)} {st : List ax_U} {M : ax_M}
theorem ax_putV (B : ax_B Z own cc ret) {idx ci k q a' : Nat} {H : Heap} {locs : List Loc} {ls : Array Slot} {ws : va_W} {fs rest : List Value} {v : Value} (hd : decode cc pc = .ok (.putfield idx, 3)) (hl : ax_fl own idx ci k) (hfin : ax_fin ci k = false) (hP : va_P (Z.2.2.2.2.2.2.2.2.2.2.1.1, Z.2.2.2.2.2.2.2.2.2.2.1.2.1) ax_cl ws H) (hD : va_D (ax_A Z.2.2.2.2.2.2.2.2.2.2.1) ws) (hS : va_S (ax_A Z.2.2.2.2.2.2.2.2.2.2.1) Z.2.2.2.2.1.heap H locs) (he : ws[q]? = some (a', .inr (ci, fs))) (hfl : fs.length = ax_nf ci) (hn : narrow (ax_ty ci k) v = v) (hfit : fits (ax_ty ci k) v = true)
    (kk : ∀ (H1 : Heap) (locs1 : List Loc), va_P (Z.2.2.2.2.2.2.2.2.2.2.1.1, Z.2.2.2.2.2.2.2.2.2.2.1.2.1) ax_cl (ws.set q (a', .inr (ci, fs.set k v))) H1 → va_D (ax_A Z.2.2.2.2.2.2.2.2.2.2.1) (ws.set q (a', .inr (ci, fs.set k v))) → va_S (ax_A Z.2.2.2.2.2.2.2.2.2.2.1) Z.2.2.2.2.1.heap H1 locs1 → W Z.1 Z.2.1 Z.2.2.1 Z.2.2.2.1 Z.2.2.2.2.1 Z.2.2.2.2.2.1 Z.2.2.2.2.2.2.1 Z.2.2.2.2.2.2.2.1 Z.2.2.2.2.2.2.2.2.1 Z.2.2.2.2.2.2.2.2.2.1 H1 locs1 cells slots Z.2.2.2.2.2.2.2.2.2.2.2.2 (F0 Z.2.2.2.2.2.1 (pc + 3) ls rest)) : W Z.1 Z.2.1 Z.2.2.1 Z.2.2.2.1 Z.2.2.2.2.1 Z.2.2.2.2.2.1 Z.2.2.2.2.2.2.1 Z.2.2.2.2.2.2.2.1 Z.2.2.2.2.2.2.2.2.1 Z.2.2.2.2.2.2.2.2.2.1 H locs cells slots Z.2.2.2.2.2.2.2.2.2.2.2.2 (F0 Z.2.2.2.2.2.1 pc ls (v :: .ref a' :: rest)) := by
  obtain ⟨hx, hb, hml, hr, hts, hown, hlk, hK, hsz⟩ := B
  obtain ⟨⟨C, T, N⟩, hc, hk, hlk⟩ := hl
  obtain ⟨o1, o2, o3, o4, o5, o6⟩ := ax_cl_ok hc
  have hsame : ∀ x, Z.2.2.2.2.1.fieldFound? (T k).1 (T k).2.1 (T k).2.2.1 = some x → Z.2.2.2.2.1.fieldFound? C (T k).2.1 (T k).2.2.1 = some x := fun x h => by rw [o6 k hk] at h; exact h
  have hfin' : (T k).2.2.2 = false := by simpa [ax_fin, hc] using hfin
  have hkl : k < fs.length := by rw [hfl, ax_nf_at hc]; exact hk
  rcases hlk with w | ⟨host, w⟩
  · exact va_put hx hb hts o1 (ax_ty ci) o2 o3 hown hK.1 hP hD hS q he hc k hk (hts _ w) hsame hfin' (o2 k hk) hn hfit hkl hd kk
  · exact va_putN hx hb hts o1 (ax_ty ci) o2 o3 hown hK.1 hP hD hS q he hc k hk (va_Nw.use (ax_nest_tab _ w) (hK.2.1 _ w)) hsame hfin' (o2 k hk) hn hfit hkl hd kk
theorem ax_putW (B : ax_B Z own cc ret) {idx ci k q a' : Nat} {H : Heap} {locs : List Loc} {ls : Array Slot} {ws : va_W} {fs rest : List Value} {v : Value} (hd : decode cc pc = .ok (.putfield idx, 3)) (hl : ax_ff own idx ci k) (hin : Z.2.2.2.2.2.2.2.2.1.name = "<init>") (hP : va_P (Z.2.2.2.2.2.2.2.2.2.2.1.1, Z.2.2.2.2.2.2.2.2.2.2.1.2.1) ax_cl ws H) (hD : va_D (ax_A Z.2.2.2.2.2.2.2.2.2.2.1) ws) (hS : va_S (ax_A Z.2.2.2.2.2.2.2.2.2.2.1) Z.2.2.2.2.1.heap H locs) (he : ws[q]? = some (a', .inr (ci, fs))) (hfl : fs.length = ax_nf ci) (hn : narrow (ax_ty ci k) v = v) (hfit : fits (ax_ty ci k) v = true)
    (kk : ∀ (H1 : Heap) (locs1 : List Loc), va_P (Z.2.2.2.2.2.2.2.2.2.2.1.1, Z.2.2.2.2.2.2.2.2.2.2.1.2.1) ax_cl (ws.set q (a', .inr (ci, fs.set k v))) H1 → va_D (ax_A Z.2.2.2.2.2.2.2.2.2.2.1) (ws.set q (a', .inr (ci, fs.set k v))) → va_S (ax_A Z.2.2.2.2.2.2.2.2.2.2.1) Z.2.2.2.2.1.heap H1 locs1 → W Z.1 Z.2.1 Z.2.2.1 Z.2.2.2.1 Z.2.2.2.2.1 Z.2.2.2.2.2.1 Z.2.2.2.2.2.2.1 Z.2.2.2.2.2.2.2.1 Z.2.2.2.2.2.2.2.2.1 Z.2.2.2.2.2.2.2.2.2.1 H1 locs1 cells slots Z.2.2.2.2.2.2.2.2.2.2.2.2 (F0 Z.2.2.2.2.2.1 (pc + 3) ls rest)) : W Z.1 Z.2.1 Z.2.2.1 Z.2.2.2.1 Z.2.2.2.2.1 Z.2.2.2.2.2.1 Z.2.2.2.2.2.2.1 Z.2.2.2.2.2.2.2.1 Z.2.2.2.2.2.2.2.2.1 Z.2.2.2.2.2.2.2.2.2.1 H locs cells slots Z.2.2.2.2.2.2.2.2.2.2.2.2 (F0 Z.2.2.2.2.2.1 pc ls (v :: .ref a' :: rest)) := by
  obtain ⟨hx, hb, hml, hr, hts, hown, hlk, hK, hsz⟩ := B
  obtain ⟨⟨C, T, N⟩, hc, hk, hlk, hCo, hfin⟩ := hl
  obtain ⟨o1, o2, o3, o4, o5, o6⟩ := ax_cl_ok hc
  have hsame : ∀ x, Z.2.2.2.2.1.fieldFound? (T k).1 (T k).2.1 (T k).2.2.1 = some x → Z.2.2.2.2.1.fieldFound? C (T k).2.1 (T k).2.2.1 = some x := fun x h => by rw [o6 k hk] at h; exact h
  have hkl : k < fs.length := by rw [hfl, ax_nf_at hc]; exact hk
  exact va_putF hx hb hts o1 (ax_ty ci) o2 o3 hown hK.1 hP hD hS q he hc k hk (hts _ hlk) hsame hfin hin ((o6 k hk).trans hCo) (o2 k hk) hn hfit hkl hd kk
theorem ax_putI (B : ax_B Z own cc ret) {idx ci k : Nat} {o : Option Nat} {v : Int32} {β : Type} {f : ax_M → Option β} {r : β} (hd : decode cc pc = .ok (.putfield idx, 3)) (hl : ax_fl own idx ci k) (hfin : ax_fin ci k = false) (ht : ax_ki ci k = true) (hn : narrow (ax_ty ci k) (.int v) = .int v) (hfit : fits (ax_ty ci k) (.int v) = true) (hf : (ax_pi M ci k o v).bind f = some r) (kk : ∀ M1, f M1 = some r → ax_W Z ad cells slots (pc + 3) lv st M1) : ax_W Z ad cells slots pc lv (ax_I v :: ax_O o :: st) M := by
  intro H locs ls h1 h2 h3
  obtain ⟨M1, e1, e2⟩ := ax_bd hf
  obtain ⟨a, ha, hx⟩ := Option.map_eq_some_iff.mp e1
  obtain ⟨rfl, hs⟩ := ax_ob_inv ha
  obtain ⟨dom, q, g1, g2, g3, g4, g5, g6, g7⟩ := h2.at hs
  refine ax_putV B hd hl hfin g3 g4 h3 g7 (by simp [ax_fs]) hn hfit (fun H1 locs1 k1 k2 k3 => ?_)
  have h2' : ax_P Z.2.2.2.2.2.2.2.2.2.2.1 ad M1 H1 := by
    subst hx
    refine ax_P.write (M := M) g1 g2 g5 g6 (fun _ => rfl) hs ?_ ?_ ?_ ?_ k1 k2
    · intro b j hb; simp [ax_i_wi, ax_i_wl, ax_i_wr, hb]
    · intro b j hb; simp [ax_l_wi, ax_l_wl, ax_l_wr, hb]
    · intro b j hb; simp [ax_r_wi, ax_r_wl, ax_r_wr, hb]
    · simp only [ax_ce]
      rw [ax_fs_set (M' := ax_wi M a k v)]
      · rw [ax_ki_fv ht]; simp [ax_i_wi, ax_v]
      · intro j ty hj; cases ty <;> simp [ax_fv, ax_i_wi, ax_l_wi, ax_r_wi, ax_i_wl, ax_l_wl, ax_r_wl, ax_i_wr, ax_l_wr, ax_r_wr, hj]
  exact kk M1 e2 H1 locs1 ls h1 h2' k3
theorem ax_putFI (B : ax_B Z own cc ret) {idx ci k : Nat} {o : Option Nat} {v : Int32} {β : Type} {f : ax_M → Option β} {r : β} (hd : decode cc pc = .ok (.putfield idx, 3)) (hl : ax_ff own idx ci k) (hin : Z.2.2.2.2.2.2.2.2.1.name = "<init>") (ht : ax_ki ci k = true) (hn : narrow (ax_ty ci k) (.int v) = .int v) (hfit : fits (ax_ty ci k) (.int v) = true) (hf : (ax_pi M ci k o v).bind f = some r) (kk : ∀ M1, f M1 = some r → ax_W Z ad cells slots (pc + 3) lv st M1) : ax_W Z ad cells slots pc lv (ax_I v :: ax_O o :: st) M := by
  intro H locs ls h1 h2 h3
  obtain ⟨M1, e1, e2⟩ := ax_bd hf
  obtain ⟨a, ha, hx⟩ := Option.map_eq_some_iff.mp e1
  obtain ⟨rfl, hs⟩ := ax_ob_inv ha
  obtain ⟨dom, q, g1, g2, g3, g4, g5, g6, g7⟩ := h2.at hs
  refine ax_putW B hd hl hin g3 g4 h3 g7 (by simp [ax_fs]) hn hfit (fun H1 locs1 k1 k2 k3 => ?_)
  have h2' : ax_P Z.2.2.2.2.2.2.2.2.2.2.1 ad M1 H1 := by
    subst hx
    refine ax_P.write (M := M) g1 g2 g5 g6 (fun _ => rfl) hs ?_ ?_ ?_ ?_ k1 k2
    · intro b j hb; simp [ax_i_wi, ax_i_wl, ax_i_wr, hb]
    · intro b j hb; simp [ax_l_wi, ax_l_wl, ax_l_wr, hb]
    · intro b j hb; simp [ax_r_wi, ax_r_wl, ax_r_wr, hb]
    · simp only [ax_ce]
      rw [ax_fs_set (M' := ax_wi M a k v)]
      · rw [ax_ki_fv ht]; simp [ax_i_wi, ax_v]
      · intro j ty hj; cases ty <;> simp [ax_fv, ax_i_wi, ax_l_wi, ax_r_wi, ax_i_wl, ax_l_wl, ax_r_wl, ax_i_wr, ax_l_wr, ax_r_wr, hj]
  exact kk M1 e2 H1 locs1 ls h1 h2' k3
theorem ax_putL (B : ax_B Z own cc ret) {idx ci k : Nat} {o : Option Nat} {v : Int64} {β : Type} {f : ax_M → Option β} {r : β} (hd : decode cc pc = .ok (.putfield idx, 3)) (hl : ax_fl own idx ci k) (hfin : ax_fin ci k = false) (ht : ax_kl ci k = true) (hf : (ax_pl M ci k o v).bind f = some r) (kk : ∀ M1, f M1 = some r → ax_W Z ad cells slots (pc + 3) lv st M1) : ax_W Z ad cells slots pc lv (ax_L v :: ax_O o :: st) M := by
  intro H locs ls h1 h2 h3
  obtain ⟨M1, e1, e2⟩ := ax_bd hf
  obtain ⟨a, ha, hx⟩ := Option.map_eq_some_iff.mp e1
  obtain ⟨rfl, hs⟩ := ax_ob_inv ha
  obtain ⟨dom, q, g1, g2, g3, g4, g5, g6, g7⟩ := h2.at hs
  refine ax_putV B hd hl hfin g3 g4 h3 g7 (by simp [ax_fs]) (ax_nar_l ht v).1 (ax_nar_l ht v).2 (fun H1 locs1 k1 k2 k3 => ?_)
  have h2' : ax_P Z.2.2.2.2.2.2.2.2.2.2.1 ad M1 H1 := by
    subst hx
    refine ax_P.write (M := M) g1 g2 g5 g6 (fun _ => rfl) hs ?_ ?_ ?_ ?_ k1 k2
    · intro b j hb; simp [ax_i_wi, ax_i_wl, ax_i_wr, hb]
    · intro b j hb; simp [ax_l_wi, ax_l_wl, ax_l_wr, hb]
    · intro b j hb; simp [ax_r_wi, ax_r_wl, ax_r_wr, hb]
    · simp only [ax_ce]
      rw [ax_fs_set (M' := ax_wl M a k v)]
      · rw [ax_kl_fv ht]; simp [ax_l_wl, ax_v]
      · intro j ty hj; cases ty <;> simp [ax_fv, ax_i_wi, ax_l_wi, ax_r_wi, ax_i_wl, ax_l_wl, ax_r_wl, ax_i_wr, ax_l_wr, ax_r_wr, hj]
  exact kk M1 e2 H1 locs1 ls h1 h2' k3
theorem ax_putFL (B : ax_B Z own cc ret) {idx ci k : Nat} {o : Option Nat} {v : Int64} {β : Type} {f : ax_M → Option β} {r : β} (hd : decode cc pc = .ok (.putfield idx, 3)) (hl : ax_ff own idx ci k) (hin : Z.2.2.2.2.2.2.2.2.1.name = "<init>") (ht : ax_kl ci k = true) (hf : (ax_pl M ci k o v).bind f = some r) (kk : ∀ M1, f M1 = some r → ax_W Z ad cells slots (pc + 3) lv st M1) : ax_W Z ad cells slots pc lv (ax_L v :: ax_O o :: st) M := by
  intro H locs ls h1 h2 h3
  obtain ⟨M1, e1, e2⟩ := ax_bd hf
  obtain ⟨a, ha, hx⟩ := Option.map_eq_some_iff.mp e1
  obtain ⟨rfl, hs⟩ := ax_ob_inv ha
  obtain ⟨dom, q, g1, g2, g3, g4, g5, g6, g7⟩ := h2.at hs
  refine ax_putW B hd hl hin g3 g4 h3 g7 (by simp [ax_fs]) (ax_nar_l ht v).1 (ax_nar_l ht v).2 (fun H1 locs1 k1 k2 k3 => ?_)
  have h2' : ax_P Z.2.2.2.2.2.2.2.2.2.2.1 ad M1 H1 := by
    subst hx
    refine ax_P.write (M := M) g1 g2 g5 g6 (fun _ => rfl) hs ?_ ?_ ?_ ?_ k1 k2
    · intro b j hb; simp [ax_i_wi, ax_i_wl, ax_i_wr, hb]
    · intro b j hb; simp [ax_l_wi, ax_l_wl, ax_l_wr, hb]
    · intro b j hb; simp [ax_r_wi, ax_r_wl, ax_r_wr, hb]
    · simp only [ax_ce]
      rw [ax_fs_set (M' := ax_wl M a k v)]
      · rw [ax_kl_fv ht]; simp [ax_l_wl, ax_v]
      · intro j ty hj; cases ty <;> simp [ax_fv, ax_i_wi, ax_l_wi, ax_r_wi, ax_i_wl, ax_l_wl, ax_r_wl, ax_i_wr, ax_l_wr, ax_r_wr, hj]
  exact kk M1 e2 H1 locs1 ls h1 h2' k3
theorem ax_putR (B : ax_B Z own cc ret) {idx ci k : Nat} {o : Option Nat} {v : Option Nat} {β : Type} {f : ax_M → Option β} {r : β} (hd : decode cc pc = .ok (.putfield idx, 3)) (hl : ax_fl own idx ci k) (hfin : ax_fin ci k = false) (ht : ax_kr ci k = true) (hf : (ax_pr M ci k o v).bind f = some r) (kk : ∀ M1, f M1 = some r → ax_W Z ad cells slots (pc + 3) lv st M1) : ax_W Z ad cells slots pc lv (ax_O v :: ax_O o :: st) M := by
  intro H locs ls h1 h2 h3
  obtain ⟨M1, e1, e2⟩ := ax_bd hf
  have hlk : ax_lk M v = true := by
    by_cases h : ax_lk M v = true
    · exact h
    · simp [ax_pr, h] at e1
  rw [ax_pr, if_pos hlk] at e1
  obtain ⟨a, ha, hx⟩ := Option.map_eq_some_iff.mp e1
  obtain ⟨rfl, hs⟩ := ax_ob_inv ha
  obtain ⟨dom, q, g1, g2, g3, g4, g5, g6, g7⟩ := h2.at hs
  refine ax_putV B hd hl hfin g3 g4 h3 g7 (by simp [ax_fs]) (by rw [ax_v_rf]; exact (ax_nar_r ht _).1) (by rw [ax_v_rf]; exact (ax_nar_r ht _).2) (fun H1 locs1 k1 k2 k3 => ?_)
  have h2' : ax_P Z.2.2.2.2.2.2.2.2.2.2.1 ad M1 H1 := by
    subst hx
    refine ax_P.write (M := M) g1 g2 (fun b j c hb hc => by
      rw [ax_r_wr] at hc
      by_cases hbj : b = a ∧ j = k
      · rw [if_pos hbj] at hc
        subst hc
        exact (g2 c).mpr (Option.isSome_iff_ne_none.mp (by simpa [ax_lk] using hlk))
      · rw [if_neg hbj] at hc
        exact g5 b j c hb hc) g6 (fun _ => rfl) hs ?_ ?_ ?_ ?_ k1 k2
    · intro b j hb; simp [ax_i_wi, ax_i_wl, ax_i_wr, hb]
    · intro b j hb; simp [ax_l_wi, ax_l_wl, ax_l_wr, hb]
    · intro b j hb; simp [ax_r_wi, ax_r_wl, ax_r_wr, hb]
    · simp only [ax_ce]
      rw [ax_fs_set (M' := ax_wr M a k v)]
      · rw [ax_kr_fv ht]; simp [ax_r_wr, ax_v]
      · intro j ty hj; cases ty <;> simp [ax_fv, ax_i_wi, ax_l_wi, ax_r_wi, ax_i_wl, ax_l_wl, ax_r_wl, ax_i_wr, ax_l_wr, ax_r_wr, hj]
  exact kk M1 e2 H1 locs1 ls h1 h2' k3
theorem ax_putFR (B : ax_B Z own cc ret) {idx ci k : Nat} {o : Option Nat} {v : Option Nat} {β : Type} {f : ax_M → Option β} {r : β} (hd : decode cc pc = .ok (.putfield idx, 3)) (hl : ax_ff own idx ci k) (hin : Z.2.2.2.2.2.2.2.2.1.name = "<init>") (ht : ax_kr ci k = true) (hf : (ax_pr M ci k o v).bind f = some r) (kk : ∀ M1, f M1 = some r → ax_W Z ad cells slots (pc + 3) lv st M1) : ax_W Z ad cells slots pc lv (ax_O v :: ax_O o :: st) M := by
  intro H locs ls h1 h2 h3
  obtain ⟨M1, e1, e2⟩ := ax_bd hf
  have hlk : ax_lk M v = true := by
    by_cases h : ax_lk M v = true
    · exact h
    · simp [ax_pr, h] at e1
  rw [ax_pr, if_pos hlk] at e1
  obtain ⟨a, ha, hx⟩ := Option.map_eq_some_iff.mp e1
  obtain ⟨rfl, hs⟩ := ax_ob_inv ha
  obtain ⟨dom, q, g1, g2, g3, g4, g5, g6, g7⟩ := h2.at hs
  refine ax_putW B hd hl hin g3 g4 h3 g7 (by simp [ax_fs]) (by rw [ax_v_rf]; exact (ax_nar_r ht _).1) (by rw [ax_v_rf]; exact (ax_nar_r ht _).2) (fun H1 locs1 k1 k2 k3 => ?_)
  have h2' : ax_P Z.2.2.2.2.2.2.2.2.2.2.1 ad M1 H1 := by
    subst hx
    refine ax_P.write (M := M) g1 g2 (fun b j c hb hc => by
      rw [ax_r_wr] at hc
      by_cases hbj : b = a ∧ j = k
      · rw [if_pos hbj] at hc
        subst hc
        exact (g2 c).mpr (Option.isSome_iff_ne_none.mp (by simpa [ax_lk] using hlk))
      · rw [if_neg hbj] at hc
        exact g5 b j c hb hc) g6 (fun _ => rfl) hs ?_ ?_ ?_ ?_ k1 k2
    · intro b j hb; simp [ax_i_wi, ax_i_wl, ax_i_wr, hb]
    · intro b j hb; simp [ax_l_wi, ax_l_wl, ax_l_wr, hb]
    · intro b j hb; simp [ax_r_wi, ax_r_wl, ax_r_wr, hb]
    · simp only [ax_ce]
      rw [ax_fs_set (M' := ax_wr M a k v)]
      · rw [ax_kr_fv ht]; simp [ax_r_wr, ax_v]
      · intro j ty hj; cases ty <;> simp [ax_fv, ax_i_wi, ax_l_wi, ax_r_wi, ax_i_wl, ax_l_wl, ax_r_wl, ax_i_wr, ax_l_wr, ax_r_wr, hj]
  exact kk M1 e2 H1 locs1 ls h1 h2' k3
end
end
section
/-! NEW CELLS -/
def ax_dv (ty : FieldType) : Value := match ty with
  | .long => .long 0
  | .object _ => .null
  | .array _ => .null
  | _ => .int 0
theorem ax_dv_fv (M : ax_M) (g : Nat) (x : ax_X) (ad : Nat → Nat) (ty : FieldType) (j : Nat) : ax_v ad (ax_fv (ax_wn M g x) ty g j) = ax_dv ty := by
  cases ty <;> simp [ax_fv, ax_dv, ax_i_wn, ax_l_wn, ax_r_wn, ax_v, va_rf]
theorem ax_df0 : ∀ j, j < 15 → defaultValue (ax_ty 0 j) = ax_dv (ax_ty 0 j) := by decide +kernel
theorem ax_df1 : ∀ j, j < 14 → defaultValue (ax_ty 1 j) = ax_dv (ax_ty 1 j) := by decide +kernel
theorem ax_df2 : ∀ j, j < 14 → defaultValue (ax_ty 2 j) = ax_dv (ax_ty 2 j) := by decide +kernel
theorem ax_df3 : ∀ j, j < 50 → defaultValue (ax_ty 3 j) = ax_dv (ax_ty 3 j) := by decide +kernel
theorem ax_df {ci : Nat} {q : vw_C} (h : ax_cl[ci]? = some q) : ∀ j, j < q.2.2 → defaultValue (ax_ty ci j) = ax_dv (ax_ty ci j) := by
  match ci, h with
  | 0, h => cases h; exact ax_df0
  | 1, h => cases h; exact ax_df1
  | 2, h => cases h; exact ax_df2
  | 3, h => cases h; exact ax_df3
  | n + 4, h => simp [ax_cl] at h
/-- a new id takes an address -/
def ax_na (ad : Nat → Nat) (g q : Nat) : Nat → Nat := fun a => if a = g then q else ad a
theorem ax_na_ne {ad : Nat → Nat} {g q : Nat} : ∀ a, a ∉ [g] → ax_na ad g q a = ad a := fun a h => by
  have : a ≠ g := fun e => h (by simp [e])
  simp [ax_na, this]
theorem ax_P.new {G : ax_G} {ad : Nat → Nat} {M : ax_M} {H1 : Heap} {dom : List Nat} {g q : Nat} {x : ax_X} {E : va_E} (hn : dom.Nodup) (hm : ∀ a, a ∈ dom ↔ ax_s M a ≠ none) (hc : ∀ a k b, a ∈ dom → ax_r M a k = some b → b ∈ dom) (hg : ax_s M g = none) (hE : E = ax_ce G (ax_na ad g q) (ax_wn M g x) g x)
    (hP : va_P (G.1, G.2.1) ax_cl (ax_ls G ad M dom ++ [(q, E)]) H1) (hD : va_D (ax_A G) (ax_ls G ad M dom ++ [(q, E)])) : ax_P G (ax_na ad g q) (ax_wn M g x) H1 := by
  have hgd : g ∉ dom := fun h => (hm g).mp h hg
  have hne : ∀ a, a ∈ dom → a ≠ g := fun a h e => hgd (e ▸ h)
  have e : ax_ls G ad M dom ++ [(q, E)] = ax_ls G (ax_na ad g q) (ax_wn M g x) (dom ++ [g]) := by
    unfold ax_ls
    rw [List.map_append]
    congr 1
    · apply List.map_congr_left
      intro a ha
      have h1 := hne a ha
      rw [ax_c1_congr (G := G) (ad := ad) (ad' := ax_na ad g q) (M := M) (M' := ax_wn M g x) (b := a) (fun j => by simp [ax_i_wn, h1]) (fun j => by simp [ax_l_wn, h1]) (fun j => by simp [ax_r_wn, h1]) (by simp [ax_s_wn, h1]) (fun j c hj => by
        have := hne c (hc a j c ha hj)
        simp [ax_na, this])]
      simp [ax_na, h1]
    · rw [hE]
      simp [ax_na, ax_c1, ax_s_wn]
  rw [e] at hP hD
  refine ⟨dom ++ [g], ?_, ?_, hP, hD, ?_⟩
  · rw [List.nodup_append]
    refine ⟨hn, by simp, ?_⟩
    intro a ha b hb
    rw [List.mem_singleton.mp hb]
    exact hne a ha
  · intro a
    rw [ax_s_wn]
    by_cases h : a = g
    · simp [h]
    · simp [h, hm a]
  · intro a k b ha hb
    rw [ax_r_wn] at hb
    by_cases h : a = g
    · rw [if_pos h] at hb; cases hb
    · rw [if_neg h] at hb
      rcases List.mem_append.mp ha with ha | ha
      · exact List.mem_append_left _ (hc a k b ha hb)
      · exact absurd (List.mem_singleton.mp ha) h
theorem ax_nw_inv {M M1 : ax_M} {g : Nat} {x : ax_X} {refs : List (Option Nat)} (h : ax_nw M g x refs = some M1) : ax_s M g = none ∧ (∀ o ∈ refs, o ≠ some g) ∧ M1 = ax_wn M g x := by
  unfold ax_nw at h
  by_cases hc : ax_s M g = none ∧ ∀ o ∈ refs, o ≠ some g
  · rw [if_pos hc] at h
    cases h
    exact ⟨hc.1, hc.2, rfl⟩
  · rw [if_neg hc] at h
    cases h
/-- the values of a list are none of the new id, if its references are among these -/
def ax_cv (refs : List (Option Nat)) (vs : List ax_U) : Prop := ∀ v ∈ vs, (∃ x : Int32, v = ax_I x) ∨ (∃ x : Int64, v = ax_L x) ∨ ∃ o ∈ refs, v = ax_O o
theorem ax_cv0 {refs : List (Option Nat)} : ax_cv refs [] := fun v h => by cases h
theorem ax_cvi {refs : List (Option Nat)} {vs : List ax_U} {x : Int32} (h : ax_cv refs vs) : ax_cv refs (ax_I x :: vs) := fun v hv => (List.mem_cons.mp hv).elim (fun e => Or.inl ⟨x, e⟩) (h v)
theorem ax_cvl {refs : List (Option Nat)} {vs : List ax_U} {x : Int64} (h : ax_cv refs vs) : ax_cv refs (ax_L x :: vs) := fun v hv => (List.mem_cons.mp hv).elim (fun e => Or.inr (Or.inl ⟨x, e⟩)) (h v)
theorem ax_cvr {refs : List (Option Nat)} {vs : List ax_U} {o : Option Nat} (ho : o ∈ refs) (h : ax_cv refs vs) : ax_cv refs (ax_O o :: vs) := fun v hv => (List.mem_cons.mp hv).elim (fun e => Or.inr (Or.inr ⟨o, ho, e⟩)) (h v)
theorem ax_cv_nr {refs : List (Option Nat)} {vs : List ax_U} {gs : List Nat} (h : ax_cv refs vs) (hg : ∀ o ∈ refs, ∀ g ∈ gs, o ≠ some g) : ∀ v ∈ vs, ax_nr gs v := by
  intro v hv
  rcases h v hv with ⟨x, rfl⟩ | ⟨x, rfl⟩ | ⟨o, ho, rfl⟩
  · exact ax_nr_int
  · exact ax_nr_long
  · exact ax_nr_rf (hg o ho)
theorem ax_cv_lv {refs : List (Option Nat)} {lv : List (Nat × ax_U)} {gs : List Nat} (h : ax_cv refs (lv.map (·.2))) (hg : ∀ o ∈ refs, ∀ g ∈ gs, o ≠ some g) : ∀ q ∈ lv, ax_nr gs q.2 := fun q hq => ax_cv_nr h hg q.2 (List.mem_map.mpr ⟨q, hq, rfl⟩)
section
variable {Z : ax_Z} {own : String} {cc : ByteArray} {ret : Option FieldType} {ad : Nat → Nat} {cells slots pc : Nat} {lv : List (Nat × ax_U)} {st : List ax_U} {M : ax_M}
theorem ax_new (B : ax_B Z own cc ret) {d0 mc0 ms0 : Nat} (hR : ax_R Z d0 mc0 ms0) {idx ci g n : Nat} {C : String} {refs : List (Option Nat)} {β : Type} {f : ax_M → Option β} {r : β} (hd : decode cc pc = .ok (.new idx, 3)) (hw : Cond.classLink own idx C ∈ ax_ws) (hC : (ax_cl[ci]?).map (fun q => (q.1, q.2.2)) = some (C, n)) (h1v : ax_cv refs (lv.map (·.2))) (h2v : ax_cv refs st) (hc : cells + 1 ≤ mc0) (hs : slots + n ≤ ms0)
    (hf : (ax_nw M g (.inl ci) refs).bind f = some r) (kk : ∀ M1 ad', (∀ a, a ∉ [g] → ad' a = ad a) → f M1 = some r → ax_W Z ad' (cells + 1) (slots + n) (pc + 3) lv (ax_O (some g) :: st) M1) : ax_W Z ad cells slots pc lv st M := by
  intro H locs ls h1 h2 h3
  obtain ⟨hx, hb, hml, hr, hts, hown, hlk, hK, hsz⟩ := B
  obtain ⟨M1, e1, e2⟩ := ax_bd hf
  obtain ⟨hg, href, rfl⟩ := ax_nw_inv e1
  obtain ⟨⟨C', T, N⟩, hcl, hCn⟩ := Option.map_eq_some_iff.mp hC
  cases hCn
  obtain ⟨o1, o2, o3, o4, o5, o6⟩ := ax_cl_ok hcl
  obtain ⟨dom, g1, g2, g3, g4, g5⟩ := h2
  have hA : ∀ q, Z.2.2.2.2.1.heap.size ≤ q → ax_A Z.2.2.2.2.2.2.2.2.2.2.1 q := fun q h => Nat.le_trans hsz h
  refine va_new (fs := (List.range (ax_nf ci)).map fun j => ax_dv (ax_ty ci j)) hx hb hts o1 (ax_ty ci) o2 hown (hts _ hw) (hts _ o4) (hts _ o5) hK.1 g3 g4 h3 hA hcl (fun j hj => ?_) (Nat.le_trans hc hR.2.2.1) (Nat.le_trans hs hR.2.2.2) hd (fun q H1 k1 k2 k3 => ?_)
  · rw [ax_df hcl j hj]
    have : j < ax_nf ci := by rw [ax_nf_at hcl]; exact hj
    simp [vp_V, this]
  · have h2' : ax_P Z.2.2.2.2.2.2.2.2.2.2.1 (ax_na ad g q) (ax_wn M g (.inl ci)) H1 := ax_P.new g1 g2 g5 hg (by simp only [ax_ce, ax_fs, ax_dv_fv]) k1 k2
    have hrg : ∀ o ∈ refs, ∀ g' ∈ [g], o ≠ some g' := fun o ho g' hg' => by rw [List.mem_singleton.mp hg']; exact href o ho
    have hw2 := kk _ (ax_na ad g q) ax_na_ne e2 H1 locs ls (by rw [ax_lv_nr ax_na_ne (ax_cv_lv h1v hrg)]; exact h1) h2' k3
    rw [List.map_cons, ax_st_nr ax_na_ne (ax_cv_nr h2v hrg)] at hw2
    have e : ax_v (ax_na ad g q) (ax_O (some g)) = .ref q := by simp [va_rf, ax_v, ax_na]
    rw [e] at hw2
    exact hw2
theorem ax_newarray (B : ax_B Z own cc ret) {d0 mc0 ms0 : Nat} (hR : ax_R Z d0 mc0 ms0) {aty : ArrayType} {t g N : Nat} {n : Int32} {refs : List (Option Nat)} {β : Type} {f : ax_M → Option β} {r : β} (hd : decode cc pc = .ok (.newarray aty, 2)) (hta : newarray.typeOf aty = ax_el t) (ht : t < 3) (hn : ¬ n < 0) (hN : n.toNatClampNeg = N) (hN2 : N ≤ 1000) (h1v : ax_cv refs (lv.map (·.2))) (h2v : ax_cv refs st) (hc : cells + 1 ≤ mc0) (hs : slots + N ≤ ms0)
    (hf : (ax_nw M g (.inr (t, N)) refs).bind f = some r) (kk : ∀ M1 ad', (∀ a, a ∉ [g] → ad' a = ad a) → f M1 = some r → ax_W Z ad' (cells + 1) (slots + N) (pc + 2) lv (ax_O (some g) :: st) M1) : ax_W Z ad cells slots pc lv (ax_I n :: st) M := by
  intro H locs ls h1 h2 h3
  obtain ⟨hx, hb, hml, hr, hts, hown, hlk, hK, hsz⟩ := B
  obtain ⟨M1, e1, e2⟩ := ax_bd hf
  obtain ⟨hg, href, rfl⟩ := ax_nw_inv e1
  obtain ⟨dom, g1, g2, g3, g4, g5⟩ := h2
  have hA : ∀ q, Z.2.2.2.2.1.heap.size ≤ q → ax_A Z.2.2.2.2.2.2.2.2.2.2.1 q := fun q h => Nat.le_trans hsz h
  have htt : t = 0 ∨ t = 1 ∨ t = 2 := by omega
  have hac : Cond.arrayClass (ax_el t) ∈ ax_ws := by rcases htt with rfl | rfl | rfl; exact a_0; exact a_1; exact a_2
  have hby : N * componentBytes (ax_el t) ≤ 536870912 := by
    have : componentBytes (ax_el t) ≤ 8 := by rcases htt with rfl | rfl | rfl <;> decide
    exact Nat.le_trans (Nat.mul_le_mul hN2 this) (by decide)
  have hRA := hK.1.2 t (Z.2.2.2.2.2.2.2.2.2.2.1.2.2.1 t, ax_el t) (ax_ts_at (Nat.lt_of_lt_of_le ht (by decide)))
  have hpy : ∀ (ad0 : Nat → Nat) (cA : ClassId), vp_cell cA (N, ax_py (ax_wn M g (.inr (t, N))) ad0 (ax_el t) g) = arrV cA N (fun _ => defaultValue (ax_el t)) := by
    intro ad0 cA
    rcases htt with rfl | rfl | rfl <;> simp [ax_el, ax_py, vp_cell, ax_i_wn, ax_l_wn, defaultValue]
  have hpe : ∀ ad1 ad2 : Nat → Nat, ax_py (ax_wn M g (.inr (t, N))) ad1 (ax_el t) g = ax_py (ax_wn M g (.inr (t, N))) ad2 (ax_el t) g := by
    intro ad1 ad2
    rcases htt with rfl | rfl | rfl <;> rfl
  refine va_newa (a0 := (N, ax_py (ax_wn M g (.inr (t, N))) ad (ax_el t) g)) hx hb (by rw [hta]; exact hts _ hac) hta hK.1 g3 g4 h3 hA (hpy ad) hn hN hby (Nat.le_trans hc hR.2.2.1) (Nat.le_trans hs hR.2.2.2) hd (fun q cA H1 k0 k1 k2 k3 => ?_)
  have hcA : cA = Z.2.2.2.2.2.2.2.2.2.2.1.2.2.1 t := by
    have h9 := (k0.2 (ax_ts Z.2.2.2.2.2.2.2.2.2.2.1).length (cA, ax_el t) (by simp)).2
    have h8 := hRA.2
    rcases htt with rfl | rfl | rfl <;> exact Option.some.inj (h9.symm.trans h8)
  subst hcA
  have h2' : ax_P Z.2.2.2.2.2.2.2.2.2.2.1 (ax_na ad g q) (ax_wn M g (.inr (t, N))) H1 := ax_P.new g1 g2 g5 hg (by simp only [ax_ce]; rw [hpe ad (ax_na ad g q)]) k1 k2
  have hrg : ∀ o ∈ refs, ∀ g' ∈ [g], o ≠ some g' := fun o ho g' hg' => by rw [List.mem_singleton.mp hg']; exact href o ho
  have hw2 := kk _ (ax_na ad g q) ax_na_ne e2 H1 locs ls (by rw [ax_lv_nr ax_na_ne (ax_cv_lv h1v hrg)]; exact h1) h2' k3
  rw [List.map_cons, ax_st_nr ax_na_ne (ax_cv_nr h2v hrg)] at hw2
  have e : ax_v (ax_na ad g q) (ax_O (some g)) = .ref q := by simp [va_rf, ax_v, ax_na]
  rw [e] at hw2
  exact hw2
theorem ax_anewarray (B : ax_B Z own cc ret) {d0 mc0 ms0 : Nat} (hR : ax_R Z d0 mc0 ms0) {idx t g N : Nat} {C : String} {n : Int32} {refs : List (Option Nat)} {β : Type} {f : ax_M → Option β} {r : β} (hd : decode cc pc = .ok (.anewarray idx, 3)) (hw : Cond.classLink own idx C ∈ ax_ws) (hao : C ∈ ax_ao) (hta : ax_el t = .object C) (ht : t < ax_nt) (hn : ¬ n < 0) (hN : n.toNatClampNeg = N) (hN2 : N ≤ 1000) (h1v : ax_cv refs (lv.map (·.2))) (h2v : ax_cv refs st) (hc : cells + 1 ≤ mc0) (hs : slots + N ≤ ms0)
    (hf : (ax_nw M g (.inr (t, N)) refs).bind f = some r) (kk : ∀ M1 ad', (∀ a, a ∉ [g] → ad' a = ad a) → f M1 = some r → ax_W Z ad' (cells + 1) (slots + N) (pc + 3) lv (ax_O (some g) :: st) M1) : ax_W Z ad cells slots pc lv (ax_I n :: st) M := by
  intro H locs ls h1 h2 h3
  obtain ⟨hx, hb, hml, hr, hts, hown, hlk, hK, hsz⟩ := B
  obtain ⟨M1, e1, e2⟩ := ax_bd hf
  obtain ⟨hg, href, rfl⟩ := ax_nw_inv e1
  obtain ⟨dom, g1, g2, g3, g4, g5⟩ := h2
  have hA : ∀ q, Z.2.2.2.2.1.heap.size ≤ q → ax_A Z.2.2.2.2.2.2.2.2.2.2.1 q := fun q h => Nat.le_trans hsz h
  have hRA := hK.1.2 t (Z.2.2.2.2.2.2.2.2.2.2.1.2.2.1 t, ax_el t) (ax_ts_at ht)
  have hpy : ∀ ad0 : Nat → Nat, ax_py (ax_wn M g (.inr (t, N))) ad0 (ax_el t) g = .inr (.inr (.inr (.inr (fun _ => none)))) := by
    intro ad0
    simp [hta, ax_py, ax_r_wn]
  refine va_newq hx hb hown (hts _ hw) (hK.2.2 _ hao) hK.1 g3 g4 h3 hA hn hN (Nat.le_trans (Nat.mul_le_mul hN2 (Nat.le_refl 4)) (by decide)) (Nat.le_trans hc hR.2.2.1) (Nat.le_trans hs hR.2.2.2) hd (fun q cA H1 k0 k1 k2 k3 => ?_)
  have hcA : cA = Z.2.2.2.2.2.2.2.2.2.2.1.2.2.1 t := by
    have h9 := (k0.2 (ax_ts Z.2.2.2.2.2.2.2.2.2.2.1).length (cA, .object C) (by simp)).2
    have h8 := hRA.2
    dsimp only at h8
    rw [hta] at h8
    obtain ⟨_, _, _, _, _, h9⟩ := h9
    obtain ⟨_, _, _, _, _, h8⟩ := h8
    exact Option.some.inj (h9.symm.trans h8)
  subst hcA
  have h2' : ax_P Z.2.2.2.2.2.2.2.2.2.2.1 (ax_na ad g q) (ax_wn M g (.inr (t, N))) H1 := ax_P.new g1 g2 g5 hg (by simp only [ax_ce]; rw [hpy]) k1 k2
  have hrg : ∀ o ∈ refs, ∀ g' ∈ [g], o ≠ some g' := fun o ho g' hg' => by rw [List.mem_singleton.mp hg']; exact href o ho
  have hw2 := kk _ (ax_na ad g q) ax_na_ne e2 H1 locs ls (by rw [ax_lv_nr ax_na_ne (ax_cv_lv h1v hrg)]; exact h1) h2' k3
  rw [List.map_cons, ax_st_nr ax_na_ne (ax_cv_nr h2v hrg)] at hw2
  have e : ax_v (ax_na ad g q) (ax_O (some g)) = .ref q := by simp [va_rf, ax_v, ax_na]
  rw [e] at hw2
  exact hw2
end
end
section
/-! THE REST: references into arrays, copies, Object's constructor, Math, switches, calls that make cells -/
section
variable {Z : ax_Z} {own : String} {cc : ByteArray} {ret : Option FieldType} {ad : Nat → Nat} {cells slots pc : Nat} {lv : List (Nat × ax_U)} {st : List ax_U} {M : ax_M}
theorem ax_ldcw (B : ax_B Z own cc ret) {idx : Nat} {v : Int32} (hw : Cond.constant own idx v ∈ ax_ws) (hd : decode cc pc = .ok (.ldc_w idx, 3)) (k : ax_W Z ad cells slots (pc + 3) lv (ax_I v :: st) M) : ax_W Z ad cells slots pc lv st M := fun H locs ls h1 h2 h3 => lv_ldcw B.1 B.2.1 B.2.2.2.2.2.1 (B.2.2.2.2.1 _ hw) hd (k H locs ls h1 h2 h3)
theorem ax_aast (B : ax_B Z own cc ret) {t ci : Nat} {q0 : vw_C} {o v : Option Nat} {i : Int32} {β : Type} {f : ax_M → Option β} {r : β} (hd : decode cc pc = .ok (.aastore, 1)) (ht : t < ax_nt) (hq : ax_cl[ci]? = some q0) (he : ax_el t = .object q0.1) (hf : (ax_tr M t ci o i v).bind f = some r) (kk : ∀ M1, f M1 = some r → ax_W Z ad cells slots (pc + 1) lv st M1) : ax_W Z ad cells slots pc lv (ax_O v :: ax_I i :: ax_O o :: st) M := by
  intro H locs ls h1 h2 h3
  obtain ⟨M1, e1, e2⟩ := ax_bd hf
  obtain ⟨v', hv', e1⟩ := ax_bd e1
  obtain ⟨⟨a, j⟩, ha, hx⟩ := Option.map_eq_some_iff.mp e1
  obtain ⟨rfl, hsv⟩ := ax_ob_inv hv'
  obtain ⟨n, rfl, hs, hi, hj⟩ := ax_ix_inv ha
  dsimp only at hx hs hj
  subst hj
  obtain ⟨dom, q, g1, g2, g3, g4, g5, g6, g7⟩ := h2.at hs
  obtain ⟨qv, hqv, g8⟩ := ax_ls_at (G := Z.2.2.2.2.2.2.2.2.2.2.1) (ad := ad) ((g2 v').mpr (by rw [hsv]; exact fun z => by cases z)) hsv
  simp only [ax_ce, he, ax_py] at g7 g8
  refine va_astq B.1 B.2.1 B.2.2.2.2.2.2.2.1.1 g3 g4 h3 q t qv ci g7 (by rw [← he]; exact ax_ts_at ht) g8 hq hi hd (fun H1 locs1 k1 k2 k3 => ?_)
  have h2' : ax_P Z.2.2.2.2.2.2.2.2.2.2.1 ad M1 H1 := by
    subst hx
    refine ax_P.write (M := M) g1 g2 (fun b j c hb hc => ?_) g6 (fun _ => rfl) hs ?_ ?_ ?_ ?_ k1 k2
    · rw [ax_r_wr] at hc
      by_cases hbj : b = a ∧ j = i.toNatClampNeg
      · rw [if_pos hbj] at hc
        cases hc
        exact (g2 v').mpr (by rw [hsv]; exact fun z => by cases z)
      · rw [if_neg hbj] at hc
        exact g5 b j c hb hc
    · intro b j hb; rfl
    · intro b j hb; rfl
    · intro b j hb; simp [ax_r_wr, hb]
    · simp only [ax_ce, he, ax_py]
      have e : (va_up (fun j => Option.map ad (ax_r M a j)) i.toNatClampNeg (some (ad v'))) = fun j => Option.map ad (ax_r (ax_wr M a i.toNatClampNeg (some v')) a j) := by
        funext j
        by_cases hj : j = i.toNatClampNeg <;> simp [va_up, ax_r_wr, hj]
      rw [e]
  exact kk M1 e2 H1 locs1 ls h1 h2' k3
theorem ax_cp_inv {t : Nat} {a b : Option Nat} {sp dp n : Int32} {M1 : ax_M} (h : ax_cp M t a sp b dp n = some M1) : ∃ a' b' n0 n1, a = some a' ∧ b = some b' ∧ ax_s M a' = some (.inr (t, n0)) ∧ ax_s M b' = some (.inr (t, n1)) ∧ ¬ sp < 0 ∧ ¬ dp < 0 ∧ ¬ n < 0 ∧ sp.toNatClampNeg + n.toNatClampNeg ≤ n0 ∧ dp.toNatClampNeg + n.toNatClampNeg ≤ n1 ∧ M1 = ax_wc M a' b' sp.toNatClampNeg dp.toNatClampNeg n.toNatClampNeg := by
  cases a with
  | none => simp [ax_cp] at h
  | some a' =>
    cases b with
    | none => simp [ax_cp] at h
    | some b' =>
      simp only [ax_cp, Option.bind_some] at h
      split at h
      · next t0 n0 t1 n1 hs0 hs1 =>
        split at h
        · next hc =>
          obtain ⟨rfl, rfl, c1, c2, c3, c4, c5⟩ := hc
          cases h
          exact ⟨a', b', n0, n1, rfl, rfl, hs0, hs1, c1, c2, c3, c4, c5, rfl⟩
        · cases h
      · cases h
theorem ax_copy (B : ax_B Z own cc ret) {d0 mc0 ms0 : Nat} (hR : ax_R Z d0 mc0 ms0) {idx : Nat} {a b : Option Nat} {sp dp n : Int32} {β : Type} {f : ax_M → Option β} {r : β} (hd : decode cc pc = .ok (.invokestatic idx, 3)) (hl : Cond.methodLink own idx arraycopyName ∈ ax_ws) (h1d : 1 ≤ d0) (h8 : (st.map ax_ct).sum ≤ 8) (hf : (ax_cp M 0 a sp b dp n).bind f = some r) (kk : ∀ M1, f M1 = some r → ax_W Z ad cells slots (pc + 3) lv st M1) : ax_W Z ad cells slots pc lv (ax_I n :: ax_I dp :: ax_O b :: ax_I sp :: ax_O a :: st) M := by
  intro H locs ls h1 h2 h3
  obtain ⟨hx, hb, hml, hr, hts, hown, hlk, hK, hsz⟩ := B
  obtain ⟨M1, e1, e2⟩ := ax_bd hf
  obtain ⟨a', b', n0, n1, rfl, rfl, hs0, hs1, c1, c2, c3, c4, c5, e1⟩ := ax_cp_inv e1
  obtain ⟨dom, q, g1, g2, g3, g4, g5, g6, g7⟩ := h2.at hs1
  obtain ⟨qa, hqa, g8⟩ := ax_ls_at (G := Z.2.2.2.2.2.2.2.2.2.2.1) (ad := ad) ((g2 a').mpr (by rw [hs0]; exact fun z => by cases z)) hs0
  simp only [ax_ce, ax_el, ax_py] at g7 g8
  refine va_copyi (ty := .int) hx hb (by rw [hml, ← h1.1]) hown (hts _ hl) (hts _ x_native) (hts _ x_static) (hts _ x_sys) hK.1 g3 g4 h3 qa q 0 0 g8 g7 (ax_ts_at (by decide)) (ax_ts_at (by decide)) rfl c1 c2 c3 c4 c5 (fun i _ => rfl) (Nat.le_trans h1d hR.1) (by
    have := hR.2.1
    have e : ((List.map (ax_v ad) st).map fun v => v.category).sum ≤ 8 := by rw [ax_v_st]; exact h8
    show ((List.map (ax_v ad) st).map fun v => v.category).sum + (7 + 11) ≤ _
    omega) hd (fun H1 locs1 k1 k2 k3 => ?_)
  have h2' : ax_P Z.2.2.2.2.2.2.2.2.2.2.1 ad M1 H1 := by
    subst e1
    refine ax_P.write (M := M) g1 g2 g5 g6 (fun _ => rfl) hs1 ?_ ?_ ?_ ?_ k1 k2
    · intro b j hb; simp [ax_i_wc, hb]
    · intro b j hb; rfl
    · intro b j hb; rfl
    · simp only [ax_ce, ax_el, ax_py]
      have e : va_cpy (ax_i M a') (ax_i M b') sp.toNatClampNeg dp.toNatClampNeg n.toNatClampNeg = ax_i (ax_wc M a' b' sp.toNatClampNeg dp.toNatClampNeg n.toNatClampNeg) b' := by
        funext j
        simp [ax_i_wc]
      rw [e]
  exact kk M1 e2 H1 locs1 ls h1 h2' k3
theorem ax_objInit (B : ax_B Z own cc ret) {d0 mc0 ms0 : Nat} (hR : ax_R Z d0 mc0 ms0) {idx : Nat} {o : Nat} (hd : decode cc pc = .ok (.invokespecial idx, 3)) (hl : Cond.methodLink own idx Lib.objectInit ∈ ax_ws) (h1d : 1 ≤ d0) (h8 : (st.map ax_ct).sum ≤ 8) (k : ax_W Z ad cells slots (pc + 3) lv st M) : ax_W Z ad cells slots pc lv (ax_O (some o) :: st) M := by
  intro H locs ls h1 h2 h3
  obtain ⟨hx, hb, hml, hr, hts, hown, hlk, hK, hsz⟩ := B
  exact W.objInit hx hb hown (hts _ hl) (hts _ x_oi) (hts _ x_oc) rfl (by rw [hml]; exact h1.1) rfl hd (Nat.le_trans h1d hR.1) (by
    have := hR.2.1
    have e : ((List.map (ax_v ad) st).map fun v => v.category).sum ≤ 8 := by rw [ax_v_st]; exact h8
    show 2 * 0 + ((List.map (ax_v ad) st).map fun v => v.category).sum + 12 ≤ _
    omega) (k H locs ls h1 h2 h3)
theorem ax_mmax (B : ax_B Z own cc ret) {d0 mc0 ms0 : Nat} (hR : ax_R Z d0 mc0 ms0) {idx : Nat} {x y : Int32} (hd : decode cc pc = .ok (.invokestatic idx, 3)) (hl : Cond.methodLink own idx Lib.Math.max.name ∈ ax_ws) (h1d : 1 ≤ d0) (hc : cells ≤ mc0) (hs : slots ≤ ms0) (h8 : (st.map ax_ct).sum ≤ 8) (k : ax_W Z ad cells slots (pc + 3) lv (ax_I (if x < y then y else x) :: st) M) : ax_W Z ad cells slots pc lv (ax_I y :: ax_I x :: st) M := by
  intro H locs ls h1 h2 h3
  obtain ⟨hx, hb, hml, hr, hts, hown, hlk, hK, hsz⟩ := B
  exact va_mmax hx hb (by rw [hml, ← h1.1]) hown (hts _ hl) (hts _ x_maxs) (hts _ x_mth) (hts _ x_maxc) (Nat.le_trans h1d hR.1) (by
    have := hR.2.1
    have e : ((List.map (ax_v ad) st).map fun v => v.category).sum ≤ 8 := by rw [ax_v_st]; exact h8
    omega) (Nat.le_trans hc hR.2.2.1) (Nat.le_trans hs hR.2.2.2) hd (k H locs ls h1 h2 h3)
theorem ax_mmin (B : ax_B Z own cc ret) {d0 mc0 ms0 : Nat} (hR : ax_R Z d0 mc0 ms0) {idx : Nat} {x y : Int32} (hd : decode cc pc = .ok (.invokestatic idx, 3)) (hl : Cond.methodLink own idx Lib.Math.min.name ∈ ax_ws) (h1d : 1 ≤ d0) (hc : cells ≤ mc0) (hs : slots ≤ ms0) (h8 : (st.map ax_ct).sum ≤ 8) (k : ax_W Z ad cells slots (pc + 3) lv (ax_I (if y < x then y else x) :: st) M) : ax_W Z ad cells slots pc lv (ax_I y :: ax_I x :: st) M := by
  intro H locs ls h1 h2 h3
  obtain ⟨hx, hb, hml, hr, hts, hown, hlk, hK, hsz⟩ := B
  exact va_mmin hx hb (by rw [hml, ← h1.1]) hown (hts _ hl) (hts _ x_mins) (hts _ x_mth) (hts _ x_minc) (Nat.le_trans h1d hR.1) (by
    have := hR.2.1
    have e : ((List.map (ax_v ad) st).map fun v => v.category).sum ≤ 8 := by rw [ax_v_st]; exact h8
    omega) (Nat.le_trans hc hR.2.2.1) (Nat.le_trans hs hR.2.2.2) hd (k H locs ls h1 h2 h3)
theorem ax_tsw3 (B : ax_B Z own cc ret) {x : Int32} {dflt o0 o1 o2 : Int} {len t0 t1 t2 t3 : Nat} {β : Type} {P0 P1 P2 P3 : Option β} {r : β} (hd : decode cc pc = .ok (.tableswitch dflt 0 2 #[o0, o1, o2], len)) (e0 : (pc : Int) + o0 = (t0 : Int)) (e1 : (pc : Int) + o1 = (t1 : Int)) (e2 : (pc : Int) + o2 = (t2 : Int)) (e3 : (pc : Int) + dflt = (t3 : Int))
    (hf : (if x = 0 then P0 else if x = 1 then P1 else if x = 2 then P2 else P3) = some r) (k0 : P0 = some r → ax_W Z ad cells slots t0 lv st M) (k1 : P1 = some r → ax_W Z ad cells slots t1 lv st M) (k2 : P2 = some r → ax_W Z ad cells slots t2 lv st M) (k3 : P3 = some r → ax_W Z ad cells slots t3 lv st M) : ax_W Z ad cells slots pc lv (ax_I x :: st) M := by
  intro H locs ls h1 h2 h3
  by_cases h : x = 0
  · subst h
    rw [if_pos rfl] at hf
    exact lv_tableIn B.1 B.2.1 hd (by decide) (by decide) (off := o0) rfl e0 (k0 hf H locs ls h1 h2 h3)
  · rw [if_neg h] at hf
    by_cases h' : x = 1
    · subst h'
      rw [if_pos rfl] at hf
      exact lv_tableIn B.1 B.2.1 hd (by decide) (by decide) (off := o1) rfl e1 (k1 hf H locs ls h1 h2 h3)
    · rw [if_neg h'] at hf
      by_cases h'' : x = 2
      · subst h''
        rw [if_pos rfl] at hf
        exact lv_tableIn B.1 B.2.1 hd (by decide) (by decide) (off := o2) rfl e2 (k2 hf H locs ls h1 h2 h3)
      · rw [if_neg h''] at hf
        refine lv_tableOut B.1 B.2.1 hd ?_ e3 (k3 hf H locs ls h1 h2 h3)
        have a0 := lv_neT h (a := 0) rfl
        have a1 := lv_neT h' (a := 1) rfl
        have a2 := lv_neT h'' (a := 2) rfl
        omega
/-- behind a call that made cells: the walk goes on with the ids' new places -/
theorem ax_kkA {gs : List Nat} {r : Option ax_U} {M' : ax_M} {refs : List (Option Nat)} (h1v : ax_cv refs (lv.map (·.2))) (h2v : ax_cv refs st) (hg : ∀ o ∈ refs, ∀ g ∈ gs, o ≠ some g) (k : ∀ ad', (∀ a, a ∉ gs → ad' a = ad a) → ax_W Z ad' cells slots (pc + 3) lv (r.toList ++ st) M') : ax_KK Z ad gs cells slots pc lv st M r M' := by
  intro ad' H locs ls h1 g1 g3 g4
  have h := k ad' g1 H locs ls (by rw [ax_lv_nr g1 (ax_cv_lv h1v hg)]; exact h1) g3 g4
  rw [List.map_append, ax_st_nr g1 (ax_cv_nr h2v hg)] at h
  cases r <;> exact h
theorem ax_cSV (B : ax_B Z own cc ret) {d0 mc0 ms0 : Nat} (hR : ax_R Z d0 mc0 ms0) {idx : Nat} {y : MethodName} {bytes : ByteArray} {maxL n d : Nat} {rt : Option FieldType} {as : List ax_U} {stk : List ax_U} {α β : Type} {φ : Option α} {g : α → Option β} {r : β} {V : α → ax_U} {N : α → ax_M} (hd : decode cc pc = .ok (.invokestatic idx, 3)) (hl : ax_ml own idx y) (hw : ax_ms y bytes maxL rt n) (hf : φ.bind g = some r) (hC : ∀ q, φ = some q → ax_C Z.2.1 Z.2.2.2.2.2.2.2.2.2.2.1 y bytes maxL rt [] d 0 0 as M (some (V q)) (N q)) (hst : stk = as.reverse ++ st) (hn : as.length = n) (hf' : d + 1 ≤ d0) (hm : maxL ≤ 18) (hc : cells ≤ mc0) (hs : slots ≤ ms0) (h8 : (st.map ax_ct).sum ≤ 8)
    (kk : ∀ q, g q = some r → ax_W Z ad cells slots (pc + 3) lv (V q :: st) (N q)) : ax_W Z ad cells slots pc lv stk M := by
  obtain ⟨q, e1, e2⟩ := ax_bd hf
  exact ax_callS B hR hd hl hw (hC q e1) hst hn hf' hm hc hs h8 (ax_kkV (kk q e2))
theorem ax_cVV (B : ax_B Z own cc ret) {d0 mc0 ms0 : Nat} (hR : ax_R Z d0 mc0 ms0) {idx : Nat} {y : MethodName} {bytes : ByteArray} {maxL n d : Nat} {rt : Option FieldType} {as : List ax_U} {stk : List ax_U} {α β : Type} {φ : Option α} {g : α → Option β} {r : β} {ci : Nat} {o : Option Nat} {V : α → ax_U} {N : α → ax_M} (hd : decode cc pc = .ok (.invokevirtual idx, 3)) (hl : ax_ml own idx y) (hw : ax_mv y bytes maxL rt n ci) (hf : ((ax_ob M ci o).bind fun _ => φ.bind g) = some r) (hC : ∀ q, φ = some q → ax_C Z.2.1 Z.2.2.2.2.2.2.2.2.2.2.1 y bytes maxL rt [] d 0 0 (ax_O o :: as) M (some (V q)) (N q)) (hst : stk = as.reverse ++ ax_O o :: st) (hn : as.length = n) (hf' : d + 1 ≤ d0) (hm : maxL ≤ 18) (hc : cells ≤ mc0) (hs : slots ≤ ms0) (h8 : (st.map ax_ct).sum ≤ 8)
    (kk : ∀ q, g q = some r → ax_W Z ad cells slots (pc + 3) lv (V q :: st) (N q)) : ax_W Z ad cells slots pc lv stk M := by
  obtain ⟨o', e0, e3⟩ := ax_bd hf
  obtain ⟨rfl, hs'⟩ := ax_ob_inv e0
  obtain ⟨q, e1, e2⟩ := ax_bd e3
  exact ax_callV B hR hd hl hw hs' (hC q e1) hst hn hf' hm hc hs h8 (ax_kkV (kk q e2))
theorem ax_cSN (B : ax_B Z own cc ret) {d0 mc0 ms0 : Nat} (hR : ax_R Z d0 mc0 ms0) {idx : Nat} {y : MethodName} {bytes : ByteArray} {maxL n d : Nat} {rt : Option FieldType} {as : List ax_U} {stk : List ax_U} {α β : Type} {φ : Option α} {g : α → Option β} {r : β} {N : α → ax_M} (hd : decode cc pc = .ok (.invokestatic idx, 3)) (hl : ax_ml own idx y) (hw : ax_ms y bytes maxL rt n) (hf : φ.bind g = some r) (hC : ∀ q, φ = some q → ax_C Z.2.1 Z.2.2.2.2.2.2.2.2.2.2.1 y bytes maxL rt [] d 0 0 as M none (N q)) (hst : stk = as.reverse ++ st) (hn : as.length = n) (hf' : d + 1 ≤ d0) (hm : maxL ≤ 18) (hc : cells ≤ mc0) (hs : slots ≤ ms0) (h8 : (st.map ax_ct).sum ≤ 8)
    (kk : ∀ q, g q = some r → ax_W Z ad cells slots (pc + 3) lv st (N q)) : ax_W Z ad cells slots pc lv stk M := by
  obtain ⟨q, e1, e2⟩ := ax_bd hf
  exact ax_callS B hR hd hl hw (hC q e1) hst hn hf' hm hc hs h8 (ax_kkN (kk q e2))
theorem ax_cVN (B : ax_B Z own cc ret) {d0 mc0 ms0 : Nat} (hR : ax_R Z d0 mc0 ms0) {idx : Nat} {y : MethodName} {bytes : ByteArray} {maxL n d : Nat} {rt : Option FieldType} {as : List ax_U} {stk : List ax_U} {α β : Type} {φ : Option α} {g : α → Option β} {r : β} {ci : Nat} {o : Option Nat} {N : α → ax_M} (hd : decode cc pc = .ok (.invokevirtual idx, 3)) (hl : ax_ml own idx y) (hw : ax_mv y bytes maxL rt n ci) (hf : ((ax_ob M ci o).bind fun _ => φ.bind g) = some r) (hC : ∀ q, φ = some q → ax_C Z.2.1 Z.2.2.2.2.2.2.2.2.2.2.1 y bytes maxL rt [] d 0 0 (ax_O o :: as) M none (N q)) (hst : stk = as.reverse ++ ax_O o :: st) (hn : as.length = n) (hf' : d + 1 ≤ d0) (hm : maxL ≤ 18) (hc : cells ≤ mc0) (hs : slots ≤ ms0) (h8 : (st.map ax_ct).sum ≤ 8)
    (kk : ∀ q, g q = some r → ax_W Z ad cells slots (pc + 3) lv st (N q)) : ax_W Z ad cells slots pc lv stk M := by
  obtain ⟨o', e0, e3⟩ := ax_bd hf
  obtain ⟨rfl, hs'⟩ := ax_ob_inv e0
  obtain ⟨q, e1, e2⟩ := ax_bd e3
  exact ax_callV B hR hd hl hw hs' (hC q e1) hst hn hf' hm hc hs h8 (ax_kkN (kk q e2))
def ax_gf (refs : List (Option Nat)) (gs : List Nat) : Option Unit := if ∀ o ∈ refs, ∀ g ∈ gs, o ≠ some g then some () else none
theorem ax_gf_inv {refs : List (Option Nat)} {gs : List Nat} {u : Unit} (h : ax_gf refs gs = some u) : ∀ o ∈ refs, ∀ g ∈ gs, o ≠ some g := by
  unfold ax_gf at h
  split at h
  · next hc => exact hc
  · cases h
/-- a constructor that makes cells -/
theorem ax_cI (B : ax_B Z own cc ret) {d0 mc0 ms0 : Nat} (hR : ax_R Z d0 mc0 ms0) {idx o : Nat} {y : MethodName} {bytes : ByteArray} {maxL n d mc ms : Nat} {gs : List Nat} {refs : List (Option Nat)} {as : List ax_U} {stk : List ax_U} {β : Type} {φ : Option ax_M} {g : ax_M → Option β} {r : β} (hd : decode cc pc = .ok (.invokespecial idx, 3)) (hl : ax_ml own idx y) (hw : ax_mi y bytes maxL n) (h1v : ax_cv refs (lv.map (·.2))) (h2v : ax_cv refs st) (hf : ((ax_gf refs gs).bind fun _ => φ.bind g) = some r) (hC : ∀ q, φ = some q → ax_C Z.2.1 Z.2.2.2.2.2.2.2.2.2.2.1 y bytes maxL none gs d mc ms (ax_O (some o) :: as) M none q) (hst : stk = as.reverse ++ ax_O (some o) :: st) (hn : as.length = n) (hf' : d + 1 ≤ d0) (hm : maxL ≤ 18) (hc : cells + mc ≤ mc0) (hs : slots + ms ≤ ms0) (h8 : (st.map ax_ct).sum ≤ 8)
    (kk : ∀ q ad', (∀ a, a ∉ gs → ad' a = ad a) → g q = some r → ax_W Z ad' (cells + mc) (slots + ms) (pc + 3) lv st q) : ax_W Z ad cells slots pc lv stk M := by
  obtain ⟨u, e0, e3⟩ := ax_bd hf
  obtain ⟨q, e1, e2⟩ := ax_bd e3
  exact ax_callI B hR hd hl hw rfl (hC q e1) hst hn hf' hm hc hs h8 (ax_kkA h1v h2v (ax_gf_inv e0) (fun ad' h => kk q ad' h e2))
theorem ax_iincN (B : ax_B Z own cc ret) {i j : Nat} {n : Int} {x v0 : Int32} {lv' : Int32 → List (Nat × ax_U)} {β : Type} {f : Int32 → Option β} {r : β} (hd : decode cc pc = .ok (.iinc i n, 3)) (hk : lv[j]? = some (i, ax_I x)) (hf : (some v0).bind f = some r) (hv : x + Int32.ofInt n = v0) (hn : i < Z.2.2.2.2.2.2.2.2.2.2.2.1) (hl : ∀ y, (i, ax_I y) :: lv.filter (fun q => !(q.1 == i) && !(q.1 + 1 == i && ax_ct q.2 == 2)) = lv' y) (kk : ∀ y, f y = some r → ax_W Z ad cells slots (pc + 3) (lv' y) st M) : ax_W Z ad cells slots pc lv st M := ax_iinc B hd hk hv hn (hl v0) (kk v0 hf)
end
def ax_bo (v : Int32) : Option Int32 := if v = 0 ∨ v = 1 then some v else none
theorem ax_bo_inv {v x : Int32} (h : ax_bo v = some x) : v = 0 ∨ v = 1 := by
  unfold ax_bo at h
  split at h
  · next hc => exact hc
  · cases h
theorem ax_bo_n {v x : Int32} (h : ax_bo v = some x) : narrow .boolean (.int v) = .int v := by
  rcases ax_bo_inv h with rfl | rfl <;> rfl
theorem ax_bo_f {v x : Int32} (h : ax_bo v = some x) : fits .boolean (.int v) = true := by
  rcases ax_bo_inv h with rfl | rfl <;> rfl
theorem ax_bo_v {v x : Int32} (h : ax_bo v = some x) : vp_nar .boolean v = v := by
  rcases ax_bo_inv h with rfl | rfl <;> decide
theorem ax_ag {gs gs' : List Nat} {ad ad2 ad0 : Nat → Nat} (h2 : ∀ a, a ∉ gs' → ad2 a = ad a) (hs : ∀ a, a ∈ gs' → a ∈ gs) (h : ∀ a, a ∉ gs → ad a = ad0 a) : ∀ a, a ∉ gs → ad2 a = ad0 a := fun a ha => (h2 a (fun z => ha (hs a z))).trans (h a ha)
end
section
theorem d_V_init_0 : decode b_V_init 0 = .ok (.aload_n 0, 1) := by decide +kernel
theorem d_V_init_1 : decode b_V_init 1 = .ok (.invokespecial 1, 3) := by decide +kernel
theorem d_V_init_4 : decode b_V_init 4 = .ok (.aload_n 0, 1) := by decide +kernel
theorem d_V_init_5 : decode b_V_init 5 = .ok (.bipush 8, 2) := by decide +kernel
theorem d_V_init_7 : decode b_V_init 7 = .ok (.newarray .int, 2) := by decide +kernel
theorem d_V_init_9 : decode b_V_init 9 = .ok (.putfield 9, 3) := by decide +kernel
theorem d_V_init_12 : decode b_V_init 12 = .ok (.aload_n 0, 1) := by decide +kernel
theorem d_V_init_13 : decode b_V_init 13 = .ok (.bipush 8, 2) := by decide +kernel
theorem d_V_init_15 : decode b_V_init 15 = .ok (.newarray .long, 2) := by decide +kernel
theorem d_V_init_17 : decode b_V_init 17 = .ok (.putfield 13, 3) := by decide +kernel
theorem d_V_init_20 : decode b_V_init 20 = .ok (.aload_n 0, 1) := by decide +kernel
theorem d_V_init_21 : decode b_V_init 21 = .ok (.bipush 8, 2) := by decide +kernel
theorem d_V_init_23 : decode b_V_init 23 = .ok (.newarray .long, 2) := by decide +kernel
theorem d_V_init_25 : decode b_V_init 25 = .ok (.putfield 17, 3) := by decide +kernel
theorem d_V_init_28 : decode b_V_init 28 = .ok (.aload_n 0, 1) := by decide +kernel
theorem d_V_init_29 : decode b_V_init 29 = .ok (.bipush 8, 2) := by decide +kernel
theorem d_V_init_31 : decode b_V_init 31 = .ok (.newarray .int, 2) := by decide +kernel
theorem d_V_init_33 : decode b_V_init 33 = .ok (.putfield 20, 3) := by decide +kernel
theorem d_V_init_36 : decode b_V_init 36 = .ok (.iconst 0, 1) := by decide +kernel
theorem d_V_init_37 : decode b_V_init 37 = .ok (.istore_n 1, 1) := by decide +kernel
theorem d_V_init_38 : decode b_V_init 38 = .ok (.iload_n 1, 1) := by decide +kernel
theorem d_V_init_39 : decode b_V_init 39 = .ok (.bipush 8, 2) := by decide +kernel
theorem d_V_init_41 : decode b_V_init 41 = .ok (.if_icmp .ge 16, 3) := by decide +kernel
theorem d_V_init_44 : decode b_V_init 44 = .ok (.aload_n 0, 1) := by decide +kernel
theorem d_V_init_45 : decode b_V_init 45 = .ok (.getfield 20, 3) := by decide +kernel
theorem d_V_init_48 : decode b_V_init 48 = .ok (.iload_n 1, 1) := by decide +kernel
theorem d_V_init_49 : decode b_V_init 49 = .ok (.iconst (-1), 1) := by decide +kernel
theorem d_V_init_50 : decode b_V_init 50 = .ok (.iastore, 1) := by decide +kernel
theorem d_V_init_51 : decode b_V_init 51 = .ok (.iinc 1 1, 3) := by decide +kernel
theorem d_V_init_54 : decode b_V_init 54 = .ok (.goto (-16), 3) := by decide +kernel
theorem d_V_init_57 : decode b_V_init 57 = .ok (.aload_n 0, 1) := by decide +kernel
theorem d_V_init_58 : decode b_V_init 58 = .ok (.bipush 6, 2) := by decide +kernel
theorem d_V_init_60 : decode b_V_init 60 = .ok (.anewarray 23, 3) := by decide +kernel
theorem d_V_init_63 : decode b_V_init 63 = .ok (.putfield 25, 3) := by decide +kernel
theorem d_V_init_66 : decode b_V_init 66 = .ok (.aload_n 0, 1) := by decide +kernel
theorem d_V_init_67 : decode b_V_init 67 = .ok (.bipush 6, 2) := by decide +kernel
theorem d_V_init_69 : decode b_V_init 69 = .ok (.anewarray 29, 3) := by decide +kernel
theorem d_V_init_72 : decode b_V_init 72 = .ok (.putfield 31, 3) := by decide +kernel
theorem d_V_init_75 : decode b_V_init 75 = .ok (.aload_n 0, 1) := by decide +kernel
theorem d_V_init_76 : decode b_V_init 76 = .ok (.bipush 8, 2) := by decide +kernel
theorem d_V_init_78 : decode b_V_init 78 = .ok (.newarray .int, 2) := by decide +kernel
theorem d_V_init_80 : decode b_V_init 80 = .ok (.putfield 35, 3) := by decide +kernel
theorem d_V_init_83 : decode b_V_init 83 = .ok (.aload_n 0, 1) := by decide +kernel
theorem d_V_init_84 : decode b_V_init 84 = .ok (.iconst 4, 1) := by decide +kernel
theorem d_V_init_85 : decode b_V_init 85 = .ok (.newarray .int, 2) := by decide +kernel
theorem d_V_init_87 : decode b_V_init 87 = .ok (.putfield 38, 3) := by decide +kernel
theorem d_V_init_90 : decode b_V_init 90 = .ok (.aload_n 0, 1) := by decide +kernel
theorem d_V_init_91 : decode b_V_init 91 = .ok (.iconst 4, 1) := by decide +kernel
theorem d_V_init_92 : decode b_V_init 92 = .ok (.newarray .int, 2) := by decide +kernel
theorem d_V_init_94 : decode b_V_init 94 = .ok (.putfield 41, 3) := by decide +kernel
theorem d_V_init_97 : decode b_V_init 97 = .ok (.return_, 1) := by decide +kernel
theorem d_V_isOutside_0 : decode b_V_isOutside 0 = .ok (.iload_n 0, 1) := by decide +kernel
theorem d_V_isOutside_1 : decode b_V_isOutside 1 = .ok (.iload_n 1, 1) := by decide +kernel
theorem d_V_isOutside_2 : decode b_V_isOutside 2 = .ok (.if_icmp .lt 8, 3) := by decide +kernel
theorem d_V_isOutside_5 : decode b_V_isOutside 5 = .ok (.iload_n 0, 1) := by decide +kernel
theorem d_V_isOutside_6 : decode b_V_isOutside 6 = .ok (.iload_n 2, 1) := by decide +kernel
theorem d_V_isOutside_7 : decode b_V_isOutside 7 = .ok (.if_icmp .le 7, 3) := by decide +kernel
theorem d_V_isOutside_10 : decode b_V_isOutside 10 = .ok (.iconst 1, 1) := by decide +kernel
theorem d_V_isOutside_11 : decode b_V_isOutside 11 = .ok (.goto 4, 3) := by decide +kernel
theorem d_V_isOutside_14 : decode b_V_isOutside 14 = .ok (.iconst 0, 1) := by decide +kernel
theorem d_V_isOutside_15 : decode b_V_isOutside 15 = .ok (.ireturn, 1) := by decide +kernel
theorem d_V_account_0 : decode b_V_account 0 = .ok (.iload_n 1, 1) := by decide +kernel
theorem d_V_account_1 : decode b_V_account 1 = .ok (.iconst 0, 1) := by decide +kernel
theorem d_V_account_2 : decode b_V_account 2 = .ok (.sipush 1000, 3) := by decide +kernel
theorem d_V_account_5 : decode b_V_account 5 = .ok (.invokestatic 44, 3) := by decide +kernel
theorem d_V_account_8 : decode b_V_account 8 = .ok (.ifCond .ne 13, 3) := by decide +kernel
theorem d_V_account_11 : decode b_V_account 11 = .ok (.iload_n 2, 1) := by decide +kernel
theorem d_V_account_12 : decode b_V_account 12 = .ok (.iconst 0, 1) := by decide +kernel
theorem d_V_account_13 : decode b_V_account 13 = .ok (.ldc 48, 2) := by decide +kernel
theorem d_V_account_15 : decode b_V_account 15 = .ok (.invokestatic 44, 3) := by decide +kernel
theorem d_V_account_18 : decode b_V_account 18 = .ok (.ifCond .eq 6, 3) := by decide +kernel
theorem d_V_account_21 : decode b_V_account 21 = .ok (.bipush (-2), 2) := by decide +kernel
theorem d_V_account_23 : decode b_V_account 23 = .ok (.ireturn, 1) := by decide +kernel
theorem d_V_account_24 : decode b_V_account 24 = .ok (.aload_n 0, 1) := by decide +kernel
theorem d_V_account_25 : decode b_V_account 25 = .ok (.getfield 49, 3) := by decide +kernel
theorem d_V_account_28 : decode b_V_account 28 = .ok (.bipush 8, 2) := by decide +kernel
theorem d_V_account_30 : decode b_V_account 30 = .ok (.if_icmp .lt 6, 3) := by decide +kernel
theorem d_V_account_33 : decode b_V_account 33 = .ok (.bipush (-4), 2) := by decide +kernel
theorem d_V_account_35 : decode b_V_account 35 = .ok (.ireturn, 1) := by decide +kernel
theorem d_V_account_36 : decode b_V_account 36 = .ok (.aload_n 0, 1) := by decide +kernel
theorem d_V_account_37 : decode b_V_account 37 = .ok (.getfield 49, 3) := by decide +kernel
theorem d_V_account_40 : decode b_V_account 40 = .ok (.istore_n 3, 1) := by decide +kernel
theorem d_V_account_41 : decode b_V_account 41 = .ok (.aload_n 0, 1) := by decide +kernel
theorem d_V_account_42 : decode b_V_account 42 = .ok (.getfield 9, 3) := by decide +kernel
theorem d_V_account_45 : decode b_V_account 45 = .ok (.iload_n 3, 1) := by decide +kernel
theorem d_V_account_46 : decode b_V_account 46 = .ok (.iload_n 1, 1) := by decide +kernel
theorem d_V_account_47 : decode b_V_account 47 = .ok (.iastore, 1) := by decide +kernel
theorem d_V_account_48 : decode b_V_account 48 = .ok (.aload_n 0, 1) := by decide +kernel
theorem d_V_account_49 : decode b_V_account 49 = .ok (.getfield 13, 3) := by decide +kernel
theorem d_V_account_52 : decode b_V_account 52 = .ok (.iload_n 3, 1) := by decide +kernel
theorem d_V_account_53 : decode b_V_account 53 = .ok (.iload_n 2, 1) := by decide +kernel
theorem d_V_account_54 : decode b_V_account 54 = .ok (.i2l, 1) := by decide +kernel
theorem d_V_account_55 : decode b_V_account 55 = .ok (.lastore, 1) := by decide +kernel
theorem d_V_account_56 : decode b_V_account 56 = .ok (.aload_n 0, 1) := by decide +kernel
theorem d_V_account_57 : decode b_V_account 57 = .ok (.dup, 1) := by decide +kernel
theorem d_V_account_58 : decode b_V_account 58 = .ok (.getfield 49, 3) := by decide +kernel
theorem d_V_account_61 : decode b_V_account 61 = .ok (.iconst 1, 1) := by decide +kernel
theorem d_V_account_62 : decode b_V_account 62 = .ok (.iadd, 1) := by decide +kernel
theorem d_V_account_63 : decode b_V_account 63 = .ok (.putfield 49, 3) := by decide +kernel
theorem d_V_account_66 : decode b_V_account 66 = .ok (.iload_n 3, 1) := by decide +kernel
theorem d_V_account_67 : decode b_V_account 67 = .ok (.ireturn, 1) := by decide +kernel
theorem d_V_isNoAccount_0 : decode b_V_isNoAccount 0 = .ok (.iload_n 1, 1) := by decide +kernel
theorem d_V_isNoAccount_1 : decode b_V_isNoAccount 1 = .ok (.ifCond .lt 17, 3) := by decide +kernel
theorem d_V_isNoAccount_4 : decode b_V_isNoAccount 4 = .ok (.iload_n 1, 1) := by decide +kernel
theorem d_V_isNoAccount_5 : decode b_V_isNoAccount 5 = .ok (.aload_n 0, 1) := by decide +kernel
theorem d_V_isNoAccount_6 : decode b_V_isNoAccount 6 = .ok (.getfield 49, 3) := by decide +kernel
theorem d_V_isNoAccount_9 : decode b_V_isNoAccount 9 = .ok (.if_icmp .ge 9, 3) := by decide +kernel
theorem d_V_isNoAccount_12 : decode b_V_isNoAccount 12 = .ok (.iload_n 1, 1) := by decide +kernel
theorem d_V_isNoAccount_13 : decode b_V_isNoAccount 13 = .ok (.bipush 8, 2) := by decide +kernel
theorem d_V_isNoAccount_15 : decode b_V_isNoAccount 15 = .ok (.if_icmp .lt 7, 3) := by decide +kernel
theorem d_V_isNoAccount_18 : decode b_V_isNoAccount 18 = .ok (.iconst 1, 1) := by decide +kernel
theorem d_V_isNoAccount_19 : decode b_V_isNoAccount 19 = .ok (.goto 4, 3) := by decide +kernel
theorem d_V_isNoAccount_22 : decode b_V_isNoAccount 22 = .ok (.iconst 0, 1) := by decide +kernel
theorem d_V_isNoAccount_23 : decode b_V_isNoAccount 23 = .ok (.ireturn, 1) := by decide +kernel
theorem d_V_weigh_0 : decode b_V_weigh 0 = .ok (.aload_n 0, 1) := by decide +kernel
theorem d_V_weigh_1 : decode b_V_weigh 1 = .ok (.iload_n 1, 1) := by decide +kernel
theorem d_V_weigh_2 : decode b_V_weigh 2 = .ok (.invokevirtual 53, 3) := by decide +kernel
theorem d_V_weigh_5 : decode b_V_weigh 5 = .ok (.ifCond .eq 5, 3) := by decide +kernel
theorem d_V_weigh_8 : decode b_V_weigh 8 = .ok (.iconst (-1), 1) := by decide +kernel
theorem d_V_weigh_9 : decode b_V_weigh 9 = .ok (.ireturn, 1) := by decide +kernel
theorem d_V_weigh_10 : decode b_V_weigh 10 = .ok (.iload_n 2, 1) := by decide +kernel
theorem d_V_weigh_11 : decode b_V_weigh 11 = .ok (.iconst 0, 1) := by decide +kernel
theorem d_V_weigh_12 : decode b_V_weigh 12 = .ok (.sipush 1000, 3) := by decide +kernel
theorem d_V_weigh_15 : decode b_V_weigh 15 = .ok (.invokestatic 44, 3) := by decide +kernel
theorem d_V_weigh_18 : decode b_V_weigh 18 = .ok (.ifCond .eq 6, 3) := by decide +kernel
theorem d_V_weigh_21 : decode b_V_weigh 21 = .ok (.bipush (-2), 2) := by decide +kernel
theorem d_V_weigh_23 : decode b_V_weigh 23 = .ok (.ireturn, 1) := by decide +kernel
theorem d_V_weigh_24 : decode b_V_weigh 24 = .ok (.aload_n 0, 1) := by decide +kernel
theorem d_V_weigh_25 : decode b_V_weigh 25 = .ok (.getfield 9, 3) := by decide +kernel
theorem d_V_weigh_28 : decode b_V_weigh 28 = .ok (.iload_n 1, 1) := by decide +kernel
theorem d_V_weigh_29 : decode b_V_weigh 29 = .ok (.iaload, 1) := by decide +kernel
theorem d_V_weigh_30 : decode b_V_weigh 30 = .ok (.istore_n 3, 1) := by decide +kernel
theorem d_V_weigh_31 : decode b_V_weigh 31 = .ok (.aload_n 0, 1) := by decide +kernel
theorem d_V_weigh_32 : decode b_V_weigh 32 = .ok (.getfield 9, 3) := by decide +kernel
theorem d_V_weigh_35 : decode b_V_weigh 35 = .ok (.iload_n 1, 1) := by decide +kernel
theorem d_V_weigh_36 : decode b_V_weigh 36 = .ok (.iload_n 2, 1) := by decide +kernel
theorem d_V_weigh_37 : decode b_V_weigh 37 = .ok (.iastore, 1) := by decide +kernel
theorem d_V_weigh_38 : decode b_V_weigh 38 = .ok (.iload_n 3, 1) := by decide +kernel
theorem d_V_weigh_39 : decode b_V_weigh 39 = .ok (.ireturn, 1) := by decide +kernel
theorem d_V_fund_0 : decode b_V_fund 0 = .ok (.aload_n 0, 1) := by decide +kernel
theorem d_V_fund_1 : decode b_V_fund 1 = .ok (.iload_n 1, 1) := by decide +kernel
theorem d_V_fund_2 : decode b_V_fund 2 = .ok (.invokevirtual 53, 3) := by decide +kernel
theorem d_V_fund_5 : decode b_V_fund 5 = .ok (.ifCond .eq 5, 3) := by decide +kernel
theorem d_V_fund_8 : decode b_V_fund 8 = .ok (.iconst (-1), 1) := by decide +kernel
theorem d_V_fund_9 : decode b_V_fund 9 = .ok (.ireturn, 1) := by decide +kernel
theorem d_V_fund_10 : decode b_V_fund 10 = .ok (.iload_n 2, 1) := by decide +kernel
theorem d_V_fund_11 : decode b_V_fund 11 = .ok (.iconst 0, 1) := by decide +kernel
theorem d_V_fund_12 : decode b_V_fund 12 = .ok (.ldc 57, 2) := by decide +kernel
theorem d_V_fund_14 : decode b_V_fund 14 = .ok (.invokestatic 44, 3) := by decide +kernel
theorem d_V_fund_17 : decode b_V_fund 17 = .ok (.ifCond .eq 6, 3) := by decide +kernel
theorem d_V_fund_20 : decode b_V_fund 20 = .ok (.bipush (-2), 2) := by decide +kernel
theorem d_V_fund_22 : decode b_V_fund 22 = .ok (.ireturn, 1) := by decide +kernel
theorem d_V_fund_23 : decode b_V_fund 23 = .ok (.aload_n 0, 1) := by decide +kernel
theorem d_V_fund_24 : decode b_V_fund 24 = .ok (.getfield 13, 3) := by decide +kernel
theorem d_V_fund_27 : decode b_V_fund 27 = .ok (.iload_n 1, 1) := by decide +kernel
theorem d_V_fund_28 : decode b_V_fund 28 = .ok (.dup2, 1) := by decide +kernel
theorem d_V_fund_29 : decode b_V_fund 29 = .ok (.laload, 1) := by decide +kernel
theorem d_V_fund_30 : decode b_V_fund 30 = .ok (.iload_n 2, 1) := by decide +kernel
theorem d_V_fund_31 : decode b_V_fund 31 = .ok (.i2l, 1) := by decide +kernel
theorem d_V_fund_32 : decode b_V_fund 32 = .ok (.ladd, 1) := by decide +kernel
theorem d_V_fund_33 : decode b_V_fund 33 = .ok (.lastore, 1) := by decide +kernel
theorem d_V_fund_34 : decode b_V_fund 34 = .ok (.iconst 1, 1) := by decide +kernel
theorem d_V_fund_35 : decode b_V_fund 35 = .ok (.ireturn, 1) := by decide +kernel
theorem d_V_speak_0 : decode b_V_speak 0 = .ok (.aload_n 0, 1) := by decide +kernel
theorem d_V_speak_1 : decode b_V_speak 1 = .ok (.iload_n 1, 1) := by decide +kernel
theorem d_V_speak_2 : decode b_V_speak 2 = .ok (.invokevirtual 53, 3) := by decide +kernel
theorem d_V_speak_5 : decode b_V_speak 5 = .ok (.ifCond .ne 11, 3) := by decide +kernel
theorem d_V_speak_8 : decode b_V_speak 8 = .ok (.aload_n 0, 1) := by decide +kernel
theorem d_V_speak_9 : decode b_V_speak 9 = .ok (.iload_n 2, 1) := by decide +kernel
theorem d_V_speak_10 : decode b_V_speak 10 = .ok (.invokevirtual 53, 3) := by decide +kernel
theorem d_V_speak_13 : decode b_V_speak 13 = .ok (.ifCond .eq 5, 3) := by decide +kernel
theorem d_V_speak_16 : decode b_V_speak 16 = .ok (.iconst (-1), 1) := by decide +kernel
theorem d_V_speak_17 : decode b_V_speak 17 = .ok (.ireturn, 1) := by decide +kernel
theorem d_V_speak_18 : decode b_V_speak 18 = .ok (.aload_n 0, 1) := by decide +kernel
theorem d_V_speak_19 : decode b_V_speak 19 = .ok (.getfield 20, 3) := by decide +kernel
theorem d_V_speak_22 : decode b_V_speak 22 = .ok (.iload_n 1, 1) := by decide +kernel
theorem d_V_speak_23 : decode b_V_speak 23 = .ok (.iaload, 1) := by decide +kernel
theorem d_V_speak_24 : decode b_V_speak 24 = .ok (.istore_n 3, 1) := by decide +kernel
theorem d_V_speak_25 : decode b_V_speak 25 = .ok (.aload_n 0, 1) := by decide +kernel
theorem d_V_speak_26 : decode b_V_speak 26 = .ok (.getfield 20, 3) := by decide +kernel
theorem d_V_speak_29 : decode b_V_speak 29 = .ok (.iload_n 1, 1) := by decide +kernel
theorem d_V_speak_30 : decode b_V_speak 30 = .ok (.iload_n 2, 1) := by decide +kernel
theorem d_V_speak_31 : decode b_V_speak 31 = .ok (.iload_n 1, 1) := by decide +kernel
theorem d_V_speak_32 : decode b_V_speak 32 = .ok (.if_icmp .ne 7, 3) := by decide +kernel
theorem d_V_speak_35 : decode b_V_speak 35 = .ok (.iconst (-1), 1) := by decide +kernel
theorem d_V_speak_36 : decode b_V_speak 36 = .ok (.goto 4, 3) := by decide +kernel
theorem d_V_speak_39 : decode b_V_speak 39 = .ok (.iload_n 2, 1) := by decide +kernel
theorem d_V_speak_40 : decode b_V_speak 40 = .ok (.iastore, 1) := by decide +kernel
theorem d_V_speak_41 : decode b_V_speak 41 = .ok (.iload_n 3, 1) := by decide +kernel
theorem d_V_speak_42 : decode b_V_speak 42 = .ok (.iconst (-1), 1) := by decide +kernel
theorem d_V_speak_43 : decode b_V_speak 43 = .ok (.if_icmp .ne 7, 3) := by decide +kernel
theorem d_V_speak_46 : decode b_V_speak 46 = .ok (.iload_n 1, 1) := by decide +kernel
theorem d_V_speak_47 : decode b_V_speak 47 = .ok (.goto 4, 3) := by decide +kernel
theorem d_V_speak_50 : decode b_V_speak 50 = .ok (.iload_n 3, 1) := by decide +kernel
theorem d_V_speak_51 : decode b_V_speak 51 = .ok (.ireturn, 1) := by decide +kernel
theorem d_V_holds_0 : decode b_V_holds 0 = .ok (.aload_n 0, 1) := by decide +kernel
theorem d_V_holds_1 : decode b_V_holds 1 = .ok (.iload_n 1, 1) := by decide +kernel
theorem d_V_holds_2 : decode b_V_holds 2 = .ok (.invokevirtual 53, 3) := by decide +kernel
theorem d_V_holds_5 : decode b_V_holds 5 = .ok (.ifCond .eq 7, 3) := by decide +kernel
theorem d_V_holds_8 : decode b_V_holds 8 = .ok (.ldc2_w 58, 3) := by decide +kernel
theorem d_V_holds_11 : decode b_V_holds 11 = .ok (.lreturn, 1) := by decide +kernel
theorem d_V_holds_12 : decode b_V_holds 12 = .ok (.iload_n 2, 1) := by decide +kernel
theorem d_V_holds_13 : decode b_V_holds 13 = .ok (.tableswitch 49 0 2 #[27, 35, 42], 27) := by decide +kernel
theorem d_V_holds_40 : decode b_V_holds 40 = .ok (.aload_n 0, 1) := by decide +kernel
theorem d_V_holds_41 : decode b_V_holds 41 = .ok (.getfield 9, 3) := by decide +kernel
theorem d_V_holds_44 : decode b_V_holds 44 = .ok (.iload_n 1, 1) := by decide +kernel
theorem d_V_holds_45 : decode b_V_holds 45 = .ok (.iaload, 1) := by decide +kernel
theorem d_V_holds_46 : decode b_V_holds 46 = .ok (.i2l, 1) := by decide +kernel
theorem d_V_holds_47 : decode b_V_holds 47 = .ok (.lreturn, 1) := by decide +kernel
theorem d_V_holds_48 : decode b_V_holds 48 = .ok (.aload_n 0, 1) := by decide +kernel
theorem d_V_holds_49 : decode b_V_holds 49 = .ok (.getfield 13, 3) := by decide +kernel
theorem d_V_holds_52 : decode b_V_holds 52 = .ok (.iload_n 1, 1) := by decide +kernel
theorem d_V_holds_53 : decode b_V_holds 53 = .ok (.laload, 1) := by decide +kernel
theorem d_V_holds_54 : decode b_V_holds 54 = .ok (.lreturn, 1) := by decide +kernel
theorem d_V_holds_55 : decode b_V_holds 55 = .ok (.aload_n 0, 1) := by decide +kernel
theorem d_V_holds_56 : decode b_V_holds 56 = .ok (.getfield 17, 3) := by decide +kernel
theorem d_V_holds_59 : decode b_V_holds 59 = .ok (.iload_n 1, 1) := by decide +kernel
theorem d_V_holds_60 : decode b_V_holds 60 = .ok (.laload, 1) := by decide +kernel
theorem d_V_holds_61 : decode b_V_holds 61 = .ok (.lreturn, 1) := by decide +kernel
theorem d_V_holds_62 : decode b_V_holds 62 = .ok (.ldc2_w 60, 3) := by decide +kernel
theorem d_V_holds_65 : decode b_V_holds 65 = .ok (.lreturn, 1) := by decide +kernel
theorem d_V_pot_0 : decode b_V_pot 0 = .ok (.aload_n 0, 1) := by decide +kernel
theorem d_V_pot_1 : decode b_V_pot 1 = .ok (.getfield 62, 3) := by decide +kernel
theorem d_V_pot_4 : decode b_V_pot 4 = .ok (.lreturn, 1) := by decide +kernel
theorem d_V_endQuestions_0 : decode b_V_endQuestions 0 = .ok (.iconst 0, 1) := by decide +kernel
theorem d_V_endQuestions_1 : decode b_V_endQuestions 1 = .ok (.istore_n 1, 1) := by decide +kernel
theorem d_V_endQuestions_2 : decode b_V_endQuestions 2 = .ok (.iload_n 1, 1) := by decide +kernel
theorem d_V_endQuestions_3 : decode b_V_endQuestions 3 = .ok (.bipush 6, 2) := by decide +kernel
theorem d_V_endQuestions_5 : decode b_V_endQuestions 5 = .ok (.if_icmp .ge 46, 3) := by decide +kernel
theorem d_V_endQuestions_8 : decode b_V_endQuestions 8 = .ok (.aload_n 0, 1) := by decide +kernel
theorem d_V_endQuestions_9 : decode b_V_endQuestions 9 = .ok (.getfield 25, 3) := by decide +kernel
theorem d_V_endQuestions_12 : decode b_V_endQuestions 12 = .ok (.iload_n 1, 1) := by decide +kernel
theorem d_V_endQuestions_13 : decode b_V_endQuestions 13 = .ok (.aaload, 1) := by decide +kernel
theorem d_V_endQuestions_14 : decode b_V_endQuestions 14 = .ok (.astore_n 2, 1) := by decide +kernel
theorem d_V_endQuestions_15 : decode b_V_endQuestions 15 = .ok (.aload_n 2, 1) := by decide +kernel
theorem d_V_endQuestions_16 : decode b_V_endQuestions 16 = .ok (.ifnull 29, 3) := by decide +kernel
theorem d_V_endQuestions_19 : decode b_V_endQuestions 19 = .ok (.aload_n 2, 1) := by decide +kernel
theorem d_V_endQuestions_20 : decode b_V_endQuestions 20 = .ok (.getfield 105, 3) := by decide +kernel
theorem d_V_endQuestions_23 : decode b_V_endQuestions 23 = .ok (.aload_n 0, 1) := by decide +kernel
theorem d_V_endQuestions_24 : decode b_V_endQuestions 24 = .ok (.getfield 66, 3) := by decide +kernel
theorem d_V_endQuestions_27 : decode b_V_endQuestions 27 = .ok (.if_icmp .ne 18, 3) := by decide +kernel
theorem d_V_endQuestions_30 : decode b_V_endQuestions 30 = .ok (.aload_n 0, 1) := by decide +kernel
theorem d_V_endQuestions_31 : decode b_V_endQuestions 31 = .ok (.getfield 20, 3) := by decide +kernel
theorem d_V_endQuestions_34 : decode b_V_endQuestions 34 = .ok (.iconst 0, 1) := by decide +kernel
theorem d_V_endQuestions_35 : decode b_V_endQuestions 35 = .ok (.aload_n 2, 1) := by decide +kernel
theorem d_V_endQuestions_36 : decode b_V_endQuestions 36 = .ok (.getfield 260, 3) := by decide +kernel
theorem d_V_endQuestions_39 : decode b_V_endQuestions 39 = .ok (.iconst 0, 1) := by decide +kernel
theorem d_V_endQuestions_40 : decode b_V_endQuestions 40 = .ok (.bipush 8, 2) := by decide +kernel
theorem d_V_endQuestions_42 : decode b_V_endQuestions 42 = .ok (.invokestatic 86, 3) := by decide +kernel
theorem d_V_endQuestions_45 : decode b_V_endQuestions 45 = .ok (.iinc 1 1, 3) := by decide +kernel
theorem d_V_endQuestions_48 : decode b_V_endQuestions 48 = .ok (.goto (-46), 3) := by decide +kernel
theorem d_V_endQuestions_51 : decode b_V_endQuestions 51 = .ok (.return_, 1) := by decide +kernel
theorem d_A_isSealed_0 : decode b_A_isSealed 0 = .ok (.aload_n 0, 1) := by decide +kernel
theorem d_A_isSealed_1 : decode b_A_isSealed 1 = .ok (.getfield 27, 3) := by decide +kernel
theorem d_A_isSealed_4 : decode b_A_isSealed 4 = .ok (.aload_n 0, 1) := by decide +kernel
theorem d_A_isSealed_5 : decode b_A_isSealed 5 = .ok (.getfield 24, 3) := by decide +kernel
theorem d_A_isSealed_8 : decode b_A_isSealed 8 = .ok (.if_icmp .le 7, 3) := by decide +kernel
theorem d_A_isSealed_11 : decode b_A_isSealed 11 = .ok (.iconst 1, 1) := by decide +kernel
theorem d_A_isSealed_12 : decode b_A_isSealed 12 = .ok (.goto 4, 3) := by decide +kernel
theorem d_A_isSealed_15 : decode b_A_isSealed 15 = .ok (.iconst 0, 1) := by decide +kernel
theorem d_A_isSealed_16 : decode b_A_isSealed 16 = .ok (.ireturn, 1) := by decide +kernel
theorem d_V_payAside_0 : decode b_V_payAside 0 = .ok (.aload_n 0, 1) := by decide +kernel
theorem d_V_payAside_1 : decode b_V_payAside 1 = .ok (.getfield 17, 3) := by decide +kernel
theorem d_V_payAside_4 : decode b_V_payAside 4 = .ok (.iload_n 1, 1) := by decide +kernel
theorem d_V_payAside_5 : decode b_V_payAside 5 = .ok (.dup2, 1) := by decide +kernel
theorem d_V_payAside_6 : decode b_V_payAside 6 = .ok (.laload, 1) := by decide +kernel
theorem d_V_payAside_7 : decode b_V_payAside 7 = .ok (.lload_n 2, 1) := by decide +kernel
theorem d_V_payAside_8 : decode b_V_payAside 8 = .ok (.lsub, 1) := by decide +kernel
theorem d_V_payAside_9 : decode b_V_payAside 9 = .ok (.lastore, 1) := by decide +kernel
theorem d_V_payAside_10 : decode b_V_payAside 10 = .ok (.aload_n 0, 1) := by decide +kernel
theorem d_V_payAside_11 : decode b_V_payAside 11 = .ok (.dup, 1) := by decide +kernel
theorem d_V_payAside_12 : decode b_V_payAside 12 = .ok (.getfield 62, 3) := by decide +kernel
theorem d_V_payAside_15 : decode b_V_payAside 15 = .ok (.lload_n 2, 1) := by decide +kernel
theorem d_V_payAside_16 : decode b_V_payAside 16 = .ok (.ladd, 1) := by decide +kernel
theorem d_V_payAside_17 : decode b_V_payAside 17 = .ok (.putfield 62, 3) := by decide +kernel
theorem d_V_payAside_20 : decode b_V_payAside 20 = .ok (.return_, 1) := by decide +kernel
theorem d_V_payUnopened_0 : decode b_V_payUnopened 0 = .ok (.iconst 0, 1) := by decide +kernel
theorem d_V_payUnopened_1 : decode b_V_payUnopened 1 = .ok (.istore_n 2, 1) := by decide +kernel
theorem d_V_payUnopened_2 : decode b_V_payUnopened 2 = .ok (.iload_n 2, 1) := by decide +kernel
theorem d_V_payUnopened_3 : decode b_V_payUnopened 3 = .ok (.bipush 8, 2) := by decide +kernel
theorem d_V_payUnopened_5 : decode b_V_payUnopened 5 = .ok (.if_icmp .ge 37, 3) := by decide +kernel
theorem d_V_payUnopened_8 : decode b_V_payUnopened 8 = .ok (.aload_n 1, 1) := by decide +kernel
theorem d_V_payUnopened_9 : decode b_V_payUnopened 9 = .ok (.getfield 208, 3) := by decide +kernel
theorem d_V_payUnopened_12 : decode b_V_payUnopened 12 = .ok (.iload_n 2, 1) := by decide +kernel
theorem d_V_payUnopened_13 : decode b_V_payUnopened 13 = .ok (.iaload, 1) := by decide +kernel
theorem d_V_payUnopened_14 : decode b_V_payUnopened 14 = .ok (.ifCond .eq 22, 3) := by decide +kernel
theorem d_V_payUnopened_17 : decode b_V_payUnopened 17 = .ok (.aload_n 1, 1) := by decide +kernel
theorem d_V_payUnopened_18 : decode b_V_payUnopened 18 = .ok (.getfield 201, 3) := by decide +kernel
theorem d_V_payUnopened_21 : decode b_V_payUnopened 21 = .ok (.iload_n 2, 1) := by decide +kernel
theorem d_V_payUnopened_22 : decode b_V_payUnopened 22 = .ok (.iaload, 1) := by decide +kernel
theorem d_V_payUnopened_23 : decode b_V_payUnopened 23 = .ok (.ifCond .ne 13, 3) := by decide +kernel
theorem d_V_payUnopened_26 : decode b_V_payUnopened 26 = .ok (.aload_n 0, 1) := by decide +kernel
theorem d_V_payUnopened_27 : decode b_V_payUnopened 27 = .ok (.iload_n 2, 1) := by decide +kernel
theorem d_V_payUnopened_28 : decode b_V_payUnopened 28 = .ok (.aload_n 1, 1) := by decide +kernel
theorem d_V_payUnopened_29 : decode b_V_payUnopened 29 = .ok (.getfield 171, 3) := by decide +kernel
theorem d_V_payUnopened_32 : decode b_V_payUnopened 32 = .ok (.i2l, 1) := by decide +kernel
theorem d_V_payUnopened_33 : decode b_V_payUnopened 33 = .ok (.invokevirtual 223, 3) := by decide +kernel
theorem d_V_payUnopened_36 : decode b_V_payUnopened 36 = .ok (.iinc 2 1, 3) := by decide +kernel
theorem d_V_payUnopened_39 : decode b_V_payUnopened 39 = .ok (.goto (-37), 3) := by decide +kernel
theorem d_V_payUnopened_42 : decode b_V_payUnopened 42 = .ok (.return_, 1) := by decide +kernel
theorem d_A_isAhead_0 : decode b_A_isAhead 0 = .ok (.aload_n 0, 1) := by decide +kernel
theorem d_A_isAhead_1 : decode b_A_isAhead 1 = .ok (.getfield 41, 3) := by decide +kernel
theorem d_A_isAhead_4 : decode b_A_isAhead 4 = .ok (.iload_n 1, 1) := by decide +kernel
theorem d_A_isAhead_5 : decode b_A_isAhead 5 = .ok (.iaload, 1) := by decide +kernel
theorem d_A_isAhead_6 : decode b_A_isAhead 6 = .ok (.aload_n 0, 1) := by decide +kernel
theorem d_A_isAhead_7 : decode b_A_isAhead 7 = .ok (.getfield 41, 3) := by decide +kernel
theorem d_A_isAhead_10 : decode b_A_isAhead 10 = .ok (.iload_n 2, 1) := by decide +kernel
theorem d_A_isAhead_11 : decode b_A_isAhead 11 = .ok (.iaload, 1) := by decide +kernel
theorem d_A_isAhead_12 : decode b_A_isAhead 12 = .ok (.if_icmp .gt 33, 3) := by decide +kernel
theorem d_A_isAhead_15 : decode b_A_isAhead 15 = .ok (.aload_n 0, 1) := by decide +kernel
theorem d_A_isAhead_16 : decode b_A_isAhead 16 = .ok (.getfield 41, 3) := by decide +kernel
theorem d_A_isAhead_19 : decode b_A_isAhead 19 = .ok (.iload_n 1, 1) := by decide +kernel
theorem d_A_isAhead_20 : decode b_A_isAhead 20 = .ok (.iaload, 1) := by decide +kernel
theorem d_A_isAhead_21 : decode b_A_isAhead 21 = .ok (.aload_n 0, 1) := by decide +kernel
theorem d_A_isAhead_22 : decode b_A_isAhead 22 = .ok (.getfield 41, 3) := by decide +kernel
theorem d_A_isAhead_25 : decode b_A_isAhead 25 = .ok (.iload_n 2, 1) := by decide +kernel
theorem d_A_isAhead_26 : decode b_A_isAhead 26 = .ok (.iaload, 1) := by decide +kernel
theorem d_A_isAhead_27 : decode b_A_isAhead 27 = .ok (.if_icmp .ne 22, 3) := by decide +kernel
theorem d_A_isAhead_30 : decode b_A_isAhead 30 = .ok (.aload_n 0, 1) := by decide +kernel
theorem d_A_isAhead_31 : decode b_A_isAhead 31 = .ok (.getfield 30, 3) := by decide +kernel
theorem d_A_isAhead_34 : decode b_A_isAhead 34 = .ok (.iload_n 1, 1) := by decide +kernel
theorem d_A_isAhead_35 : decode b_A_isAhead 35 = .ok (.iaload, 1) := by decide +kernel
theorem d_A_isAhead_36 : decode b_A_isAhead 36 = .ok (.aload_n 0, 1) := by decide +kernel
theorem d_A_isAhead_37 : decode b_A_isAhead 37 = .ok (.getfield 30, 3) := by decide +kernel
theorem d_A_isAhead_40 : decode b_A_isAhead 40 = .ok (.iload_n 2, 1) := by decide +kernel
theorem d_A_isAhead_41 : decode b_A_isAhead 41 = .ok (.iaload, 1) := by decide +kernel
theorem d_A_isAhead_42 : decode b_A_isAhead 42 = .ok (.if_icmp .ge 7, 3) := by decide +kernel
theorem d_A_isAhead_45 : decode b_A_isAhead 45 = .ok (.iconst 1, 1) := by decide +kernel
theorem d_A_isAhead_46 : decode b_A_isAhead 46 = .ok (.goto 4, 3) := by decide +kernel
theorem d_A_isAhead_49 : decode b_A_isAhead 49 = .ok (.iconst 0, 1) := by decide +kernel
theorem d_A_isAhead_50 : decode b_A_isAhead 50 = .ok (.ireturn, 1) := by decide +kernel
theorem d_A_bestWithout_0 : decode b_A_bestWithout 0 = .ok (.iconst (-1), 1) := by decide +kernel
theorem d_A_bestWithout_1 : decode b_A_bestWithout 1 = .ok (.istore_n 1, 1) := by decide +kernel
theorem d_A_bestWithout_2 : decode b_A_bestWithout 2 = .ok (.iconst 0, 1) := by decide +kernel
theorem d_A_bestWithout_3 : decode b_A_bestWithout 3 = .ok (.istore_n 2, 1) := by decide +kernel
theorem d_A_bestWithout_4 : decode b_A_bestWithout 4 = .ok (.iload_n 2, 1) := by decide +kernel
theorem d_A_bestWithout_5 : decode b_A_bestWithout 5 = .ok (.bipush 8, 2) := by decide +kernel
theorem d_A_bestWithout_7 : decode b_A_bestWithout 7 = .ok (.if_icmp .ge 43, 3) := by decide +kernel
theorem d_A_bestWithout_10 : decode b_A_bestWithout 10 = .ok (.aload_n 0, 1) := by decide +kernel
theorem d_A_bestWithout_11 : decode b_A_bestWithout 11 = .ok (.getfield 38, 3) := by decide +kernel
theorem d_A_bestWithout_14 : decode b_A_bestWithout 14 = .ok (.iload_n 2, 1) := by decide +kernel
theorem d_A_bestWithout_15 : decode b_A_bestWithout 15 = .ok (.iaload, 1) := by decide +kernel
theorem d_A_bestWithout_16 : decode b_A_bestWithout 16 = .ok (.ifCond .le 28, 3) := by decide +kernel
theorem d_A_bestWithout_19 : decode b_A_bestWithout 19 = .ok (.aload_n 0, 1) := by decide +kernel
theorem d_A_bestWithout_20 : decode b_A_bestWithout 20 = .ok (.getfield 44, 3) := by decide +kernel
theorem d_A_bestWithout_23 : decode b_A_bestWithout 23 = .ok (.iload_n 2, 1) := by decide +kernel
theorem d_A_bestWithout_24 : decode b_A_bestWithout 24 = .ok (.iaload, 1) := by decide +kernel
theorem d_A_bestWithout_25 : decode b_A_bestWithout 25 = .ok (.ifCond .ne 19, 3) := by decide +kernel
theorem d_A_bestWithout_28 : decode b_A_bestWithout 28 = .ok (.iload_n 1, 1) := by decide +kernel
theorem d_A_bestWithout_29 : decode b_A_bestWithout 29 = .ok (.iconst (-1), 1) := by decide +kernel
theorem d_A_bestWithout_30 : decode b_A_bestWithout 30 = .ok (.if_icmp .eq 12, 3) := by decide +kernel
theorem d_A_bestWithout_33 : decode b_A_bestWithout 33 = .ok (.aload_n 0, 1) := by decide +kernel
theorem d_A_bestWithout_34 : decode b_A_bestWithout 34 = .ok (.iload_n 2, 1) := by decide +kernel
theorem d_A_bestWithout_35 : decode b_A_bestWithout 35 = .ok (.iload_n 1, 1) := by decide +kernel
theorem d_A_bestWithout_36 : decode b_A_bestWithout 36 = .ok (.invokevirtual 53, 3) := by decide +kernel
theorem d_A_bestWithout_39 : decode b_A_bestWithout 39 = .ok (.ifCond .eq 5, 3) := by decide +kernel
theorem d_A_bestWithout_42 : decode b_A_bestWithout 42 = .ok (.iload_n 2, 1) := by decide +kernel
theorem d_A_bestWithout_43 : decode b_A_bestWithout 43 = .ok (.istore_n 1, 1) := by decide +kernel
theorem d_A_bestWithout_44 : decode b_A_bestWithout 44 = .ok (.iinc 2 1, 3) := by decide +kernel
theorem d_A_bestWithout_47 : decode b_A_bestWithout 47 = .ok (.goto (-43), 3) := by decide +kernel
theorem d_A_bestWithout_50 : decode b_A_bestWithout 50 = .ok (.iload_n 1, 1) := by decide +kernel
theorem d_A_bestWithout_51 : decode b_A_bestWithout 51 = .ok (.ireturn, 1) := by decide +kernel
theorem d_V_shareUnits_0 : decode b_V_shareUnits 0 = .ok (.aload_n 0, 1) := by decide +kernel
theorem d_V_shareUnits_1 : decode b_V_shareUnits 1 = .ok (.getfield 168, 3) := by decide +kernel
theorem d_V_shareUnits_4 : decode b_V_shareUnits 4 = .ok (.istore_n 1, 1) := by decide +kernel
theorem d_V_shareUnits_5 : decode b_V_shareUnits 5 = .ok (.iconst 0, 1) := by decide +kernel
theorem d_V_shareUnits_6 : decode b_V_shareUnits 6 = .ok (.istore_n 2, 1) := by decide +kernel
theorem d_V_shareUnits_7 : decode b_V_shareUnits 7 = .ok (.iload_n 2, 1) := by decide +kernel
theorem d_V_shareUnits_8 : decode b_V_shareUnits 8 = .ok (.bipush 8, 2) := by decide +kernel
theorem d_V_shareUnits_10 : decode b_V_shareUnits 10 = .ok (.if_icmp .ge 59, 3) := by decide +kernel
theorem d_V_shareUnits_13 : decode b_V_shareUnits 13 = .ok (.iload_n 1, 1) := by decide +kernel
theorem d_V_shareUnits_14 : decode b_V_shareUnits 14 = .ok (.ifCond .le 55, 3) := by decide +kernel
theorem d_V_shareUnits_17 : decode b_V_shareUnits 17 = .ok (.aload_n 0, 1) := by decide +kernel
theorem d_V_shareUnits_18 : decode b_V_shareUnits 18 = .ok (.invokevirtual 295, 3) := by decide +kernel
theorem d_V_shareUnits_21 : decode b_V_shareUnits 21 = .ok (.istore_n 3, 1) := by decide +kernel
theorem d_V_shareUnits_22 : decode b_V_shareUnits 22 = .ok (.iload_n 3, 1) := by decide +kernel
theorem d_V_shareUnits_23 : decode b_V_shareUnits 23 = .ok (.iconst (-1), 1) := by decide +kernel
theorem d_V_shareUnits_24 : decode b_V_shareUnits 24 = .ok (.if_icmp .ne 4, 3) := by decide +kernel
theorem d_V_shareUnits_27 : decode b_V_shareUnits 27 = .ok (.return_, 1) := by decide +kernel
theorem d_V_shareUnits_28 : decode b_V_shareUnits 28 = .ok (.iload_n 1, 1) := by decide +kernel
theorem d_V_shareUnits_29 : decode b_V_shareUnits 29 = .ok (.aload_n 0, 1) := by decide +kernel
theorem d_V_shareUnits_30 : decode b_V_shareUnits 30 = .ok (.getfield 198, 3) := by decide +kernel
theorem d_V_shareUnits_33 : decode b_V_shareUnits 33 = .ok (.iload_n 3, 1) := by decide +kernel
theorem d_V_shareUnits_34 : decode b_V_shareUnits 34 = .ok (.iaload, 1) := by decide +kernel
theorem d_V_shareUnits_35 : decode b_V_shareUnits 35 = .ok (.invokestatic 302, 3) := by decide +kernel
theorem d_V_shareUnits_38 : decode b_V_shareUnits 38 = .ok (.istore 4, 2) := by decide +kernel
theorem d_V_shareUnits_40 : decode b_V_shareUnits 40 = .ok (.aload_n 0, 1) := by decide +kernel
theorem d_V_shareUnits_41 : decode b_V_shareUnits 41 = .ok (.getfield 226, 3) := by decide +kernel
theorem d_V_shareUnits_44 : decode b_V_shareUnits 44 = .ok (.iload_n 3, 1) := by decide +kernel
theorem d_V_shareUnits_45 : decode b_V_shareUnits 45 = .ok (.iload 4, 2) := by decide +kernel
theorem d_V_shareUnits_47 : decode b_V_shareUnits 47 = .ok (.iastore, 1) := by decide +kernel
theorem d_V_shareUnits_48 : decode b_V_shareUnits 48 = .ok (.aload_n 0, 1) := by decide +kernel
theorem d_V_shareUnits_49 : decode b_V_shareUnits 49 = .ok (.aload_n 0, 1) := by decide +kernel
theorem d_V_shareUnits_50 : decode b_V_shareUnits 50 = .ok (.getfield 201, 3) := by decide +kernel
theorem d_V_shareUnits_53 : decode b_V_shareUnits 53 = .ok (.iload_n 3, 1) := by decide +kernel
theorem d_V_shareUnits_54 : decode b_V_shareUnits 54 = .ok (.iaload, 1) := by decide +kernel
theorem d_V_shareUnits_55 : decode b_V_shareUnits 55 = .ok (.putfield 191, 3) := by decide +kernel
theorem d_V_shareUnits_58 : decode b_V_shareUnits 58 = .ok (.iload_n 1, 1) := by decide +kernel
theorem d_V_shareUnits_59 : decode b_V_shareUnits 59 = .ok (.iload 4, 2) := by decide +kernel
theorem d_V_shareUnits_61 : decode b_V_shareUnits 61 = .ok (.isub, 1) := by decide +kernel
theorem d_V_shareUnits_62 : decode b_V_shareUnits 62 = .ok (.istore_n 1, 1) := by decide +kernel
theorem d_V_shareUnits_63 : decode b_V_shareUnits 63 = .ok (.iinc 2 1, 3) := by decide +kernel
theorem d_V_shareUnits_66 : decode b_V_shareUnits 66 = .ok (.goto (-59), 3) := by decide +kernel
theorem d_V_shareUnits_69 : decode b_V_shareUnits 69 = .ok (.return_, 1) := by decide +kernel
theorem d_A_costOf_0 : decode b_A_costOf 0 = .ok (.aload_n 0, 1) := by decide +kernel
theorem d_A_costOf_1 : decode b_A_costOf 1 = .ok (.getfield 38, 3) := by decide +kernel
theorem d_A_costOf_4 : decode b_A_costOf 4 = .ok (.iload_n 1, 1) := by decide +kernel
theorem d_A_costOf_5 : decode b_A_costOf 5 = .ok (.iaload, 1) := by decide +kernel
theorem d_A_costOf_6 : decode b_A_costOf 6 = .ok (.i2l, 1) := by decide +kernel
theorem d_A_costOf_7 : decode b_A_costOf 7 = .ok (.aload_n 0, 1) := by decide +kernel
theorem d_A_costOf_8 : decode b_A_costOf 8 = .ok (.getfield 41, 3) := by decide +kernel
theorem d_A_costOf_11 : decode b_A_costOf 11 = .ok (.iload_n 1, 1) := by decide +kernel
theorem d_A_costOf_12 : decode b_A_costOf 12 = .ok (.iaload, 1) := by decide +kernel
theorem d_A_costOf_13 : decode b_A_costOf 13 = .ok (.i2l, 1) := by decide +kernel
theorem d_A_costOf_14 : decode b_A_costOf 14 = .ok (.lmul, 1) := by decide +kernel
theorem d_A_costOf_15 : decode b_A_costOf 15 = .ok (.lreturn, 1) := by decide +kernel
theorem d_V_giveBack_0 : decode b_V_giveBack 0 = .ok (.aload_n 0, 1) := by decide +kernel
theorem d_V_giveBack_1 : decode b_V_giveBack 1 = .ok (.getfield 17, 3) := by decide +kernel
theorem d_V_giveBack_4 : decode b_V_giveBack 4 = .ok (.iload_n 1, 1) := by decide +kernel
theorem d_V_giveBack_5 : decode b_V_giveBack 5 = .ok (.dup2, 1) := by decide +kernel
theorem d_V_giveBack_6 : decode b_V_giveBack 6 = .ok (.laload, 1) := by decide +kernel
theorem d_V_giveBack_7 : decode b_V_giveBack 7 = .ok (.lload_n 2, 1) := by decide +kernel
theorem d_V_giveBack_8 : decode b_V_giveBack 8 = .ok (.lsub, 1) := by decide +kernel
theorem d_V_giveBack_9 : decode b_V_giveBack 9 = .ok (.lastore, 1) := by decide +kernel
theorem d_V_giveBack_10 : decode b_V_giveBack 10 = .ok (.aload_n 0, 1) := by decide +kernel
theorem d_V_giveBack_11 : decode b_V_giveBack 11 = .ok (.getfield 13, 3) := by decide +kernel
theorem d_V_giveBack_14 : decode b_V_giveBack 14 = .ok (.iload_n 1, 1) := by decide +kernel
theorem d_V_giveBack_15 : decode b_V_giveBack 15 = .ok (.dup2, 1) := by decide +kernel
theorem d_V_giveBack_16 : decode b_V_giveBack 16 = .ok (.laload, 1) := by decide +kernel
theorem d_V_giveBack_17 : decode b_V_giveBack 17 = .ok (.lload_n 2, 1) := by decide +kernel
theorem d_V_giveBack_18 : decode b_V_giveBack 18 = .ok (.ladd, 1) := by decide +kernel
theorem d_V_giveBack_19 : decode b_V_giveBack 19 = .ok (.lastore, 1) := by decide +kernel
theorem d_V_giveBack_20 : decode b_V_giveBack 20 = .ok (.return_, 1) := by decide +kernel
theorem d_V_settleBids_0 : decode b_V_settleBids 0 = .ok (.iconst 0, 1) := by decide +kernel
theorem d_V_settleBids_1 : decode b_V_settleBids 1 = .ok (.istore_n 2, 1) := by decide +kernel
theorem d_V_settleBids_2 : decode b_V_settleBids 2 = .ok (.iload_n 2, 1) := by decide +kernel
theorem d_V_settleBids_3 : decode b_V_settleBids 3 = .ok (.bipush 8, 2) := by decide +kernel
theorem d_V_settleBids_5 : decode b_V_settleBids 5 = .ok (.if_icmp .ge 46, 3) := by decide +kernel
theorem d_V_settleBids_8 : decode b_V_settleBids 8 = .ok (.aload_n 1, 1) := by decide +kernel
theorem d_V_settleBids_9 : decode b_V_settleBids 9 = .ok (.iload_n 2, 1) := by decide +kernel
theorem d_V_settleBids_10 : decode b_V_settleBids 10 = .ok (.invokevirtual 180, 3) := by decide +kernel
theorem d_V_settleBids_13 : decode b_V_settleBids 13 = .ok (.lstore_n 3, 1) := by decide +kernel
theorem d_V_settleBids_14 : decode b_V_settleBids 14 = .ok (.aload_n 1, 1) := by decide +kernel
theorem d_V_settleBids_15 : decode b_V_settleBids 15 = .ok (.getfield 226, 3) := by decide +kernel
theorem d_V_settleBids_18 : decode b_V_settleBids 18 = .ok (.iload_n 2, 1) := by decide +kernel
theorem d_V_settleBids_19 : decode b_V_settleBids 19 = .ok (.iaload, 1) := by decide +kernel
theorem d_V_settleBids_20 : decode b_V_settleBids 20 = .ok (.i2l, 1) := by decide +kernel
theorem d_V_settleBids_21 : decode b_V_settleBids 21 = .ok (.aload_n 1, 1) := by decide +kernel
theorem d_V_settleBids_22 : decode b_V_settleBids 22 = .ok (.getfield 191, 3) := by decide +kernel
theorem d_V_settleBids_25 : decode b_V_settleBids 25 = .ok (.i2l, 1) := by decide +kernel
theorem d_V_settleBids_26 : decode b_V_settleBids 26 = .ok (.lmul, 1) := by decide +kernel
theorem d_V_settleBids_27 : decode b_V_settleBids 27 = .ok (.lstore 5, 2) := by decide +kernel
theorem d_V_settleBids_29 : decode b_V_settleBids 29 = .ok (.aload_n 0, 1) := by decide +kernel
theorem d_V_settleBids_30 : decode b_V_settleBids 30 = .ok (.iload_n 2, 1) := by decide +kernel
theorem d_V_settleBids_31 : decode b_V_settleBids 31 = .ok (.lload 5, 2) := by decide +kernel
theorem d_V_settleBids_33 : decode b_V_settleBids 33 = .ok (.invokevirtual 223, 3) := by decide +kernel
theorem d_V_settleBids_36 : decode b_V_settleBids 36 = .ok (.aload_n 0, 1) := by decide +kernel
theorem d_V_settleBids_37 : decode b_V_settleBids 37 = .ok (.iload_n 2, 1) := by decide +kernel
theorem d_V_settleBids_38 : decode b_V_settleBids 38 = .ok (.lload_n 3, 1) := by decide +kernel
theorem d_V_settleBids_39 : decode b_V_settleBids 39 = .ok (.lload 5, 2) := by decide +kernel
theorem d_V_settleBids_41 : decode b_V_settleBids 41 = .ok (.lsub, 1) := by decide +kernel
theorem d_V_settleBids_42 : decode b_V_settleBids 42 = .ok (.invokevirtual 216, 3) := by decide +kernel
theorem d_V_settleBids_45 : decode b_V_settleBids 45 = .ok (.iinc 2 1, 3) := by decide +kernel
theorem d_V_settleBids_48 : decode b_V_settleBids 48 = .ok (.goto (-46), 3) := by decide +kernel
theorem d_V_settleBids_51 : decode b_V_settleBids 51 = .ok (.return_, 1) := by decide +kernel
end
section
def G_V_init_38 (g : Nat) (rec38 : ax_M → Option Nat → Int32 → Option (ax_M)) (M : ax_M) (v0 : Option Nat) (v1 : Int32) : Option (ax_M) := if 8 ≤ v1 then (ax_nw M (g + 5) (.inr (3, 6)) [v0]).bind (fun M1 => (ax_pr M1 0 8 v0 (some (g + 5))).bind (fun M3 => (ax_nw M3 (g + 6) (.inr (4, 6)) [v0]).bind (fun M4 => (ax_pr M4 0 10 v0 (some (g + 6))).bind (fun M6 => (ax_nw M6 (g + 7) (.inr (0, 8)) [v0]).bind (fun M7 => (ax_pr M7 0 11 v0 (some (g + 7))).bind (fun M9 => (ax_nw M9 (g + 8) (.inr (0, 4)) [v0]).bind (fun M10 => (ax_pr M10 0 12 v0 (some (g + 8))).bind (fun M12 => (ax_nw M12 (g + 9) (.inr (0, 4)) [v0]).bind (fun M13 => (ax_pr M13 0 13 v0 (some (g + 9))).bind (fun M15 => some M15)))))))))) else (ax_gr M 0 6 v0).bind (fun x16 => (ax_ti M 0 x16 v1 (-1)).bind (fun M17 => (some (v1 + 1)).bind (fun y18 => rec38 M17 v0 y18)))
set_option maxRecDepth 100000 in
set_option maxHeartbeats 4000000 in
theorem K_V_init_38 {Z : ax_Z} {ad0 ad : Nat → Nat} {g : Nat} {q : ax_M} (B : ax_B Z "VoteAuctions" b_V_init none) (hn : Z.2.2.2.2.2.2.2.2.2.2.2.1 = 2) (hR : ax_R Z 1 9 60) (hE : ax_E Z ad0 [g + 1, g + 2, g + 3, g + 4, g + 5, g + 6, g + 7, g + 8, g + 9] 9 60 none q) (hin : Z.2.2.2.2.2.2.2.2.1.name = "<init>") (hag : ∀ a, a ∉ ([g + 1, g + 2, g + 3, g + 4, g + 5, g + 6, g + 7, g + 8, g + 9] : List Nat) → ad a = ad0 a) {rec38 : ax_M → Option Nat → Int32 → Option (ax_M)} (hr38 : ∀ (M : ax_M) (v0 : Option Nat) (v1 : Int32), rec38 M v0 v1 = some q → ax_W Z ad 4 32 38 [(0, ax_O v0), (1, ax_I v1)] [] M) : ∀ (M : ax_M) (v0 : Option Nat) (v1 : Int32), G_V_init_38 g rec38 M v0 v1 = some q → ax_W Z ad 4 32 38 [(0, ax_O v0), (1, ax_I v1)] [] M := by
  intro M v0 v1 hf
  unfold G_V_init_38 at hf
  refine ax_iload_n B d_V_init_38 rfl (j := 1) rfl ?_
  refine ax_bipush B (v := 8) (by decide) d_V_init_39 ?_
  refine ax_icmp_ge B (tgt := 57) d_V_init_41 (by decide) hf (fun hf => ?_) (fun hf => ?_)
  · refine ax_aload_n B d_V_init_57 rfl (j := 0) rfl ?_
    refine ax_bipush B (v := 6) (by decide) d_V_init_58 ?_
    refine ax_anewarray B hR (t := 3) (N := 6) d_V_init_60 j_V_23 (by decide) rfl (by decide) (by decide) (by decide) (by decide) (ax_cvr (by simp) (ax_cvi ax_cv0)) (ax_cvr (by simp) ax_cv0) (by decide) (by decide) hf (fun M1 ad2 hag2 hf => ?_)
    replace hag := ax_ag (gs := [g + 1, g + 2, g + 3, g + 4, g + 5, g + 6, g + 7, g + 8, g + 9]) hag2 (by simp) hag
    refine ax_putFR B d_V_init_63 kf_V_25 hin rfl hf (fun M3 hf => ?_)
    refine ax_aload_n B d_V_init_66 rfl (j := 0) rfl ?_
    refine ax_bipush B (v := 6) (by decide) d_V_init_67 ?_
    refine ax_anewarray B hR (t := 4) (N := 6) d_V_init_69 j_V_29 (by decide) rfl (by decide) (by decide) (by decide) (by decide) (ax_cvr (by simp) (ax_cvi ax_cv0)) (ax_cvr (by simp) ax_cv0) (by decide) (by decide) hf (fun M4 ad5 hag2 hf => ?_)
    replace hag := ax_ag (gs := [g + 1, g + 2, g + 3, g + 4, g + 5, g + 6, g + 7, g + 8, g + 9]) hag2 (by simp) hag
    refine ax_putFR B d_V_init_72 kf_V_31 hin rfl hf (fun M6 hf => ?_)
    refine ax_aload_n B d_V_init_75 rfl (j := 0) rfl ?_
    refine ax_bipush B (v := 8) (by decide) d_V_init_76 ?_
    refine ax_newarray B hR (t := 0) (N := 8) d_V_init_78 rfl (by decide) (by decide) (by decide) (by decide) (ax_cvr (by simp) (ax_cvi ax_cv0)) (ax_cvr (by simp) ax_cv0) (by decide) (by decide) hf (fun M7 ad8 hag2 hf => ?_)
    replace hag := ax_ag (gs := [g + 1, g + 2, g + 3, g + 4, g + 5, g + 6, g + 7, g + 8, g + 9]) hag2 (by simp) hag
    refine ax_putFR B d_V_init_80 kf_V_35 hin rfl hf (fun M9 hf => ?_)
    refine ax_aload_n B d_V_init_83 rfl (j := 0) rfl ?_
    refine ax_iconst B (v := 4) (by decide) d_V_init_84 ?_
    refine ax_newarray B hR (t := 0) (N := 4) d_V_init_85 rfl (by decide) (by decide) (by decide) (by decide) (ax_cvr (by simp) (ax_cvi ax_cv0)) (ax_cvr (by simp) ax_cv0) (by decide) (by decide) hf (fun M10 ad11 hag2 hf => ?_)
    replace hag := ax_ag (gs := [g + 1, g + 2, g + 3, g + 4, g + 5, g + 6, g + 7, g + 8, g + 9]) hag2 (by simp) hag
    refine ax_putFR B d_V_init_87 kf_V_38 hin rfl hf (fun M12 hf => ?_)
    refine ax_aload_n B d_V_init_90 rfl (j := 0) rfl ?_
    refine ax_iconst B (v := 4) (by decide) d_V_init_91 ?_
    refine ax_newarray B hR (t := 0) (N := 4) d_V_init_92 rfl (by decide) (by decide) (by decide) (by decide) (ax_cvr (by simp) (ax_cvi ax_cv0)) (ax_cvr (by simp) ax_cv0) (by decide) (by decide) hf (fun M13 ad14 hag2 hf => ?_)
    replace hag := ax_ag (gs := [g + 1, g + 2, g + 3, g + 4, g + 5, g + 6, g + 7, g + 8, g + 9]) hag2 (by simp) hag
    refine ax_putFR B d_V_init_94 kf_V_41 hin rfl hf (fun M15 hf => ?_)
    exact ax_vreturn B hE d_V_init_97 hf hag (by decide) (by decide)
  · refine ax_aload_n B d_V_init_44 rfl (j := 0) rfl ?_
    refine ax_getR B d_V_init_45 k_V_20 rfl hf (fun x16 hf => ?_)
    refine ax_iload_n B d_V_init_48 rfl (j := 1) rfl ?_
    refine ax_iconst B (v := (-1)) (by decide) d_V_init_49 ?_
    refine ax_iast B d_V_init_50 (t := 0) (by decide) rfl hf (fun M17 hf => ?_)
    refine ax_iincN B (j := 1) (lv' := fun y => [(1, ax_I y), (0, ax_O v0)]) d_V_init_51 rfl hf rfl (by rw [hn]; decide) (fun _ => rfl) (fun y18 hf => ?_)
    refine ax_goto B (tgt := 38) d_V_init_54 (by decide) ?_
    refine ax_sub [1, 0] rfl ?_
    exact hr38 M17 v0 y18 hf
def F_V_init_38 (g : Nat)  : Nat → ax_M → Option Nat → Int32 → Option (ax_M)
  | 0 => fun _ _ _ => none
  | n + 1 => G_V_init_38 g (F_V_init_38 g  n)
set_option maxRecDepth 100000 in
set_option maxHeartbeats 4000000 in
theorem L_V_init_38 {Z : ax_Z} {ad0 ad : Nat → Nat} {g : Nat} {q : ax_M} (B : ax_B Z "VoteAuctions" b_V_init none) (hn : Z.2.2.2.2.2.2.2.2.2.2.2.1 = 2) (hR : ax_R Z 1 9 60) (hE : ax_E Z ad0 [g + 1, g + 2, g + 3, g + 4, g + 5, g + 6, g + 7, g + 8, g + 9] 9 60 none q) (hin : Z.2.2.2.2.2.2.2.2.1.name = "<init>") (hag : ∀ a, a ∉ ([g + 1, g + 2, g + 3, g + 4, g + 5, g + 6, g + 7, g + 8, g + 9] : List Nat) → ad a = ad0 a)   : ∀ (n : Nat) (M : ax_M) (v0 : Option Nat) (v1 : Int32), F_V_init_38 g  n M v0 v1 = some q → ax_W Z ad 4 32 38 [(0, ax_O v0), (1, ax_I v1)] [] M := by
  intro n
  induction n with
  | zero => intro M v0 v1 hf; cases hf
  | succ n ih => exact K_V_init_38 B hn hR hE hin hag ih
def f_V_init (g : Nat) (M : ax_M) (o : Nat) : Option (ax_M) := (ax_nw M (g + 1) (.inr (0, 8)) [(some o)]).bind (fun M1 => (ax_pr M1 0 3 (some o) (some (g + 1))).bind (fun M3 => (ax_nw M3 (g + 2) (.inr (1, 8)) [(some o)]).bind (fun M4 => (ax_pr M4 0 4 (some o) (some (g + 2))).bind (fun M6 => (ax_nw M6 (g + 3) (.inr (1, 8)) [(some o)]).bind (fun M7 => (ax_pr M7 0 5 (some o) (some (g + 3))).bind (fun M9 => (ax_nw M9 (g + 4) (.inr (0, 8)) [(some o)]).bind (fun M10 => (ax_pr M10 0 6 (some o) (some (g + 4))).bind (fun M12 => F_V_init_38 g 64 M12 (some o) 0))))))))
set_option maxRecDepth 100000 in
set_option maxHeartbeats 4000000 in
theorem c_V_init (l : Launch) (G : ax_G) (g : Nat) (M : ax_M) (o : Nat) {q : ax_M} (hf : f_V_init g M o = some q) : ax_C l G y_V_init b_V_init 2 none [g + 1, g + 2, g + 3, g + 4, g + 5, g + 6, g + 7, g + 8, g + 9] 1 9 60 [ax_O (some o)] M none q := by
  refine ax_ofW (by decide +kernel) (lv0 := [(0, ax_O (some o))]) (Nat.le_of_ble_eq_true rfl) rfl ?_
  intro Z ad B hin _ _ hn hR hE
  have hag : ∀ a, a ∉ ([g + 1, g + 2, g + 3, g + 4, g + 5, g + 6, g + 7, g + 8, g + 9] : List Nat) → ad a = ad a := fun _ _ => rfl
  have hin : Z.2.2.2.2.2.2.2.2.1.name = "<init>" := hin
  unfold f_V_init at hf
  refine ax_aload_n B d_V_init_0 rfl (j := 0) rfl ?_
  refine ax_objInit B hR d_V_init_1 l_V_1 (by decide) (Nat.le_of_ble_eq_true rfl) ?_
  refine ax_aload_n B d_V_init_4 rfl (j := 0) rfl ?_
  refine ax_bipush B (v := 8) (by decide) d_V_init_5 ?_
  refine ax_newarray B hR (t := 0) (N := 8) d_V_init_7 rfl (by decide) (by decide) (by decide) (by decide) (ax_cvr (by simp) ax_cv0) (ax_cvr (by simp) ax_cv0) (by decide) (by decide) hf (fun M1 ad2 hag2 hf => ?_)
  replace hag := ax_ag (gs := [g + 1, g + 2, g + 3, g + 4, g + 5, g + 6, g + 7, g + 8, g + 9]) hag2 (by simp) hag
  refine ax_putFR B d_V_init_9 kf_V_9 hin rfl hf (fun M3 hf => ?_)
  refine ax_aload_n B d_V_init_12 rfl (j := 0) rfl ?_
  refine ax_bipush B (v := 8) (by decide) d_V_init_13 ?_
  refine ax_newarray B hR (t := 1) (N := 8) d_V_init_15 rfl (by decide) (by decide) (by decide) (by decide) (ax_cvr (by simp) ax_cv0) (ax_cvr (by simp) ax_cv0) (by decide) (by decide) hf (fun M4 ad5 hag2 hf => ?_)
  replace hag := ax_ag (gs := [g + 1, g + 2, g + 3, g + 4, g + 5, g + 6, g + 7, g + 8, g + 9]) hag2 (by simp) hag
  refine ax_putFR B d_V_init_17 kf_V_13 hin rfl hf (fun M6 hf => ?_)
  refine ax_aload_n B d_V_init_20 rfl (j := 0) rfl ?_
  refine ax_bipush B (v := 8) (by decide) d_V_init_21 ?_
  refine ax_newarray B hR (t := 1) (N := 8) d_V_init_23 rfl (by decide) (by decide) (by decide) (by decide) (ax_cvr (by simp) ax_cv0) (ax_cvr (by simp) ax_cv0) (by decide) (by decide) hf (fun M7 ad8 hag2 hf => ?_)
  replace hag := ax_ag (gs := [g + 1, g + 2, g + 3, g + 4, g + 5, g + 6, g + 7, g + 8, g + 9]) hag2 (by simp) hag
  refine ax_putFR B d_V_init_25 kf_V_17 hin rfl hf (fun M9 hf => ?_)
  refine ax_aload_n B d_V_init_28 rfl (j := 0) rfl ?_
  refine ax_bipush B (v := 8) (by decide) d_V_init_29 ?_
  refine ax_newarray B hR (t := 0) (N := 8) d_V_init_31 rfl (by decide) (by decide) (by decide) (by decide) (ax_cvr (by simp) ax_cv0) (ax_cvr (by simp) ax_cv0) (by decide) (by decide) hf (fun M10 ad11 hag2 hf => ?_)
  replace hag := ax_ag (gs := [g + 1, g + 2, g + 3, g + 4, g + 5, g + 6, g + 7, g + 8, g + 9]) hag2 (by simp) hag
  refine ax_putFR B d_V_init_33 kf_V_20 hin rfl hf (fun M12 hf => ?_)
  refine ax_iconst B (v := 0) (by decide) d_V_init_36 ?_
  refine ax_istore_n B (lv' := [(1, ax_I 0), (0, ax_O (some o))]) d_V_init_37 rfl (by rw [hn]; decide) rfl ?_
  refine ax_sub [1, 0] rfl ?_
  exact L_V_init_38 B hn hR hE hin hag 64 M12 (some o) 0 hf
def G_V_isOutside_15  (M : ax_M) (s0 : Int32) : Option (Int32 × ax_M) := (ax_bo s0).bind (fun _ => some (s0, M))
set_option maxRecDepth 100000 in
set_option maxHeartbeats 4000000 in
theorem K_V_isOutside_15 {Z : ax_Z} {ad0 ad : Nat → Nat} {q : Int32 × ax_M} (B : ax_B Z "VoteAuctions" b_V_isOutside (some .boolean)) (hn : Z.2.2.2.2.2.2.2.2.2.2.2.1 = 3) (hR : ax_R Z 0 0 0) (hE : ax_E Z ad0 [] 0 0 (some (ax_I q.1)) q.2) (hag : ∀ a, a ∉ ([] : List Nat) → ad a = ad0 a)   : ∀ (M : ax_M) (s0 : Int32), G_V_isOutside_15  M s0 = some q → ax_W Z ad 0 0 15 [] [ax_I s0] M := by
  intro M s0 hf
  unfold G_V_isOutside_15 at hf
  obtain ⟨_, hb, hf⟩ := ax_bd hf
  exact ax_ireturn B hE d_V_isOutside_15 hf (ax_bo_n hb) hag (by decide) (by decide)
def G_V_isOutside_10  (M : ax_M)  : Option (Int32 × ax_M) := G_V_isOutside_15 M 1
set_option maxRecDepth 100000 in
set_option maxHeartbeats 4000000 in
theorem K_V_isOutside_10 {Z : ax_Z} {ad0 ad : Nat → Nat} {q : Int32 × ax_M} (B : ax_B Z "VoteAuctions" b_V_isOutside (some .boolean)) (hn : Z.2.2.2.2.2.2.2.2.2.2.2.1 = 3) (hR : ax_R Z 0 0 0) (hE : ax_E Z ad0 [] 0 0 (some (ax_I q.1)) q.2) (hag : ∀ a, a ∉ ([] : List Nat) → ad a = ad0 a)   : ∀ (M : ax_M) , G_V_isOutside_10  M  = some q → ax_W Z ad 0 0 10 [] [] M := by
  intro M  hf
  unfold G_V_isOutside_10 at hf
  refine ax_iconst B (v := 1) (by decide) d_V_isOutside_10 ?_
  refine ax_goto B (tgt := 15) d_V_isOutside_11 (by decide) ?_
  exact K_V_isOutside_15 B hn hR hE hag M 1 hf
def f_V_isOutside (M : ax_M) (p0 : Int32) (p1 : Int32) (p2 : Int32) : Option (Int32 × ax_M) := if p0 < p1 then G_V_isOutside_10 M else if p0 ≤ p2 then G_V_isOutside_15 M 0 else G_V_isOutside_10 M
set_option maxRecDepth 100000 in
set_option maxHeartbeats 4000000 in
theorem c_V_isOutside (l : Launch) (G : ax_G) (M : ax_M) (p0 : Int32) (p1 : Int32) (p2 : Int32) {q : Int32 × ax_M} (hf : f_V_isOutside M p0 p1 p2 = some q) : ax_C l G y_V_isOutside b_V_isOutside 3 (some .boolean) [] 0 0 0 [ax_I p0, ax_I p1, ax_I p2] M (some (ax_I q.1)) q.2 := by
  refine ax_ofW (by decide +kernel) (lv0 := [(0, ax_I p0), (1, ax_I p1), (2, ax_I p2)]) (Nat.le_of_ble_eq_true rfl) rfl ?_
  intro Z ad B hin _ _ hn hR hE
  have hag : ∀ a, a ∉ ([] : List Nat) → ad a = ad a := fun _ _ => rfl
  unfold f_V_isOutside at hf
  refine ax_iload_n B d_V_isOutside_0 rfl (j := 0) rfl ?_
  refine ax_iload_n B d_V_isOutside_1 rfl (j := 1) rfl ?_
  refine ax_icmp_lt B (tgt := 10) d_V_isOutside_2 (by decide) hf (fun hf => ?_) (fun hf => ?_)
  · refine ax_sub [] rfl ?_
    exact K_V_isOutside_10 B hn hR hE hag M hf
  · refine ax_iload_n B d_V_isOutside_5 rfl (j := 0) rfl ?_
    refine ax_iload_n B d_V_isOutside_6 rfl (j := 2) rfl ?_
    refine ax_icmp_le B (tgt := 14) d_V_isOutside_7 (by decide) hf (fun hf => ?_) (fun hf => ?_)
    · refine ax_iconst B (v := 0) (by decide) d_V_isOutside_14 ?_
      refine ax_sub [] rfl ?_
      exact K_V_isOutside_15 B hn hR hE hag M 0 hf
    · refine ax_sub [] rfl ?_
      exact K_V_isOutside_10 B hn hR hE hag M hf
def G_V_account_21  (M : ax_M)  : Option (Int32 × ax_M) := some ((-2), M)
set_option maxRecDepth 100000 in
set_option maxHeartbeats 4000000 in
theorem K_V_account_21 {Z : ax_Z} {ad0 ad : Nat → Nat} {q : Int32 × ax_M} (B : ax_B Z "VoteAuctions" b_V_account (some .int)) (hn : Z.2.2.2.2.2.2.2.2.2.2.2.1 = 4) (hR : ax_R Z 1 0 0) (hE : ax_E Z ad0 [] 0 0 (some (ax_I q.1)) q.2) (hag : ∀ a, a ∉ ([] : List Nat) → ad a = ad0 a)   : ∀ (M : ax_M) , G_V_account_21  M  = some q → ax_W Z ad 0 0 21 [] [] M := by
  intro M  hf
  unfold G_V_account_21 at hf
  refine ax_bipush B (v := (-2)) (by decide) d_V_account_21 ?_
  exact ax_ireturn B hE d_V_account_23 hf rfl hag (by decide) (by decide)
def f_V_account (M : ax_M) (x0 : Option Nat) (p0 : Int32) (p1 : Int32) : Option (Int32 × ax_M) := (f_V_isOutside M p0 0 1000).bind (fun q1 => if q1.1 = 0 then (f_V_isOutside q1.2 p1 0 1000000).bind (fun q2 => if q2.1 = 0 then (ax_gi q2.2 0 2 x0).bind (fun x3 => if x3 < 8 then (ax_gi q2.2 0 2 x0).bind (fun x4 => (ax_gr q2.2 0 3 x0).bind (fun x5 => (ax_ti q2.2 0 x5 x4 p0).bind (fun M6 => (ax_gr M6 0 4 x0).bind (fun x7 => (ax_tl M6 1 x7 x4 (p1.toInt64)).bind (fun M8 => (ax_gi M8 0 2 x0).bind (fun x9 => (ax_pi M8 0 2 x0 (x9 + 1)).bind (fun M10 => some (x4, M10)))))))) else some ((-4), q2.2)) else G_V_account_21 q2.2) else G_V_account_21 q1.2)
set_option maxRecDepth 100000 in
set_option maxHeartbeats 4000000 in
theorem c_V_account (l : Launch) (G : ax_G) (M : ax_M) (x0 : Option Nat) (p0 : Int32) (p1 : Int32) {q : Int32 × ax_M} (hf : f_V_account M x0 p0 p1 = some q) : ax_C l G y_V_account b_V_account 4 (some .int) [] 1 0 0 [ax_O x0, ax_I p0, ax_I p1] M (some (ax_I q.1)) q.2 := by
  refine ax_ofW (by decide +kernel) (lv0 := [(0, ax_O x0), (1, ax_I p0), (2, ax_I p1)]) (Nat.le_of_ble_eq_true rfl) rfl ?_
  intro Z ad B hin _ _ hn hR hE
  have hag : ∀ a, a ∉ ([] : List Nat) → ad a = ad a := fun _ _ => rfl
  unfold f_V_account at hf
  refine ax_iload_n B d_V_account_0 rfl (j := 1) rfl ?_
  refine ax_iconst B (v := 0) (by decide) d_V_account_1 ?_
  refine ax_sipush B (v := 1000) (by decide) d_V_account_2 ?_
  refine ax_cSV B hR (as := [ax_I p0, ax_I 0, ax_I 1000]) (V := fun q => ax_I q.1) (N := fun q => q.2) d_V_account_5 l_V_44 m_V_isOutside hf (fun q h => c_V_isOutside _ _ _ _ _ _ h) rfl rfl (by decide) (by decide) (by decide) (by decide) (Nat.le_of_ble_eq_true rfl) (fun q1 hf => ?_)
  refine ax_if_ne B (tgt := 21) d_V_account_8 (by decide) hf (fun hf => ?_) (fun hf => ?_)
  · refine ax_iload_n B d_V_account_11 rfl (j := 2) rfl ?_
    refine ax_iconst B (v := 0) (by decide) d_V_account_12 ?_
    refine ax_ldc B (v := 1000000) n_V_48 d_V_account_13 ?_
    refine ax_cSV B hR (as := [ax_I p1, ax_I 0, ax_I 1000000]) (V := fun q => ax_I q.1) (N := fun q => q.2) d_V_account_15 l_V_44 m_V_isOutside hf (fun q h => c_V_isOutside _ _ _ _ _ _ h) rfl rfl (by decide) (by decide) (by decide) (by decide) (Nat.le_of_ble_eq_true rfl) (fun q2 hf => ?_)
    refine ax_if_eq B (tgt := 24) d_V_account_18 (by decide) hf (fun hf => ?_) (fun hf => ?_)
    · refine ax_aload_n B d_V_account_24 rfl (j := 0) rfl ?_
      refine ax_getI B d_V_account_25 k_V_49 rfl hf (fun x3 hf => ?_)
      refine ax_bipush B (v := 8) (by decide) d_V_account_28 ?_
      refine ax_icmp_lt B (tgt := 36) d_V_account_30 (by decide) hf (fun hf => ?_) (fun hf => ?_)
      · refine ax_aload_n B d_V_account_36 rfl (j := 0) rfl ?_
        refine ax_getI B d_V_account_37 k_V_49 rfl hf (fun x4 hf => ?_)
        refine ax_istore_n B (lv' := [(3, ax_I x4), (0, ax_O x0), (1, ax_I p0), (2, ax_I p1)]) d_V_account_40 rfl (by rw [hn]; decide) rfl ?_
        refine ax_aload_n B d_V_account_41 rfl (j := 1) rfl ?_
        refine ax_getR B d_V_account_42 k_V_9 rfl hf (fun x5 hf => ?_)
        refine ax_iload_n B d_V_account_45 rfl (j := 0) rfl ?_
        refine ax_iload_n B d_V_account_46 rfl (j := 2) rfl ?_
        refine ax_iast B d_V_account_47 (t := 0) (by decide) rfl hf (fun M6 hf => ?_)
        refine ax_aload_n B d_V_account_48 rfl (j := 1) rfl ?_
        refine ax_getR B d_V_account_49 k_V_13 rfl hf (fun x7 hf => ?_)
        refine ax_iload_n B d_V_account_52 rfl (j := 0) rfl ?_
        refine ax_iload_n B d_V_account_53 rfl (j := 3) rfl ?_
        refine ax_i2l B d_V_account_54 ?_
        refine ax_last B d_V_account_55 (t := 1) (by decide) rfl hf (fun M8 hf => ?_)
        refine ax_aload_n B d_V_account_56 rfl (j := 1) rfl ?_
        refine ax_dup B rfl d_V_account_57 ?_
        refine ax_getI B d_V_account_58 k_V_49 rfl hf (fun x9 hf => ?_)
        refine ax_iconst B (v := 1) (by decide) d_V_account_61 ?_
        refine ax_iadd B d_V_account_62 ?_
        refine ax_putI B d_V_account_63 k_V_49 rfl rfl rfl rfl hf (fun M10 hf => ?_)
        refine ax_iload_n B d_V_account_66 rfl (j := 0) rfl ?_
        exact ax_ireturn B hE d_V_account_67 hf rfl hag (by decide) (by decide)
      · refine ax_bipush B (v := (-4)) (by decide) d_V_account_33 ?_
        exact ax_ireturn B hE d_V_account_35 hf rfl hag (by decide) (by decide)
    · refine ax_sub [] rfl ?_
      exact K_V_account_21 B hn hR hE hag q2.2 hf
  · refine ax_sub [] rfl ?_
    exact K_V_account_21 B hn hR hE hag q1.2 hf
def G_V_isNoAccount_23  (M : ax_M) (s0 : Int32) : Option (Int32 × ax_M) := (ax_bo s0).bind (fun _ => some (s0, M))
set_option maxRecDepth 100000 in
set_option maxHeartbeats 4000000 in
theorem K_V_isNoAccount_23 {Z : ax_Z} {ad0 ad : Nat → Nat} {q : Int32 × ax_M} (B : ax_B Z "VoteAuctions" b_V_isNoAccount (some .boolean)) (hn : Z.2.2.2.2.2.2.2.2.2.2.2.1 = 2) (hR : ax_R Z 0 0 0) (hE : ax_E Z ad0 [] 0 0 (some (ax_I q.1)) q.2) (hag : ∀ a, a ∉ ([] : List Nat) → ad a = ad0 a)   : ∀ (M : ax_M) (s0 : Int32), G_V_isNoAccount_23  M s0 = some q → ax_W Z ad 0 0 23 [] [ax_I s0] M := by
  intro M s0 hf
  unfold G_V_isNoAccount_23 at hf
  obtain ⟨_, hb, hf⟩ := ax_bd hf
  exact ax_ireturn B hE d_V_isNoAccount_23 hf (ax_bo_n hb) hag (by decide) (by decide)
def G_V_isNoAccount_18  (M : ax_M)  : Option (Int32 × ax_M) := G_V_isNoAccount_23 M 1
set_option maxRecDepth 100000 in
set_option maxHeartbeats 4000000 in
theorem K_V_isNoAccount_18 {Z : ax_Z} {ad0 ad : Nat → Nat} {q : Int32 × ax_M} (B : ax_B Z "VoteAuctions" b_V_isNoAccount (some .boolean)) (hn : Z.2.2.2.2.2.2.2.2.2.2.2.1 = 2) (hR : ax_R Z 0 0 0) (hE : ax_E Z ad0 [] 0 0 (some (ax_I q.1)) q.2) (hag : ∀ a, a ∉ ([] : List Nat) → ad a = ad0 a)   : ∀ (M : ax_M) , G_V_isNoAccount_18  M  = some q → ax_W Z ad 0 0 18 [] [] M := by
  intro M  hf
  unfold G_V_isNoAccount_18 at hf
  refine ax_iconst B (v := 1) (by decide) d_V_isNoAccount_18 ?_
  refine ax_goto B (tgt := 23) d_V_isNoAccount_19 (by decide) ?_
  exact K_V_isNoAccount_23 B hn hR hE hag M 1 hf
def f_V_isNoAccount (M : ax_M) (x0 : Option Nat) (p0 : Int32) : Option (Int32 × ax_M) := if p0 < 0 then G_V_isNoAccount_18 M else (ax_gi M 0 2 x0).bind (fun x1 => if x1 ≤ p0 then G_V_isNoAccount_18 M else if p0 < 8 then G_V_isNoAccount_23 M 0 else G_V_isNoAccount_18 M)
set_option maxRecDepth 100000 in
set_option maxHeartbeats 4000000 in
theorem c_V_isNoAccount (l : Launch) (G : ax_G) (M : ax_M) (x0 : Option Nat) (p0 : Int32) {q : Int32 × ax_M} (hf : f_V_isNoAccount M x0 p0 = some q) : ax_C l G y_V_isNoAccount b_V_isNoAccount 2 (some .boolean) [] 0 0 0 [ax_O x0, ax_I p0] M (some (ax_I q.1)) q.2 := by
  refine ax_ofW (by decide +kernel) (lv0 := [(0, ax_O x0), (1, ax_I p0)]) (Nat.le_of_ble_eq_true rfl) rfl ?_
  intro Z ad B hin _ _ hn hR hE
  have hag : ∀ a, a ∉ ([] : List Nat) → ad a = ad a := fun _ _ => rfl
  unfold f_V_isNoAccount at hf
  refine ax_iload_n B d_V_isNoAccount_0 rfl (j := 1) rfl ?_
  refine ax_if_lt B (tgt := 18) d_V_isNoAccount_1 (by decide) hf (fun hf => ?_) (fun hf => ?_)
  · refine ax_sub [] rfl ?_
    exact K_V_isNoAccount_18 B hn hR hE hag M hf
  · refine ax_iload_n B d_V_isNoAccount_4 rfl (j := 1) rfl ?_
    refine ax_aload_n B d_V_isNoAccount_5 rfl (j := 0) rfl ?_
    refine ax_getI B d_V_isNoAccount_6 k_V_49 rfl hf (fun x1 hf => ?_)
    refine ax_icmp_ge B (tgt := 18) d_V_isNoAccount_9 (by decide) hf (fun hf => ?_) (fun hf => ?_)
    · refine ax_sub [] rfl ?_
      exact K_V_isNoAccount_18 B hn hR hE hag M hf
    · refine ax_iload_n B d_V_isNoAccount_12 rfl (j := 1) rfl ?_
      refine ax_bipush B (v := 8) (by decide) d_V_isNoAccount_13 ?_
      refine ax_icmp_lt B (tgt := 22) d_V_isNoAccount_15 (by decide) hf (fun hf => ?_) (fun hf => ?_)
      · refine ax_iconst B (v := 0) (by decide) d_V_isNoAccount_22 ?_
        refine ax_sub [] rfl ?_
        exact K_V_isNoAccount_23 B hn hR hE hag M 0 hf
      · refine ax_sub [] rfl ?_
        exact K_V_isNoAccount_18 B hn hR hE hag M hf
def f_V_weigh (M : ax_M) (x0 : Option Nat) (p0 : Int32) (p1 : Int32) : Option (Int32 × ax_M) := (ax_ob M 0 x0).bind (fun _ => (f_V_isNoAccount M x0 p0).bind (fun q1 => if q1.1 = 0 then (f_V_isOutside q1.2 p1 0 1000).bind (fun q2 => if q2.1 = 0 then (ax_gr q2.2 0 3 x0).bind (fun x3 => (ax_ri q2.2 0 x3 p0).bind (fun x4 => (ax_gr q2.2 0 3 x0).bind (fun x5 => (ax_ti q2.2 0 x5 p0 p1).bind (fun M6 => some (x4, M6))))) else some ((-2), q2.2)) else some ((-1), q1.2)))
set_option maxRecDepth 100000 in
set_option maxHeartbeats 4000000 in
theorem c_V_weigh (l : Launch) (G : ax_G) (M : ax_M) (x0 : Option Nat) (p0 : Int32) (p1 : Int32) {q : Int32 × ax_M} (hf : f_V_weigh M x0 p0 p1 = some q) : ax_C l G y_V_weigh b_V_weigh 4 (some .int) [] 1 0 0 [ax_O x0, ax_I p0, ax_I p1] M (some (ax_I q.1)) q.2 := by
  refine ax_ofW (by decide +kernel) (lv0 := [(0, ax_O x0), (1, ax_I p0), (2, ax_I p1)]) (Nat.le_of_ble_eq_true rfl) rfl ?_
  intro Z ad B hin _ _ hn hR hE
  have hag : ∀ a, a ∉ ([] : List Nat) → ad a = ad a := fun _ _ => rfl
  unfold f_V_weigh at hf
  refine ax_aload_n B d_V_weigh_0 rfl (j := 0) rfl ?_
  refine ax_iload_n B d_V_weigh_1 rfl (j := 1) rfl ?_
  refine ax_cVV B hR (as := [ax_I p0]) (V := fun q => ax_I q.1) (N := fun q => q.2) d_V_weigh_2 l_V_53 m_V_isNoAccount hf (fun q h => c_V_isNoAccount _ _ _ _ _ h) rfl rfl (by decide) (by decide) (by decide) (by decide) (Nat.le_of_ble_eq_true rfl) (fun q1 hf => ?_)
  refine ax_if_eq B (tgt := 10) d_V_weigh_5 (by decide) hf (fun hf => ?_) (fun hf => ?_)
  · refine ax_iload_n B d_V_weigh_10 rfl (j := 2) rfl ?_
    refine ax_iconst B (v := 0) (by decide) d_V_weigh_11 ?_
    refine ax_sipush B (v := 1000) (by decide) d_V_weigh_12 ?_
    refine ax_cSV B hR (as := [ax_I p1, ax_I 0, ax_I 1000]) (V := fun q => ax_I q.1) (N := fun q => q.2) d_V_weigh_15 l_V_44 m_V_isOutside hf (fun q h => c_V_isOutside _ _ _ _ _ _ h) rfl rfl (by decide) (by decide) (by decide) (by decide) (Nat.le_of_ble_eq_true rfl) (fun q2 hf => ?_)
    refine ax_if_eq B (tgt := 24) d_V_weigh_18 (by decide) hf (fun hf => ?_) (fun hf => ?_)
    · refine ax_aload_n B d_V_weigh_24 rfl (j := 0) rfl ?_
      refine ax_getR B d_V_weigh_25 k_V_9 rfl hf (fun x3 hf => ?_)
      refine ax_iload_n B d_V_weigh_28 rfl (j := 1) rfl ?_
      refine ax_iald B d_V_weigh_29 (t := 0) (by decide) rfl hf (fun x4 hf => ?_)
      refine ax_istore_n B (lv' := [(3, ax_I x4), (0, ax_O x0), (1, ax_I p0), (2, ax_I p1)]) d_V_weigh_30 rfl (by rw [hn]; decide) rfl ?_
      refine ax_aload_n B d_V_weigh_31 rfl (j := 1) rfl ?_
      refine ax_getR B d_V_weigh_32 k_V_9 rfl hf (fun x5 hf => ?_)
      refine ax_iload_n B d_V_weigh_35 rfl (j := 2) rfl ?_
      refine ax_iload_n B d_V_weigh_36 rfl (j := 3) rfl ?_
      refine ax_iast B d_V_weigh_37 (t := 0) (by decide) rfl hf (fun M6 hf => ?_)
      refine ax_iload_n B d_V_weigh_38 rfl (j := 0) rfl ?_
      exact ax_ireturn B hE d_V_weigh_39 hf rfl hag (by decide) (by decide)
    · refine ax_bipush B (v := (-2)) (by decide) d_V_weigh_21 ?_
      exact ax_ireturn B hE d_V_weigh_23 hf rfl hag (by decide) (by decide)
  · refine ax_iconst B (v := (-1)) (by decide) d_V_weigh_8 ?_
    exact ax_ireturn B hE d_V_weigh_9 hf rfl hag (by decide) (by decide)
def f_V_fund (M : ax_M) (x0 : Option Nat) (p0 : Int32) (p1 : Int32) : Option (Int32 × ax_M) := (ax_ob M 0 x0).bind (fun _ => (f_V_isNoAccount M x0 p0).bind (fun q1 => if q1.1 = 0 then (f_V_isOutside q1.2 p1 0 100000).bind (fun q2 => if q2.1 = 0 then (ax_gr q2.2 0 4 x0).bind (fun x3 => (ax_rl q2.2 1 x3 p0).bind (fun x4 => (ax_tl q2.2 1 x3 p0 (x4 + (p1.toInt64))).bind (fun M5 => some (1, M5)))) else some ((-2), q2.2)) else some ((-1), q1.2)))
set_option maxRecDepth 100000 in
set_option maxHeartbeats 4000000 in
theorem c_V_fund (l : Launch) (G : ax_G) (M : ax_M) (x0 : Option Nat) (p0 : Int32) (p1 : Int32) {q : Int32 × ax_M} (hf : f_V_fund M x0 p0 p1 = some q) : ax_C l G y_V_fund b_V_fund 3 (some .int) [] 1 0 0 [ax_O x0, ax_I p0, ax_I p1] M (some (ax_I q.1)) q.2 := by
  refine ax_ofW (by decide +kernel) (lv0 := [(0, ax_O x0), (1, ax_I p0), (2, ax_I p1)]) (Nat.le_of_ble_eq_true rfl) rfl ?_
  intro Z ad B hin _ _ hn hR hE
  have hag : ∀ a, a ∉ ([] : List Nat) → ad a = ad a := fun _ _ => rfl
  unfold f_V_fund at hf
  refine ax_aload_n B d_V_fund_0 rfl (j := 0) rfl ?_
  refine ax_iload_n B d_V_fund_1 rfl (j := 1) rfl ?_
  refine ax_cVV B hR (as := [ax_I p0]) (V := fun q => ax_I q.1) (N := fun q => q.2) d_V_fund_2 l_V_53 m_V_isNoAccount hf (fun q h => c_V_isNoAccount _ _ _ _ _ h) rfl rfl (by decide) (by decide) (by decide) (by decide) (Nat.le_of_ble_eq_true rfl) (fun q1 hf => ?_)
  refine ax_if_eq B (tgt := 10) d_V_fund_5 (by decide) hf (fun hf => ?_) (fun hf => ?_)
  · refine ax_iload_n B d_V_fund_10 rfl (j := 2) rfl ?_
    refine ax_iconst B (v := 0) (by decide) d_V_fund_11 ?_
    refine ax_ldc B (v := 100000) n_V_57 d_V_fund_12 ?_
    refine ax_cSV B hR (as := [ax_I p1, ax_I 0, ax_I 100000]) (V := fun q => ax_I q.1) (N := fun q => q.2) d_V_fund_14 l_V_44 m_V_isOutside hf (fun q h => c_V_isOutside _ _ _ _ _ _ h) rfl rfl (by decide) (by decide) (by decide) (by decide) (Nat.le_of_ble_eq_true rfl) (fun q2 hf => ?_)
    refine ax_if_eq B (tgt := 23) d_V_fund_17 (by decide) hf (fun hf => ?_) (fun hf => ?_)
    · refine ax_aload_n B d_V_fund_23 rfl (j := 0) rfl ?_
      refine ax_getR B d_V_fund_24 k_V_13 rfl hf (fun x3 hf => ?_)
      refine ax_iload_n B d_V_fund_27 rfl (j := 1) rfl ?_
      refine ax_dup2_11 B rfl rfl d_V_fund_28 ?_
      refine ax_lald B d_V_fund_29 (t := 1) (by decide) rfl hf (fun x4 hf => ?_)
      refine ax_iload_n B d_V_fund_30 rfl (j := 2) rfl ?_
      refine ax_i2l B d_V_fund_31 ?_
      refine ax_ladd B d_V_fund_32 ?_
      refine ax_last B d_V_fund_33 (t := 1) (by decide) rfl hf (fun M5 hf => ?_)
      refine ax_iconst B (v := 1) (by decide) d_V_fund_34 ?_
      exact ax_ireturn B hE d_V_fund_35 hf rfl hag (by decide) (by decide)
    · refine ax_bipush B (v := (-2)) (by decide) d_V_fund_20 ?_
      exact ax_ireturn B hE d_V_fund_22 hf rfl hag (by decide) (by decide)
  · refine ax_iconst B (v := (-1)) (by decide) d_V_fund_8 ?_
    exact ax_ireturn B hE d_V_fund_9 hf rfl hag (by decide) (by decide)
def G_V_speak_16  (M : ax_M)  : Option (Int32 × ax_M) := some ((-1), M)
set_option maxRecDepth 100000 in
set_option maxHeartbeats 4000000 in
theorem K_V_speak_16 {Z : ax_Z} {ad0 ad : Nat → Nat} {q : Int32 × ax_M} (B : ax_B Z "VoteAuctions" b_V_speak (some .int)) (hn : Z.2.2.2.2.2.2.2.2.2.2.2.1 = 4) (hR : ax_R Z 1 0 0) (hE : ax_E Z ad0 [] 0 0 (some (ax_I q.1)) q.2) (hag : ∀ a, a ∉ ([] : List Nat) → ad a = ad0 a)   : ∀ (M : ax_M) , G_V_speak_16  M  = some q → ax_W Z ad 0 0 16 [] [] M := by
  intro M  hf
  unfold G_V_speak_16 at hf
  refine ax_iconst B (v := (-1)) (by decide) d_V_speak_16 ?_
  exact ax_ireturn B hE d_V_speak_17 hf rfl hag (by decide) (by decide)
def G_V_speak_51  (M : ax_M) (s0 : Int32) : Option (Int32 × ax_M) := some (s0, M)
set_option maxRecDepth 100000 in
set_option maxHeartbeats 4000000 in
theorem K_V_speak_51 {Z : ax_Z} {ad0 ad : Nat → Nat} {q : Int32 × ax_M} (B : ax_B Z "VoteAuctions" b_V_speak (some .int)) (hn : Z.2.2.2.2.2.2.2.2.2.2.2.1 = 4) (hR : ax_R Z 1 0 0) (hE : ax_E Z ad0 [] 0 0 (some (ax_I q.1)) q.2) (hag : ∀ a, a ∉ ([] : List Nat) → ad a = ad0 a)   : ∀ (M : ax_M) (s0 : Int32), G_V_speak_51  M s0 = some q → ax_W Z ad 0 0 51 [] [ax_I s0] M := by
  intro M s0 hf
  unfold G_V_speak_51 at hf
  exact ax_ireturn B hE d_V_speak_51 hf rfl hag (by decide) (by decide)
def G_V_speak_40  (M : ax_M) (v1 : Int32) (v3 : Int32) (s0 : Int32) (s1 : Int32) (s2 : Option Nat) : Option (Int32 × ax_M) := (ax_ti M 0 s2 s1 s0).bind (fun M1 => if v3 = (-1) then G_V_speak_51 M1 v1 else G_V_speak_51 M1 v3)
set_option maxRecDepth 100000 in
set_option maxHeartbeats 4000000 in
theorem K_V_speak_40 {Z : ax_Z} {ad0 ad : Nat → Nat} {q : Int32 × ax_M} (B : ax_B Z "VoteAuctions" b_V_speak (some .int)) (hn : Z.2.2.2.2.2.2.2.2.2.2.2.1 = 4) (hR : ax_R Z 1 0 0) (hE : ax_E Z ad0 [] 0 0 (some (ax_I q.1)) q.2) (hag : ∀ a, a ∉ ([] : List Nat) → ad a = ad0 a)   : ∀ (M : ax_M) (v1 : Int32) (v3 : Int32) (s0 : Int32) (s1 : Int32) (s2 : Option Nat), G_V_speak_40  M v1 v3 s0 s1 s2 = some q → ax_W Z ad 0 0 40 [(1, ax_I v1), (3, ax_I v3)] [ax_I s0, ax_I s1, ax_O s2] M := by
  intro M v1 v3 s0 s1 s2 hf
  unfold G_V_speak_40 at hf
  refine ax_iast B d_V_speak_40 (t := 0) (by decide) rfl hf (fun M1 hf => ?_)
  refine ax_iload_n B d_V_speak_41 rfl (j := 1) rfl ?_
  refine ax_iconst B (v := (-1)) (by decide) d_V_speak_42 ?_
  refine ax_icmp_ne B (tgt := 50) d_V_speak_43 (by decide) hf (fun hf => ?_) (fun hf => ?_)
  · refine ax_iload_n B d_V_speak_46 rfl (j := 0) rfl ?_
    refine ax_goto B (tgt := 51) d_V_speak_47 (by decide) ?_
    refine ax_sub [] rfl ?_
    exact K_V_speak_51 B hn hR hE hag M1 v1 hf
  · refine ax_iload_n B d_V_speak_50 rfl (j := 1) rfl ?_
    refine ax_sub [] rfl ?_
    exact K_V_speak_51 B hn hR hE hag M1 v3 hf
def f_V_speak (M : ax_M) (x0 : Option Nat) (p0 : Int32) (p1 : Int32) : Option (Int32 × ax_M) := (ax_ob M 0 x0).bind (fun _ => (f_V_isNoAccount M x0 p0).bind (fun q1 => if q1.1 = 0 then (ax_ob q1.2 0 x0).bind (fun _ => (f_V_isNoAccount q1.2 x0 p1).bind (fun q2 => if q2.1 = 0 then (ax_gr q2.2 0 6 x0).bind (fun x3 => (ax_ri q2.2 0 x3 p0).bind (fun x4 => (ax_gr q2.2 0 6 x0).bind (fun x5 => if p1 = p0 then G_V_speak_40 q2.2 p0 x4 (-1) p0 x5 else G_V_speak_40 q2.2 p0 x4 p1 p0 x5))) else G_V_speak_16 q2.2)) else G_V_speak_16 q1.2))
set_option maxRecDepth 100000 in
set_option maxHeartbeats 4000000 in
theorem c_V_speak (l : Launch) (G : ax_G) (M : ax_M) (x0 : Option Nat) (p0 : Int32) (p1 : Int32) {q : Int32 × ax_M} (hf : f_V_speak M x0 p0 p1 = some q) : ax_C l G y_V_speak b_V_speak 4 (some .int) [] 1 0 0 [ax_O x0, ax_I p0, ax_I p1] M (some (ax_I q.1)) q.2 := by
  refine ax_ofW (by decide +kernel) (lv0 := [(0, ax_O x0), (1, ax_I p0), (2, ax_I p1)]) (Nat.le_of_ble_eq_true rfl) rfl ?_
  intro Z ad B hin _ _ hn hR hE
  have hag : ∀ a, a ∉ ([] : List Nat) → ad a = ad a := fun _ _ => rfl
  unfold f_V_speak at hf
  refine ax_aload_n B d_V_speak_0 rfl (j := 0) rfl ?_
  refine ax_iload_n B d_V_speak_1 rfl (j := 1) rfl ?_
  refine ax_cVV B hR (as := [ax_I p0]) (V := fun q => ax_I q.1) (N := fun q => q.2) d_V_speak_2 l_V_53 m_V_isNoAccount hf (fun q h => c_V_isNoAccount _ _ _ _ _ h) rfl rfl (by decide) (by decide) (by decide) (by decide) (Nat.le_of_ble_eq_true rfl) (fun q1 hf => ?_)
  refine ax_if_ne B (tgt := 16) d_V_speak_5 (by decide) hf (fun hf => ?_) (fun hf => ?_)
  · refine ax_aload_n B d_V_speak_8 rfl (j := 0) rfl ?_
    refine ax_iload_n B d_V_speak_9 rfl (j := 2) rfl ?_
    refine ax_cVV B hR (as := [ax_I p1]) (V := fun q => ax_I q.1) (N := fun q => q.2) d_V_speak_10 l_V_53 m_V_isNoAccount hf (fun q h => c_V_isNoAccount _ _ _ _ _ h) rfl rfl (by decide) (by decide) (by decide) (by decide) (Nat.le_of_ble_eq_true rfl) (fun q2 hf => ?_)
    refine ax_if_eq B (tgt := 18) d_V_speak_13 (by decide) hf (fun hf => ?_) (fun hf => ?_)
    · refine ax_aload_n B d_V_speak_18 rfl (j := 0) rfl ?_
      refine ax_getR B d_V_speak_19 k_V_20 rfl hf (fun x3 hf => ?_)
      refine ax_iload_n B d_V_speak_22 rfl (j := 1) rfl ?_
      refine ax_iald B d_V_speak_23 (t := 0) (by decide) rfl hf (fun x4 hf => ?_)
      refine ax_istore_n B (lv' := [(3, ax_I x4), (0, ax_O x0), (1, ax_I p0), (2, ax_I p1)]) d_V_speak_24 rfl (by rw [hn]; decide) rfl ?_
      refine ax_aload_n B d_V_speak_25 rfl (j := 1) rfl ?_
      refine ax_getR B d_V_speak_26 k_V_20 rfl hf (fun x5 hf => ?_)
      refine ax_iload_n B d_V_speak_29 rfl (j := 2) rfl ?_
      refine ax_iload_n B d_V_speak_30 rfl (j := 3) rfl ?_
      refine ax_iload_n B d_V_speak_31 rfl (j := 2) rfl ?_
      refine ax_icmp_ne B (tgt := 39) d_V_speak_32 (by decide) hf (fun hf => ?_) (fun hf => ?_)
      · refine ax_iconst B (v := (-1)) (by decide) d_V_speak_35 ?_
        refine ax_goto B (tgt := 40) d_V_speak_36 (by decide) ?_
        refine ax_sub [2, 0] rfl ?_
        exact K_V_speak_40 B hn hR hE hag q2.2 p0 x4 (-1) p0 x5 hf
      · refine ax_iload_n B d_V_speak_39 rfl (j := 3) rfl ?_
        refine ax_sub [2, 0] rfl ?_
        exact K_V_speak_40 B hn hR hE hag q2.2 p0 x4 p1 p0 x5 hf
    · refine ax_sub [] rfl ?_
      exact K_V_speak_16 B hn hR hE hag q2.2 hf
  · refine ax_sub [] rfl ?_
    exact K_V_speak_16 B hn hR hE hag q1.2 hf
def f_V_holds (M : ax_M) (x0 : Option Nat) (p0 : Int32) (p1 : Int32) : Option (Int64 × ax_M) := (ax_ob M 0 x0).bind (fun _ => (f_V_isNoAccount M x0 p0).bind (fun q1 => if q1.1 = 0 then if p1 = 0 then (ax_gr q1.2 0 3 x0).bind (fun x2 => (ax_ri q1.2 0 x2 p0).bind (fun x3 => some ((x3.toInt64), q1.2))) else if p1 = 1 then (ax_gr q1.2 0 4 x0).bind (fun x4 => (ax_rl q1.2 1 x4 p0).bind (fun x5 => some (x5, q1.2))) else if p1 = 2 then (ax_gr q1.2 0 5 x0).bind (fun x6 => (ax_rl q1.2 1 x6 p0).bind (fun x7 => some (x7, q1.2))) else some ((-2), q1.2) else some ((-1), q1.2)))
set_option maxRecDepth 100000 in
set_option maxHeartbeats 4000000 in
theorem c_V_holds (l : Launch) (G : ax_G) (M : ax_M) (x0 : Option Nat) (p0 : Int32) (p1 : Int32) {q : Int64 × ax_M} (hf : f_V_holds M x0 p0 p1 = some q) : ax_C l G y_V_holds b_V_holds 3 (some .long) [] 1 0 0 [ax_O x0, ax_I p0, ax_I p1] M (some (ax_L q.1)) q.2 := by
  refine ax_ofW (by decide +kernel) (lv0 := [(0, ax_O x0), (1, ax_I p0), (2, ax_I p1)]) (Nat.le_of_ble_eq_true rfl) rfl ?_
  intro Z ad B hin _ _ hn hR hE
  have hag : ∀ a, a ∉ ([] : List Nat) → ad a = ad a := fun _ _ => rfl
  unfold f_V_holds at hf
  refine ax_aload_n B d_V_holds_0 rfl (j := 0) rfl ?_
  refine ax_iload_n B d_V_holds_1 rfl (j := 1) rfl ?_
  refine ax_cVV B hR (as := [ax_I p0]) (V := fun q => ax_I q.1) (N := fun q => q.2) d_V_holds_2 l_V_53 m_V_isNoAccount hf (fun q h => c_V_isNoAccount _ _ _ _ _ h) rfl rfl (by decide) (by decide) (by decide) (by decide) (Nat.le_of_ble_eq_true rfl) (fun q1 hf => ?_)
  refine ax_if_eq B (tgt := 12) d_V_holds_5 (by decide) hf (fun hf => ?_) (fun hf => ?_)
  · refine ax_iload_n B d_V_holds_12 rfl (j := 2) rfl ?_
    refine ax_tsw3 B (t0 := 40) (t1 := 48) (t2 := 55) (t3 := 62) d_V_holds_13 (by decide) (by decide) (by decide) (by decide) hf (fun hf => ?_) (fun hf => ?_) (fun hf => ?_) (fun hf => ?_)
    · refine ax_aload_n B d_V_holds_40 rfl (j := 0) rfl ?_
      refine ax_getR B d_V_holds_41 k_V_9 rfl hf (fun x2 hf => ?_)
      refine ax_iload_n B d_V_holds_44 rfl (j := 1) rfl ?_
      refine ax_iald B d_V_holds_45 (t := 0) (by decide) rfl hf (fun x3 hf => ?_)
      refine ax_i2l B d_V_holds_46 ?_
      exact ax_lreturn B hE d_V_holds_47 hf hag (by decide) (by decide)
    · refine ax_aload_n B d_V_holds_48 rfl (j := 0) rfl ?_
      refine ax_getR B d_V_holds_49 k_V_13 rfl hf (fun x4 hf => ?_)
      refine ax_iload_n B d_V_holds_52 rfl (j := 1) rfl ?_
      refine ax_lald B d_V_holds_53 (t := 1) (by decide) rfl hf (fun x5 hf => ?_)
      exact ax_lreturn B hE d_V_holds_54 hf hag (by decide) (by decide)
    · refine ax_aload_n B d_V_holds_55 rfl (j := 0) rfl ?_
      refine ax_getR B d_V_holds_56 k_V_17 rfl hf (fun x6 hf => ?_)
      refine ax_iload_n B d_V_holds_59 rfl (j := 1) rfl ?_
      refine ax_lald B d_V_holds_60 (t := 1) (by decide) rfl hf (fun x7 hf => ?_)
      exact ax_lreturn B hE d_V_holds_61 hf hag (by decide) (by decide)
    · refine ax_ldc2 B (v := (-2)) n_V_60 d_V_holds_62 ?_
      exact ax_lreturn B hE d_V_holds_65 hf hag (by decide) (by decide)
  · refine ax_ldc2 B (v := (-1)) n_V_58 d_V_holds_8 ?_
    exact ax_lreturn B hE d_V_holds_11 hf hag (by decide) (by decide)
def f_V_pot (M : ax_M) (x0 : Option Nat) : Option (Int64 × ax_M) := (ax_gl M 0 1 x0).bind (fun x1 => some (x1, M))
set_option maxRecDepth 100000 in
set_option maxHeartbeats 4000000 in
theorem c_V_pot (l : Launch) (G : ax_G) (M : ax_M) (x0 : Option Nat) {q : Int64 × ax_M} (hf : f_V_pot M x0 = some q) : ax_C l G y_V_pot b_V_pot 1 (some .long) [] 0 0 0 [ax_O x0] M (some (ax_L q.1)) q.2 := by
  refine ax_ofW (by decide +kernel) (lv0 := [(0, ax_O x0)]) (Nat.le_of_ble_eq_true rfl) rfl ?_
  intro Z ad B hin _ _ hn hR hE
  have hag : ∀ a, a ∉ ([] : List Nat) → ad a = ad a := fun _ _ => rfl
  unfold f_V_pot at hf
  refine ax_aload_n B d_V_pot_0 rfl (j := 0) rfl ?_
  refine ax_getL B d_V_pot_1 k_V_62 rfl hf (fun x1 hf => ?_)
  exact ax_lreturn B hE d_V_pot_4 hf hag (by decide) (by decide)
def G_V_endQuestions_45 (rec2 : ax_M → Option Nat → Int32 → Option (ax_M)) (M : ax_M) (v0 : Option Nat) (v1 : Int32) : Option (ax_M) := (some (v1 + 1)).bind (fun y1 => rec2 M v0 y1)
set_option maxRecDepth 100000 in
set_option maxHeartbeats 4000000 in
theorem K_V_endQuestions_45 {Z : ax_Z} {ad0 ad : Nat → Nat} {q : ax_M} (B : ax_B Z "VoteAuctions" b_V_endQuestions none) (hn : Z.2.2.2.2.2.2.2.2.2.2.2.1 = 3) (hR : ax_R Z 1 0 0) (hE : ax_E Z ad0 [] 0 0 none q) (hag : ∀ a, a ∉ ([] : List Nat) → ad a = ad0 a) {rec2 : ax_M → Option Nat → Int32 → Option (ax_M)} (hr2 : ∀ (M : ax_M) (v0 : Option Nat) (v1 : Int32), rec2 M v0 v1 = some q → ax_W Z ad 0 0 2 [(0, ax_O v0), (1, ax_I v1)] [] M) : ∀ (M : ax_M) (v0 : Option Nat) (v1 : Int32), G_V_endQuestions_45 rec2 M v0 v1 = some q → ax_W Z ad 0 0 45 [(0, ax_O v0), (1, ax_I v1)] [] M := by
  intro M v0 v1 hf
  unfold G_V_endQuestions_45 at hf
  refine ax_iincN B (j := 1) (lv' := fun y => [(1, ax_I y), (0, ax_O v0)]) d_V_endQuestions_45 rfl hf rfl (by rw [hn]; decide) (fun _ => rfl) (fun y1 hf => ?_)
  refine ax_goto B (tgt := 2) d_V_endQuestions_48 (by decide) ?_
  refine ax_sub [1, 0] rfl ?_
  exact hr2 M v0 y1 hf
def G_V_endQuestions_2 (rec2 : ax_M → Option Nat → Int32 → Option (ax_M)) (M : ax_M) (v0 : Option Nat) (v1 : Int32) : Option (ax_M) := if 6 ≤ v1 then some M else (ax_gr M 0 8 v0).bind (fun x1 => (ax_rr M 3 x1 v1).bind (fun x2 => if x2 = none then G_V_endQuestions_45 rec2 M v0 v1 else (ax_gi M 1 3 x2).bind (fun x3 => (ax_gi M 0 0 v0).bind (fun x4 => if x3 = x4 then (ax_gr M 0 6 v0).bind (fun x5 => (ax_gr M 1 9 x2).bind (fun x6 => (ax_cp M 0 x5 0 x6 0 8).bind (fun M7 => G_V_endQuestions_45 rec2 M7 v0 v1))) else G_V_endQuestions_45 rec2 M v0 v1))))
set_option maxRecDepth 100000 in
set_option maxHeartbeats 4000000 in
theorem K_V_endQuestions_2 {Z : ax_Z} {ad0 ad : Nat → Nat} {q : ax_M} (B : ax_B Z "VoteAuctions" b_V_endQuestions none) (hn : Z.2.2.2.2.2.2.2.2.2.2.2.1 = 3) (hR : ax_R Z 1 0 0) (hE : ax_E Z ad0 [] 0 0 none q) (hag : ∀ a, a ∉ ([] : List Nat) → ad a = ad0 a) {rec2 : ax_M → Option Nat → Int32 → Option (ax_M)} (hr2 : ∀ (M : ax_M) (v0 : Option Nat) (v1 : Int32), rec2 M v0 v1 = some q → ax_W Z ad 0 0 2 [(0, ax_O v0), (1, ax_I v1)] [] M) : ∀ (M : ax_M) (v0 : Option Nat) (v1 : Int32), G_V_endQuestions_2 rec2 M v0 v1 = some q → ax_W Z ad 0 0 2 [(0, ax_O v0), (1, ax_I v1)] [] M := by
  intro M v0 v1 hf
  unfold G_V_endQuestions_2 at hf
  refine ax_iload_n B d_V_endQuestions_2 rfl (j := 1) rfl ?_
  refine ax_bipush B (v := 6) (by decide) d_V_endQuestions_3 ?_
  refine ax_icmp_ge B (tgt := 51) d_V_endQuestions_5 (by decide) hf (fun hf => ?_) (fun hf => ?_)
  · exact ax_vreturn B hE d_V_endQuestions_51 hf hag (by decide) (by decide)
  · refine ax_aload_n B d_V_endQuestions_8 rfl (j := 0) rfl ?_
    refine ax_getR B d_V_endQuestions_9 k_V_25 rfl hf (fun x1 hf => ?_)
    refine ax_iload_n B d_V_endQuestions_12 rfl (j := 1) rfl ?_
    refine ax_aald B d_V_endQuestions_13 (t := 3) (C := "VoteAuctions$Question") (by decide) rfl hf (fun x2 hf => ?_)
    refine ax_astore_n B (lv' := [(2, ax_O x2), (0, ax_O v0), (1, ax_I v1)]) d_V_endQuestions_14 rfl (by rw [hn]; decide) rfl ?_
    refine ax_aload_n B d_V_endQuestions_15 rfl (j := 0) rfl ?_
    refine ax_ifnull B (tgt := 45) d_V_endQuestions_16 (by decide) hf (fun hf => ?_) (fun hf => ?_)
    · refine ax_sub [1, 2] rfl ?_
      exact K_V_endQuestions_45 B hn hR hE hag hr2 M v0 v1 hf
    · refine ax_aload_n B d_V_endQuestions_19 rfl (j := 0) rfl ?_
      refine ax_getI B d_V_endQuestions_20 k_V_105 rfl hf (fun x3 hf => ?_)
      refine ax_aload_n B d_V_endQuestions_23 rfl (j := 1) rfl ?_
      refine ax_getI B d_V_endQuestions_24 k_V_66 rfl hf (fun x4 hf => ?_)
      refine ax_icmp_ne B (tgt := 45) d_V_endQuestions_27 (by decide) hf (fun hf => ?_) (fun hf => ?_)
      · refine ax_aload_n B d_V_endQuestions_30 rfl (j := 1) rfl ?_
        refine ax_getR B d_V_endQuestions_31 k_V_20 rfl hf (fun x5 hf => ?_)
        refine ax_iconst B (v := 0) (by decide) d_V_endQuestions_34 ?_
        refine ax_aload_n B d_V_endQuestions_35 rfl (j := 0) rfl ?_
        refine ax_getR B d_V_endQuestions_36 k_V_260 rfl hf (fun x6 hf => ?_)
        refine ax_iconst B (v := 0) (by decide) d_V_endQuestions_39 ?_
        refine ax_bipush B (v := 8) (by decide) d_V_endQuestions_40 ?_
        refine ax_copy B hR d_V_endQuestions_42 l_V_86 (by decide) (Nat.le_of_ble_eq_true rfl) hf (fun M7 hf => ?_)
        refine ax_sub [1, 2] rfl ?_
        exact K_V_endQuestions_45 B hn hR hE hag hr2 M7 v0 v1 hf
      · refine ax_sub [1, 2] rfl ?_
        exact K_V_endQuestions_45 B hn hR hE hag hr2 M v0 v1 hf
def F_V_endQuestions_2  : Nat → ax_M → Option Nat → Int32 → Option (ax_M)
  | 0 => fun _ _ _ => none
  | n + 1 => G_V_endQuestions_2 (F_V_endQuestions_2  n)
set_option maxRecDepth 100000 in
set_option maxHeartbeats 4000000 in
theorem L_V_endQuestions_2 {Z : ax_Z} {ad0 ad : Nat → Nat} {q : ax_M} (B : ax_B Z "VoteAuctions" b_V_endQuestions none) (hn : Z.2.2.2.2.2.2.2.2.2.2.2.1 = 3) (hR : ax_R Z 1 0 0) (hE : ax_E Z ad0 [] 0 0 none q) (hag : ∀ a, a ∉ ([] : List Nat) → ad a = ad0 a)   : ∀ (n : Nat) (M : ax_M) (v0 : Option Nat) (v1 : Int32), F_V_endQuestions_2  n M v0 v1 = some q → ax_W Z ad 0 0 2 [(0, ax_O v0), (1, ax_I v1)] [] M := by
  intro n
  induction n with
  | zero => intro M v0 v1 hf; cases hf
  | succ n ih => exact K_V_endQuestions_2 B hn hR hE hag ih
def f_V_endQuestions (M : ax_M) (x0 : Option Nat) : Option (ax_M) := F_V_endQuestions_2 64 M x0 0
set_option maxRecDepth 100000 in
set_option maxHeartbeats 4000000 in
theorem c_V_endQuestions (l : Launch) (G : ax_G) (M : ax_M) (x0 : Option Nat) {q : ax_M} (hf : f_V_endQuestions M x0 = some q) : ax_C l G y_V_endQuestions b_V_endQuestions 3 none [] 1 0 0 [ax_O x0] M none q := by
  refine ax_ofW (by decide +kernel) (lv0 := [(0, ax_O x0)]) (Nat.le_of_ble_eq_true rfl) rfl ?_
  intro Z ad B hin _ _ hn hR hE
  have hag : ∀ a, a ∉ ([] : List Nat) → ad a = ad a := fun _ _ => rfl
  unfold f_V_endQuestions at hf
  refine ax_iconst B (v := 0) (by decide) d_V_endQuestions_0 ?_
  refine ax_istore_n B (lv' := [(1, ax_I 0), (0, ax_O x0)]) d_V_endQuestions_1 rfl (by rw [hn]; decide) rfl ?_
  refine ax_sub [1, 0] rfl ?_
  exact L_V_endQuestions_2 B hn hR hE hag 64 M x0 0 hf
def G_A_isSealed_16  (M : ax_M) (s0 : Int32) : Option (Int32 × ax_M) := (ax_bo s0).bind (fun _ => some (s0, M))
set_option maxRecDepth 100000 in
set_option maxHeartbeats 4000000 in
theorem K_A_isSealed_16 {Z : ax_Z} {ad0 ad : Nat → Nat} {q : Int32 × ax_M} (B : ax_B Z "VoteAuctions$Auction" b_A_isSealed (some .boolean)) (hn : Z.2.2.2.2.2.2.2.2.2.2.2.1 = 1) (hR : ax_R Z 0 0 0) (hE : ax_E Z ad0 [] 0 0 (some (ax_I q.1)) q.2) (hag : ∀ a, a ∉ ([] : List Nat) → ad a = ad0 a)   : ∀ (M : ax_M) (s0 : Int32), G_A_isSealed_16  M s0 = some q → ax_W Z ad 0 0 16 [] [ax_I s0] M := by
  intro M s0 hf
  unfold G_A_isSealed_16 at hf
  obtain ⟨_, hb, hf⟩ := ax_bd hf
  exact ax_ireturn B hE d_A_isSealed_16 hf (ax_bo_n hb) hag (by decide) (by decide)
def f_A_isSealed (M : ax_M) (x0 : Option Nat) : Option (Int32 × ax_M) := (ax_gi M 2 5 x0).bind (fun x1 => (ax_gi M 2 4 x0).bind (fun x2 => if x1 ≤ x2 then G_A_isSealed_16 M 0 else G_A_isSealed_16 M 1))
set_option maxRecDepth 100000 in
set_option maxHeartbeats 4000000 in
theorem c_A_isSealed (l : Launch) (G : ax_G) (M : ax_M) (x0 : Option Nat) {q : Int32 × ax_M} (hf : f_A_isSealed M x0 = some q) : ax_C l G y_A_isSealed b_A_isSealed 1 (some .boolean) [] 0 0 0 [ax_O x0] M (some (ax_I q.1)) q.2 := by
  refine ax_ofW (by decide +kernel) (lv0 := [(0, ax_O x0)]) (Nat.le_of_ble_eq_true rfl) rfl ?_
  intro Z ad B hin _ _ hn hR hE
  have hag : ∀ a, a ∉ ([] : List Nat) → ad a = ad a := fun _ _ => rfl
  unfold f_A_isSealed at hf
  refine ax_aload_n B d_A_isSealed_0 rfl (j := 0) rfl ?_
  refine ax_getI B d_A_isSealed_1 k_A_27 rfl hf (fun x1 hf => ?_)
  refine ax_aload_n B d_A_isSealed_4 rfl (j := 0) rfl ?_
  refine ax_getI B d_A_isSealed_5 k_A_24 rfl hf (fun x2 hf => ?_)
  refine ax_icmp_le B (tgt := 15) d_A_isSealed_8 (by decide) hf (fun hf => ?_) (fun hf => ?_)
  · refine ax_iconst B (v := 0) (by decide) d_A_isSealed_15 ?_
    refine ax_sub [] rfl ?_
    exact K_A_isSealed_16 B hn hR hE hag M 0 hf
  · refine ax_iconst B (v := 1) (by decide) d_A_isSealed_11 ?_
    refine ax_goto B (tgt := 16) d_A_isSealed_12 (by decide) ?_
    refine ax_sub [] rfl ?_
    exact K_A_isSealed_16 B hn hR hE hag M 1 hf
def f_V_payAside (M : ax_M) (x0 : Option Nat) (p0 : Int32) (p1 : Int64) : Option (ax_M) := (ax_gr M 0 5 x0).bind (fun x1 => (ax_rl M 1 x1 p0).bind (fun x2 => (ax_tl M 1 x1 p0 (x2 - p1)).bind (fun M3 => (ax_gl M3 0 1 x0).bind (fun x4 => (ax_pl M3 0 1 x0 (x4 + p1)).bind (fun M5 => some M5)))))
set_option maxRecDepth 100000 in
set_option maxHeartbeats 4000000 in
theorem c_V_payAside (l : Launch) (G : ax_G) (M : ax_M) (x0 : Option Nat) (p0 : Int32) (p1 : Int64) {q : ax_M} (hf : f_V_payAside M x0 p0 p1 = some q) : ax_C l G y_V_payAside b_V_payAside 4 none [] 0 0 0 [ax_O x0, ax_I p0, ax_L p1] M none q := by
  refine ax_ofW (by decide +kernel) (lv0 := [(0, ax_O x0), (1, ax_I p0), (2, ax_L p1)]) (Nat.le_of_ble_eq_true rfl) rfl ?_
  intro Z ad B hin _ _ hn hR hE
  have hag : ∀ a, a ∉ ([] : List Nat) → ad a = ad a := fun _ _ => rfl
  unfold f_V_payAside at hf
  refine ax_aload_n B d_V_payAside_0 rfl (j := 0) rfl ?_
  refine ax_getR B d_V_payAside_1 k_V_17 rfl hf (fun x1 hf => ?_)
  refine ax_iload_n B d_V_payAside_4 rfl (j := 1) rfl ?_
  refine ax_dup2_11 B rfl rfl d_V_payAside_5 ?_
  refine ax_lald B d_V_payAside_6 (t := 1) (by decide) rfl hf (fun x2 hf => ?_)
  refine ax_lload_n B d_V_payAside_7 rfl (j := 2) rfl ?_
  refine ax_lsub B d_V_payAside_8 ?_
  refine ax_last B d_V_payAside_9 (t := 1) (by decide) rfl hf (fun M3 hf => ?_)
  refine ax_aload_n B d_V_payAside_10 rfl (j := 0) rfl ?_
  refine ax_dup B rfl d_V_payAside_11 ?_
  refine ax_getL B d_V_payAside_12 k_V_62 rfl hf (fun x4 hf => ?_)
  refine ax_lload_n B d_V_payAside_15 rfl (j := 2) rfl ?_
  refine ax_ladd B d_V_payAside_16 ?_
  refine ax_putL B d_V_payAside_17 k_V_62 rfl rfl hf (fun M5 hf => ?_)
  exact ax_vreturn B hE d_V_payAside_20 hf hag (by decide) (by decide)
def G_V_payUnopened_36 (rec2 : ax_M → Option Nat → Option Nat → Int32 → Option (ax_M)) (M : ax_M) (v0 : Option Nat) (v1 : Option Nat) (v2 : Int32) : Option (ax_M) := (some (v2 + 1)).bind (fun y1 => rec2 M v0 v1 y1)
set_option maxRecDepth 100000 in
set_option maxHeartbeats 4000000 in
theorem K_V_payUnopened_36 {Z : ax_Z} {ad0 ad : Nat → Nat} {q : ax_M} (B : ax_B Z "VoteAuctions" b_V_payUnopened none) (hn : Z.2.2.2.2.2.2.2.2.2.2.2.1 = 3) (hR : ax_R Z 1 0 0) (hE : ax_E Z ad0 [] 0 0 none q) (hag : ∀ a, a ∉ ([] : List Nat) → ad a = ad0 a) {rec2 : ax_M → Option Nat → Option Nat → Int32 → Option (ax_M)} (hr2 : ∀ (M : ax_M) (v0 : Option Nat) (v1 : Option Nat) (v2 : Int32), rec2 M v0 v1 v2 = some q → ax_W Z ad 0 0 2 [(0, ax_O v0), (1, ax_O v1), (2, ax_I v2)] [] M) : ∀ (M : ax_M) (v0 : Option Nat) (v1 : Option Nat) (v2 : Int32), G_V_payUnopened_36 rec2 M v0 v1 v2 = some q → ax_W Z ad 0 0 36 [(0, ax_O v0), (1, ax_O v1), (2, ax_I v2)] [] M := by
  intro M v0 v1 v2 hf
  unfold G_V_payUnopened_36 at hf
  refine ax_iincN B (j := 2) (lv' := fun y => [(2, ax_I y), (0, ax_O v0), (1, ax_O v1)]) d_V_payUnopened_36 rfl hf rfl (by rw [hn]; decide) (fun _ => rfl) (fun y1 hf => ?_)
  refine ax_goto B (tgt := 2) d_V_payUnopened_39 (by decide) ?_
  refine ax_sub [1, 2, 0] rfl ?_
  exact hr2 M v0 v1 y1 hf
def G_V_payUnopened_2 (rec2 : ax_M → Option Nat → Option Nat → Int32 → Option (ax_M)) (M : ax_M) (v0 : Option Nat) (v1 : Option Nat) (v2 : Int32) : Option (ax_M) := if 8 ≤ v2 then some M else (ax_gr M 2 6 v1).bind (fun x1 => (ax_ri M 0 x1 v2).bind (fun x2 => if x2 = 0 then G_V_payUnopened_36 rec2 M v0 v1 v2 else (ax_gr M 2 9 v1).bind (fun x3 => (ax_ri M 0 x3 v2).bind (fun x4 => if x4 = 0 then (ax_gi M 2 2 v1).bind (fun x5 => (ax_ob M 0 v0).bind (fun _ => (f_V_payAside M v0 v2 (x5.toInt64)).bind (fun q6 => G_V_payUnopened_36 rec2 q6 v0 v1 v2))) else G_V_payUnopened_36 rec2 M v0 v1 v2))))
set_option maxRecDepth 100000 in
set_option maxHeartbeats 4000000 in
theorem K_V_payUnopened_2 {Z : ax_Z} {ad0 ad : Nat → Nat} {q : ax_M} (B : ax_B Z "VoteAuctions" b_V_payUnopened none) (hn : Z.2.2.2.2.2.2.2.2.2.2.2.1 = 3) (hR : ax_R Z 1 0 0) (hE : ax_E Z ad0 [] 0 0 none q) (hag : ∀ a, a ∉ ([] : List Nat) → ad a = ad0 a) {rec2 : ax_M → Option Nat → Option Nat → Int32 → Option (ax_M)} (hr2 : ∀ (M : ax_M) (v0 : Option Nat) (v1 : Option Nat) (v2 : Int32), rec2 M v0 v1 v2 = some q → ax_W Z ad 0 0 2 [(0, ax_O v0), (1, ax_O v1), (2, ax_I v2)] [] M) : ∀ (M : ax_M) (v0 : Option Nat) (v1 : Option Nat) (v2 : Int32), G_V_payUnopened_2 rec2 M v0 v1 v2 = some q → ax_W Z ad 0 0 2 [(0, ax_O v0), (1, ax_O v1), (2, ax_I v2)] [] M := by
  intro M v0 v1 v2 hf
  unfold G_V_payUnopened_2 at hf
  refine ax_iload_n B d_V_payUnopened_2 rfl (j := 2) rfl ?_
  refine ax_bipush B (v := 8) (by decide) d_V_payUnopened_3 ?_
  refine ax_icmp_ge B (tgt := 42) d_V_payUnopened_5 (by decide) hf (fun hf => ?_) (fun hf => ?_)
  · exact ax_vreturn B hE d_V_payUnopened_42 hf hag (by decide) (by decide)
  · refine ax_aload_n B d_V_payUnopened_8 rfl (j := 1) rfl ?_
    refine ax_getR B d_V_payUnopened_9 k_V_208 rfl hf (fun x1 hf => ?_)
    refine ax_iload_n B d_V_payUnopened_12 rfl (j := 2) rfl ?_
    refine ax_iald B d_V_payUnopened_13 (t := 0) (by decide) rfl hf (fun x2 hf => ?_)
    refine ax_if_eq B (tgt := 36) d_V_payUnopened_14 (by decide) hf (fun hf => ?_) (fun hf => ?_)
    · exact K_V_payUnopened_36 B hn hR hE hag hr2 M v0 v1 v2 hf
    · refine ax_aload_n B d_V_payUnopened_17 rfl (j := 1) rfl ?_
      refine ax_getR B d_V_payUnopened_18 k_V_201 rfl hf (fun x3 hf => ?_)
      refine ax_iload_n B d_V_payUnopened_21 rfl (j := 2) rfl ?_
      refine ax_iald B d_V_payUnopened_22 (t := 0) (by decide) rfl hf (fun x4 hf => ?_)
      refine ax_if_ne B (tgt := 36) d_V_payUnopened_23 (by decide) hf (fun hf => ?_) (fun hf => ?_)
      · refine ax_aload_n B d_V_payUnopened_26 rfl (j := 0) rfl ?_
        refine ax_iload_n B d_V_payUnopened_27 rfl (j := 2) rfl ?_
        refine ax_aload_n B d_V_payUnopened_28 rfl (j := 1) rfl ?_
        refine ax_getI B d_V_payUnopened_29 k_V_171 rfl hf (fun x5 hf => ?_)
        refine ax_i2l B d_V_payUnopened_32 ?_
        refine ax_cVN B hR (as := [ax_I v2, ax_L (x5.toInt64)]) (N := fun q => q) d_V_payUnopened_33 l_V_223 m_V_payAside hf (fun q h => c_V_payAside _ _ _ _ _ _ h) rfl rfl (by decide) (by decide) (by decide) (by decide) (Nat.le_of_ble_eq_true rfl) (fun q6 hf => ?_)
        exact K_V_payUnopened_36 B hn hR hE hag hr2 q6 v0 v1 v2 hf
      · exact K_V_payUnopened_36 B hn hR hE hag hr2 M v0 v1 v2 hf
def F_V_payUnopened_2  : Nat → ax_M → Option Nat → Option Nat → Int32 → Option (ax_M)
  | 0 => fun _ _ _ _ => none
  | n + 1 => G_V_payUnopened_2 (F_V_payUnopened_2  n)
set_option maxRecDepth 100000 in
set_option maxHeartbeats 4000000 in
theorem L_V_payUnopened_2 {Z : ax_Z} {ad0 ad : Nat → Nat} {q : ax_M} (B : ax_B Z "VoteAuctions" b_V_payUnopened none) (hn : Z.2.2.2.2.2.2.2.2.2.2.2.1 = 3) (hR : ax_R Z 1 0 0) (hE : ax_E Z ad0 [] 0 0 none q) (hag : ∀ a, a ∉ ([] : List Nat) → ad a = ad0 a)   : ∀ (n : Nat) (M : ax_M) (v0 : Option Nat) (v1 : Option Nat) (v2 : Int32), F_V_payUnopened_2  n M v0 v1 v2 = some q → ax_W Z ad 0 0 2 [(0, ax_O v0), (1, ax_O v1), (2, ax_I v2)] [] M := by
  intro n
  induction n with
  | zero => intro M v0 v1 v2 hf; cases hf
  | succ n ih => exact K_V_payUnopened_2 B hn hR hE hag ih
def f_V_payUnopened (M : ax_M) (x0 : Option Nat) (p0 : Option Nat) : Option (ax_M) := F_V_payUnopened_2 64 M x0 p0 0
set_option maxRecDepth 100000 in
set_option maxHeartbeats 4000000 in
theorem c_V_payUnopened (l : Launch) (G : ax_G) (M : ax_M) (x0 : Option Nat) (p0 : Option Nat) {q : ax_M} (hf : f_V_payUnopened M x0 p0 = some q) : ax_C l G y_V_payUnopened b_V_payUnopened 3 none [] 1 0 0 [ax_O x0, ax_O p0] M none q := by
  refine ax_ofW (by decide +kernel) (lv0 := [(0, ax_O x0), (1, ax_O p0)]) (Nat.le_of_ble_eq_true rfl) rfl ?_
  intro Z ad B hin _ _ hn hR hE
  have hag : ∀ a, a ∉ ([] : List Nat) → ad a = ad a := fun _ _ => rfl
  unfold f_V_payUnopened at hf
  refine ax_iconst B (v := 0) (by decide) d_V_payUnopened_0 ?_
  refine ax_istore_n B (lv' := [(2, ax_I 0), (0, ax_O x0), (1, ax_O p0)]) d_V_payUnopened_1 rfl (by rw [hn]; decide) rfl ?_
  refine ax_sub [1, 2, 0] rfl ?_
  exact L_V_payUnopened_2 B hn hR hE hag 64 M x0 p0 0 hf
def G_A_isAhead_50  (M : ax_M) (s0 : Int32) : Option (Int32 × ax_M) := (ax_bo s0).bind (fun _ => some (s0, M))
set_option maxRecDepth 100000 in
set_option maxHeartbeats 4000000 in
theorem K_A_isAhead_50 {Z : ax_Z} {ad0 ad : Nat → Nat} {q : Int32 × ax_M} (B : ax_B Z "VoteAuctions$Auction" b_A_isAhead (some .boolean)) (hn : Z.2.2.2.2.2.2.2.2.2.2.2.1 = 3) (hR : ax_R Z 0 0 0) (hE : ax_E Z ad0 [] 0 0 (some (ax_I q.1)) q.2) (hag : ∀ a, a ∉ ([] : List Nat) → ad a = ad0 a)   : ∀ (M : ax_M) (s0 : Int32), G_A_isAhead_50  M s0 = some q → ax_W Z ad 0 0 50 [] [ax_I s0] M := by
  intro M s0 hf
  unfold G_A_isAhead_50 at hf
  obtain ⟨_, hb, hf⟩ := ax_bd hf
  exact ax_ireturn B hE d_A_isAhead_50 hf (ax_bo_n hb) hag (by decide) (by decide)
def G_A_isAhead_45  (M : ax_M)  : Option (Int32 × ax_M) := G_A_isAhead_50 M 1
set_option maxRecDepth 100000 in
set_option maxHeartbeats 4000000 in
theorem K_A_isAhead_45 {Z : ax_Z} {ad0 ad : Nat → Nat} {q : Int32 × ax_M} (B : ax_B Z "VoteAuctions$Auction" b_A_isAhead (some .boolean)) (hn : Z.2.2.2.2.2.2.2.2.2.2.2.1 = 3) (hR : ax_R Z 0 0 0) (hE : ax_E Z ad0 [] 0 0 (some (ax_I q.1)) q.2) (hag : ∀ a, a ∉ ([] : List Nat) → ad a = ad0 a)   : ∀ (M : ax_M) , G_A_isAhead_45  M  = some q → ax_W Z ad 0 0 45 [] [] M := by
  intro M  hf
  unfold G_A_isAhead_45 at hf
  refine ax_iconst B (v := 1) (by decide) d_A_isAhead_45 ?_
  refine ax_goto B (tgt := 50) d_A_isAhead_46 (by decide) ?_
  exact K_A_isAhead_50 B hn hR hE hag M 1 hf
def G_A_isAhead_49  (M : ax_M)  : Option (Int32 × ax_M) := G_A_isAhead_50 M 0
set_option maxRecDepth 100000 in
set_option maxHeartbeats 4000000 in
theorem K_A_isAhead_49 {Z : ax_Z} {ad0 ad : Nat → Nat} {q : Int32 × ax_M} (B : ax_B Z "VoteAuctions$Auction" b_A_isAhead (some .boolean)) (hn : Z.2.2.2.2.2.2.2.2.2.2.2.1 = 3) (hR : ax_R Z 0 0 0) (hE : ax_E Z ad0 [] 0 0 (some (ax_I q.1)) q.2) (hag : ∀ a, a ∉ ([] : List Nat) → ad a = ad0 a)   : ∀ (M : ax_M) , G_A_isAhead_49  M  = some q → ax_W Z ad 0 0 49 [] [] M := by
  intro M  hf
  unfold G_A_isAhead_49 at hf
  refine ax_iconst B (v := 0) (by decide) d_A_isAhead_49 ?_
  exact K_A_isAhead_50 B hn hR hE hag M 0 hf
def f_A_isAhead (M : ax_M) (x0 : Option Nat) (p0 : Int32) (p1 : Int32) : Option (Int32 × ax_M) := (ax_gr M 2 9 x0).bind (fun x1 => (ax_ri M 0 x1 p0).bind (fun x2 => (ax_gr M 2 9 x0).bind (fun x3 => (ax_ri M 0 x3 p1).bind (fun x4 => if x4 < x2 then G_A_isAhead_45 M else (ax_gr M 2 9 x0).bind (fun x5 => (ax_ri M 0 x5 p0).bind (fun x6 => (ax_gr M 2 9 x0).bind (fun x7 => (ax_ri M 0 x7 p1).bind (fun x8 => if x6 = x8 then (ax_gr M 2 6 x0).bind (fun x9 => (ax_ri M 0 x9 p0).bind (fun x10 => (ax_gr M 2 6 x0).bind (fun x11 => (ax_ri M 0 x11 p1).bind (fun x12 => if x12 ≤ x10 then G_A_isAhead_49 M else G_A_isAhead_45 M)))) else G_A_isAhead_49 M))))))))
set_option maxRecDepth 100000 in
set_option maxHeartbeats 4000000 in
theorem c_A_isAhead (l : Launch) (G : ax_G) (M : ax_M) (x0 : Option Nat) (p0 : Int32) (p1 : Int32) {q : Int32 × ax_M} (hf : f_A_isAhead M x0 p0 p1 = some q) : ax_C l G y_A_isAhead b_A_isAhead 3 (some .boolean) [] 0 0 0 [ax_O x0, ax_I p0, ax_I p1] M (some (ax_I q.1)) q.2 := by
  refine ax_ofW (by decide +kernel) (lv0 := [(0, ax_O x0), (1, ax_I p0), (2, ax_I p1)]) (Nat.le_of_ble_eq_true rfl) rfl ?_
  intro Z ad B hin _ _ hn hR hE
  have hag : ∀ a, a ∉ ([] : List Nat) → ad a = ad a := fun _ _ => rfl
  unfold f_A_isAhead at hf
  refine ax_aload_n B d_A_isAhead_0 rfl (j := 0) rfl ?_
  refine ax_getR B d_A_isAhead_1 k_A_41 rfl hf (fun x1 hf => ?_)
  refine ax_iload_n B d_A_isAhead_4 rfl (j := 1) rfl ?_
  refine ax_iald B d_A_isAhead_5 (t := 0) (by decide) rfl hf (fun x2 hf => ?_)
  refine ax_aload_n B d_A_isAhead_6 rfl (j := 0) rfl ?_
  refine ax_getR B d_A_isAhead_7 k_A_41 rfl hf (fun x3 hf => ?_)
  refine ax_iload_n B d_A_isAhead_10 rfl (j := 2) rfl ?_
  refine ax_iald B d_A_isAhead_11 (t := 0) (by decide) rfl hf (fun x4 hf => ?_)
  refine ax_icmp_gt B (tgt := 45) d_A_isAhead_12 (by decide) hf (fun hf => ?_) (fun hf => ?_)
  · refine ax_sub [] rfl ?_
    exact K_A_isAhead_45 B hn hR hE hag M hf
  · refine ax_aload_n B d_A_isAhead_15 rfl (j := 0) rfl ?_
    refine ax_getR B d_A_isAhead_16 k_A_41 rfl hf (fun x5 hf => ?_)
    refine ax_iload_n B d_A_isAhead_19 rfl (j := 1) rfl ?_
    refine ax_iald B d_A_isAhead_20 (t := 0) (by decide) rfl hf (fun x6 hf => ?_)
    refine ax_aload_n B d_A_isAhead_21 rfl (j := 0) rfl ?_
    refine ax_getR B d_A_isAhead_22 k_A_41 rfl hf (fun x7 hf => ?_)
    refine ax_iload_n B d_A_isAhead_25 rfl (j := 2) rfl ?_
    refine ax_iald B d_A_isAhead_26 (t := 0) (by decide) rfl hf (fun x8 hf => ?_)
    refine ax_icmp_ne B (tgt := 49) d_A_isAhead_27 (by decide) hf (fun hf => ?_) (fun hf => ?_)
    · refine ax_aload_n B d_A_isAhead_30 rfl (j := 0) rfl ?_
      refine ax_getR B d_A_isAhead_31 k_A_30 rfl hf (fun x9 hf => ?_)
      refine ax_iload_n B d_A_isAhead_34 rfl (j := 1) rfl ?_
      refine ax_iald B d_A_isAhead_35 (t := 0) (by decide) rfl hf (fun x10 hf => ?_)
      refine ax_aload_n B d_A_isAhead_36 rfl (j := 0) rfl ?_
      refine ax_getR B d_A_isAhead_37 k_A_30 rfl hf (fun x11 hf => ?_)
      refine ax_iload_n B d_A_isAhead_40 rfl (j := 2) rfl ?_
      refine ax_iald B d_A_isAhead_41 (t := 0) (by decide) rfl hf (fun x12 hf => ?_)
      refine ax_icmp_ge B (tgt := 49) d_A_isAhead_42 (by decide) hf (fun hf => ?_) (fun hf => ?_)
      · refine ax_sub [] rfl ?_
        exact K_A_isAhead_49 B hn hR hE hag M hf
      · refine ax_sub [] rfl ?_
        exact K_A_isAhead_45 B hn hR hE hag M hf
    · refine ax_sub [] rfl ?_
      exact K_A_isAhead_49 B hn hR hE hag M hf
def G_A_bestWithout_44 (rec4 : ax_M → Option Nat → Int32 → Int32 → Option (Int32 × ax_M)) (M : ax_M) (v0 : Option Nat) (v1 : Int32) (v2 : Int32) : Option (Int32 × ax_M) := (some (v2 + 1)).bind (fun y1 => rec4 M v0 v1 y1)
set_option maxRecDepth 100000 in
set_option maxHeartbeats 4000000 in
theorem K_A_bestWithout_44 {Z : ax_Z} {ad0 ad : Nat → Nat} {q : Int32 × ax_M} (B : ax_B Z "VoteAuctions$Auction" b_A_bestWithout (some .int)) (hn : Z.2.2.2.2.2.2.2.2.2.2.2.1 = 3) (hR : ax_R Z 1 0 0) (hE : ax_E Z ad0 [] 0 0 (some (ax_I q.1)) q.2) (hag : ∀ a, a ∉ ([] : List Nat) → ad a = ad0 a) {rec4 : ax_M → Option Nat → Int32 → Int32 → Option (Int32 × ax_M)} (hr4 : ∀ (M : ax_M) (v0 : Option Nat) (v1 : Int32) (v2 : Int32), rec4 M v0 v1 v2 = some q → ax_W Z ad 0 0 4 [(0, ax_O v0), (1, ax_I v1), (2, ax_I v2)] [] M) : ∀ (M : ax_M) (v0 : Option Nat) (v1 : Int32) (v2 : Int32), G_A_bestWithout_44 rec4 M v0 v1 v2 = some q → ax_W Z ad 0 0 44 [(0, ax_O v0), (1, ax_I v1), (2, ax_I v2)] [] M := by
  intro M v0 v1 v2 hf
  unfold G_A_bestWithout_44 at hf
  refine ax_iincN B (j := 2) (lv' := fun y => [(2, ax_I y), (0, ax_O v0), (1, ax_I v1)]) d_A_bestWithout_44 rfl hf rfl (by rw [hn]; decide) (fun _ => rfl) (fun y1 hf => ?_)
  refine ax_goto B (tgt := 4) d_A_bestWithout_47 (by decide) ?_
  refine ax_sub [1, 2, 0] rfl ?_
  exact hr4 M v0 v1 y1 hf
def G_A_bestWithout_42 (rec4 : ax_M → Option Nat → Int32 → Int32 → Option (Int32 × ax_M)) (M : ax_M) (v0 : Option Nat) (v2 : Int32) : Option (Int32 × ax_M) := G_A_bestWithout_44 rec4 M v0 v2 v2
set_option maxRecDepth 100000 in
set_option maxHeartbeats 4000000 in
theorem K_A_bestWithout_42 {Z : ax_Z} {ad0 ad : Nat → Nat} {q : Int32 × ax_M} (B : ax_B Z "VoteAuctions$Auction" b_A_bestWithout (some .int)) (hn : Z.2.2.2.2.2.2.2.2.2.2.2.1 = 3) (hR : ax_R Z 1 0 0) (hE : ax_E Z ad0 [] 0 0 (some (ax_I q.1)) q.2) (hag : ∀ a, a ∉ ([] : List Nat) → ad a = ad0 a) {rec4 : ax_M → Option Nat → Int32 → Int32 → Option (Int32 × ax_M)} (hr4 : ∀ (M : ax_M) (v0 : Option Nat) (v1 : Int32) (v2 : Int32), rec4 M v0 v1 v2 = some q → ax_W Z ad 0 0 4 [(0, ax_O v0), (1, ax_I v1), (2, ax_I v2)] [] M) : ∀ (M : ax_M) (v0 : Option Nat) (v2 : Int32), G_A_bestWithout_42 rec4 M v0 v2 = some q → ax_W Z ad 0 0 42 [(0, ax_O v0), (2, ax_I v2)] [] M := by
  intro M v0 v2 hf
  unfold G_A_bestWithout_42 at hf
  refine ax_iload_n B d_A_bestWithout_42 rfl (j := 1) rfl ?_
  refine ax_istore_n B (lv' := [(1, ax_I v2), (0, ax_O v0), (2, ax_I v2)]) d_A_bestWithout_43 rfl (by rw [hn]; decide) rfl ?_
  refine ax_sub [1, 0, 2] rfl ?_
  exact K_A_bestWithout_44 B hn hR hE hag hr4 M v0 v2 v2 hf
def G_A_bestWithout_4 (rec4 : ax_M → Option Nat → Int32 → Int32 → Option (Int32 × ax_M)) (M : ax_M) (v0 : Option Nat) (v1 : Int32) (v2 : Int32) : Option (Int32 × ax_M) := if 8 ≤ v2 then some (v1, M) else (ax_gr M 2 8 v0).bind (fun x1 => (ax_ri M 0 x1 v2).bind (fun x2 => if x2 ≤ 0 then G_A_bestWithout_44 rec4 M v0 v1 v2 else (ax_gr M 2 10 v0).bind (fun x3 => (ax_ri M 0 x3 v2).bind (fun x4 => if x4 = 0 then if v1 = (-1) then G_A_bestWithout_42 rec4 M v0 v2 else (ax_ob M 2 v0).bind (fun _ => (f_A_isAhead M v0 v2 v1).bind (fun q5 => if q5.1 = 0 then G_A_bestWithout_44 rec4 q5.2 v0 v1 v2 else G_A_bestWithout_42 rec4 q5.2 v0 v2)) else G_A_bestWithout_44 rec4 M v0 v1 v2))))
set_option maxRecDepth 100000 in
set_option maxHeartbeats 4000000 in
theorem K_A_bestWithout_4 {Z : ax_Z} {ad0 ad : Nat → Nat} {q : Int32 × ax_M} (B : ax_B Z "VoteAuctions$Auction" b_A_bestWithout (some .int)) (hn : Z.2.2.2.2.2.2.2.2.2.2.2.1 = 3) (hR : ax_R Z 1 0 0) (hE : ax_E Z ad0 [] 0 0 (some (ax_I q.1)) q.2) (hag : ∀ a, a ∉ ([] : List Nat) → ad a = ad0 a) {rec4 : ax_M → Option Nat → Int32 → Int32 → Option (Int32 × ax_M)} (hr4 : ∀ (M : ax_M) (v0 : Option Nat) (v1 : Int32) (v2 : Int32), rec4 M v0 v1 v2 = some q → ax_W Z ad 0 0 4 [(0, ax_O v0), (1, ax_I v1), (2, ax_I v2)] [] M) : ∀ (M : ax_M) (v0 : Option Nat) (v1 : Int32) (v2 : Int32), G_A_bestWithout_4 rec4 M v0 v1 v2 = some q → ax_W Z ad 0 0 4 [(0, ax_O v0), (1, ax_I v1), (2, ax_I v2)] [] M := by
  intro M v0 v1 v2 hf
  unfold G_A_bestWithout_4 at hf
  refine ax_iload_n B d_A_bestWithout_4 rfl (j := 2) rfl ?_
  refine ax_bipush B (v := 8) (by decide) d_A_bestWithout_5 ?_
  refine ax_icmp_ge B (tgt := 50) d_A_bestWithout_7 (by decide) hf (fun hf => ?_) (fun hf => ?_)
  · refine ax_iload_n B d_A_bestWithout_50 rfl (j := 1) rfl ?_
    exact ax_ireturn B hE d_A_bestWithout_51 hf rfl hag (by decide) (by decide)
  · refine ax_aload_n B d_A_bestWithout_10 rfl (j := 0) rfl ?_
    refine ax_getR B d_A_bestWithout_11 k_A_38 rfl hf (fun x1 hf => ?_)
    refine ax_iload_n B d_A_bestWithout_14 rfl (j := 2) rfl ?_
    refine ax_iald B d_A_bestWithout_15 (t := 0) (by decide) rfl hf (fun x2 hf => ?_)
    refine ax_if_le B (tgt := 44) d_A_bestWithout_16 (by decide) hf (fun hf => ?_) (fun hf => ?_)
    · exact K_A_bestWithout_44 B hn hR hE hag hr4 M v0 v1 v2 hf
    · refine ax_aload_n B d_A_bestWithout_19 rfl (j := 0) rfl ?_
      refine ax_getR B d_A_bestWithout_20 k_A_44 rfl hf (fun x3 hf => ?_)
      refine ax_iload_n B d_A_bestWithout_23 rfl (j := 2) rfl ?_
      refine ax_iald B d_A_bestWithout_24 (t := 0) (by decide) rfl hf (fun x4 hf => ?_)
      refine ax_if_ne B (tgt := 44) d_A_bestWithout_25 (by decide) hf (fun hf => ?_) (fun hf => ?_)
      · refine ax_iload_n B d_A_bestWithout_28 rfl (j := 1) rfl ?_
        refine ax_iconst B (v := (-1)) (by decide) d_A_bestWithout_29 ?_
        refine ax_icmp_eq B (tgt := 42) d_A_bestWithout_30 (by decide) hf (fun hf => ?_) (fun hf => ?_)
        · refine ax_sub [0, 2] rfl ?_
          exact K_A_bestWithout_42 B hn hR hE hag hr4 M v0 v2 hf
        · refine ax_aload_n B d_A_bestWithout_33 rfl (j := 0) rfl ?_
          refine ax_iload_n B d_A_bestWithout_34 rfl (j := 2) rfl ?_
          refine ax_iload_n B d_A_bestWithout_35 rfl (j := 1) rfl ?_
          refine ax_cVV B hR (as := [ax_I v2, ax_I v1]) (V := fun q => ax_I q.1) (N := fun q => q.2) d_A_bestWithout_36 l_A_53 m_A_isAhead hf (fun q h => c_A_isAhead _ _ _ _ _ _ h) rfl rfl (by decide) (by decide) (by decide) (by decide) (Nat.le_of_ble_eq_true rfl) (fun q5 hf => ?_)
          refine ax_if_eq B (tgt := 44) d_A_bestWithout_39 (by decide) hf (fun hf => ?_) (fun hf => ?_)
          · exact K_A_bestWithout_44 B hn hR hE hag hr4 q5.2 v0 v1 v2 hf
          · refine ax_sub [0, 2] rfl ?_
            exact K_A_bestWithout_42 B hn hR hE hag hr4 q5.2 v0 v2 hf
      · exact K_A_bestWithout_44 B hn hR hE hag hr4 M v0 v1 v2 hf
def F_A_bestWithout_4  : Nat → ax_M → Option Nat → Int32 → Int32 → Option (Int32 × ax_M)
  | 0 => fun _ _ _ _ => none
  | n + 1 => G_A_bestWithout_4 (F_A_bestWithout_4  n)
set_option maxRecDepth 100000 in
set_option maxHeartbeats 4000000 in
theorem L_A_bestWithout_4 {Z : ax_Z} {ad0 ad : Nat → Nat} {q : Int32 × ax_M} (B : ax_B Z "VoteAuctions$Auction" b_A_bestWithout (some .int)) (hn : Z.2.2.2.2.2.2.2.2.2.2.2.1 = 3) (hR : ax_R Z 1 0 0) (hE : ax_E Z ad0 [] 0 0 (some (ax_I q.1)) q.2) (hag : ∀ a, a ∉ ([] : List Nat) → ad a = ad0 a)   : ∀ (n : Nat) (M : ax_M) (v0 : Option Nat) (v1 : Int32) (v2 : Int32), F_A_bestWithout_4  n M v0 v1 v2 = some q → ax_W Z ad 0 0 4 [(0, ax_O v0), (1, ax_I v1), (2, ax_I v2)] [] M := by
  intro n
  induction n with
  | zero => intro M v0 v1 v2 hf; cases hf
  | succ n ih => exact K_A_bestWithout_4 B hn hR hE hag ih
def f_A_bestWithout (M : ax_M) (x0 : Option Nat) : Option (Int32 × ax_M) := F_A_bestWithout_4 64 M x0 (-1) 0
set_option maxRecDepth 100000 in
set_option maxHeartbeats 4000000 in
theorem c_A_bestWithout (l : Launch) (G : ax_G) (M : ax_M) (x0 : Option Nat) {q : Int32 × ax_M} (hf : f_A_bestWithout M x0 = some q) : ax_C l G y_A_bestWithout b_A_bestWithout 3 (some .int) [] 1 0 0 [ax_O x0] M (some (ax_I q.1)) q.2 := by
  refine ax_ofW (by decide +kernel) (lv0 := [(0, ax_O x0)]) (Nat.le_of_ble_eq_true rfl) rfl ?_
  intro Z ad B hin _ _ hn hR hE
  have hag : ∀ a, a ∉ ([] : List Nat) → ad a = ad a := fun _ _ => rfl
  unfold f_A_bestWithout at hf
  refine ax_iconst B (v := (-1)) (by decide) d_A_bestWithout_0 ?_
  refine ax_istore_n B (lv' := [(1, ax_I (-1)), (0, ax_O x0)]) d_A_bestWithout_1 rfl (by rw [hn]; decide) rfl ?_
  refine ax_iconst B (v := 0) (by decide) d_A_bestWithout_2 ?_
  refine ax_istore_n B (lv' := [(2, ax_I 0), (1, ax_I (-1)), (0, ax_O x0)]) d_A_bestWithout_3 rfl (by rw [hn]; decide) rfl ?_
  refine ax_sub [2, 1, 0] rfl ?_
  exact L_A_bestWithout_4 B hn hR hE hag 64 M x0 (-1) 0 hf
def G_V_shareUnits_69  (M : ax_M)  : Option (ax_M) := some M
set_option maxRecDepth 100000 in
set_option maxHeartbeats 4000000 in
theorem K_V_shareUnits_69 {Z : ax_Z} {ad0 ad : Nat → Nat} {q : ax_M} (B : ax_B Z "VoteAuctions" b_V_shareUnits none) (hn : Z.2.2.2.2.2.2.2.2.2.2.2.1 = 5) (hR : ax_R Z 2 0 0) (hE : ax_E Z ad0 [] 0 0 none q) (hag : ∀ a, a ∉ ([] : List Nat) → ad a = ad0 a)   : ∀ (M : ax_M) , G_V_shareUnits_69  M  = some q → ax_W Z ad 0 0 69 [] [] M := by
  intro M  hf
  unfold G_V_shareUnits_69 at hf
  exact ax_vreturn B hE d_V_shareUnits_69 hf hag (by decide) (by decide)
def G_V_shareUnits_7 (rec7 : ax_M → Option Nat → Int32 → Int32 → Option (ax_M)) (M : ax_M) (v0 : Option Nat) (v1 : Int32) (v2 : Int32) : Option (ax_M) := if 8 ≤ v2 then G_V_shareUnits_69 M else if v1 ≤ 0 then G_V_shareUnits_69 M else (ax_ob M 2 v0).bind (fun _ => (f_A_bestWithout M v0 ).bind (fun q1 => if q1.1 = (-1) then some q1.2 else (ax_gr q1.2 2 8 v0).bind (fun x2 => (ax_ri q1.2 0 x2 q1.1).bind (fun x3 => (some (if x3 < v1 then x3 else v1)).bind (fun y4 => (ax_gr q1.2 2 10 v0).bind (fun x5 => (ax_ti q1.2 0 x5 q1.1 y4).bind (fun M6 => (ax_gr M6 2 9 v0).bind (fun x7 => (ax_ri M6 0 x7 q1.1).bind (fun x8 => (ax_pi M6 2 13 v0 x8).bind (fun M9 => (some (v1 - y4)).bind (fun y10 => (some (v2 + 1)).bind (fun y11 => rec7 M9 v0 y10 y11))))))))))))
set_option maxRecDepth 100000 in
set_option maxHeartbeats 4000000 in
theorem K_V_shareUnits_7 {Z : ax_Z} {ad0 ad : Nat → Nat} {q : ax_M} (B : ax_B Z "VoteAuctions" b_V_shareUnits none) (hn : Z.2.2.2.2.2.2.2.2.2.2.2.1 = 5) (hR : ax_R Z 2 0 0) (hE : ax_E Z ad0 [] 0 0 none q) (hag : ∀ a, a ∉ ([] : List Nat) → ad a = ad0 a) {rec7 : ax_M → Option Nat → Int32 → Int32 → Option (ax_M)} (hr7 : ∀ (M : ax_M) (v0 : Option Nat) (v1 : Int32) (v2 : Int32), rec7 M v0 v1 v2 = some q → ax_W Z ad 0 0 7 [(0, ax_O v0), (1, ax_I v1), (2, ax_I v2)] [] M) : ∀ (M : ax_M) (v0 : Option Nat) (v1 : Int32) (v2 : Int32), G_V_shareUnits_7 rec7 M v0 v1 v2 = some q → ax_W Z ad 0 0 7 [(0, ax_O v0), (1, ax_I v1), (2, ax_I v2)] [] M := by
  intro M v0 v1 v2 hf
  unfold G_V_shareUnits_7 at hf
  refine ax_iload_n B d_V_shareUnits_7 rfl (j := 2) rfl ?_
  refine ax_bipush B (v := 8) (by decide) d_V_shareUnits_8 ?_
  refine ax_icmp_ge B (tgt := 69) d_V_shareUnits_10 (by decide) hf (fun hf => ?_) (fun hf => ?_)
  · refine ax_sub [] rfl ?_
    exact K_V_shareUnits_69 B hn hR hE hag M hf
  · refine ax_iload_n B d_V_shareUnits_13 rfl (j := 1) rfl ?_
    refine ax_if_le B (tgt := 69) d_V_shareUnits_14 (by decide) hf (fun hf => ?_) (fun hf => ?_)
    · refine ax_sub [] rfl ?_
      exact K_V_shareUnits_69 B hn hR hE hag M hf
    · refine ax_aload_n B d_V_shareUnits_17 rfl (j := 0) rfl ?_
      refine ax_cVV B hR (as := []) (V := fun q => ax_I q.1) (N := fun q => q.2) d_V_shareUnits_18 l_V_295 m_A_bestWithout hf (fun q h => c_A_bestWithout _ _ _ _ h) rfl rfl (by decide) (by decide) (by decide) (by decide) (Nat.le_of_ble_eq_true rfl) (fun q1 hf => ?_)
      refine ax_istore_n B (lv' := [(3, ax_I q1.1), (0, ax_O v0), (1, ax_I v1), (2, ax_I v2)]) d_V_shareUnits_21 rfl (by rw [hn]; decide) rfl ?_
      refine ax_iload_n B d_V_shareUnits_22 rfl (j := 0) rfl ?_
      refine ax_iconst B (v := (-1)) (by decide) d_V_shareUnits_23 ?_
      refine ax_icmp_ne B (tgt := 28) d_V_shareUnits_24 (by decide) hf (fun hf => ?_) (fun hf => ?_)
      · exact ax_vreturn B hE d_V_shareUnits_27 hf hag (by decide) (by decide)
      · refine ax_iload_n B d_V_shareUnits_28 rfl (j := 2) rfl ?_
        refine ax_aload_n B d_V_shareUnits_29 rfl (j := 1) rfl ?_
        refine ax_getR B d_V_shareUnits_30 k_V_198 rfl hf (fun x2 hf => ?_)
        refine ax_iload_n B d_V_shareUnits_33 rfl (j := 0) rfl ?_
        refine ax_iald B d_V_shareUnits_34 (t := 0) (by decide) rfl hf (fun x3 hf => ?_)
        refine ax_mmin B hR d_V_shareUnits_35 l_V_302 (by decide) (by decide) (by decide) (Nat.le_of_ble_eq_true rfl) ?_
        refine ax_nmI hf (fun y4 hf => ?_)
        refine ax_istore B (lv' := [(4, ax_I y4), (3, ax_I q1.1), (0, ax_O v0), (1, ax_I v1), (2, ax_I v2)]) d_V_shareUnits_38 (by rw [hn]; decide) rfl ?_
        refine ax_aload_n B d_V_shareUnits_40 rfl (j := 2) rfl ?_
        refine ax_getR B d_V_shareUnits_41 k_V_226 rfl hf (fun x5 hf => ?_)
        refine ax_iload_n B d_V_shareUnits_44 rfl (j := 1) rfl ?_
        refine ax_iload B (j := 0) d_V_shareUnits_45 rfl ?_
        refine ax_iast B d_V_shareUnits_47 (t := 0) (by decide) rfl hf (fun M6 hf => ?_)
        refine ax_aload_n B d_V_shareUnits_48 rfl (j := 2) rfl ?_
        refine ax_aload_n B d_V_shareUnits_49 rfl (j := 2) rfl ?_
        refine ax_getR B d_V_shareUnits_50 k_V_201 rfl hf (fun x7 hf => ?_)
        refine ax_iload_n B d_V_shareUnits_53 rfl (j := 1) rfl ?_
        refine ax_iald B d_V_shareUnits_54 (t := 0) (by decide) rfl hf (fun x8 hf => ?_)
        refine ax_putI B d_V_shareUnits_55 k_V_191 rfl rfl rfl rfl hf (fun M9 hf => ?_)
        refine ax_iload_n B d_V_shareUnits_58 rfl (j := 3) rfl ?_
        refine ax_iload B (j := 0) d_V_shareUnits_59 rfl ?_
        refine ax_isub B d_V_shareUnits_61 ?_
        refine ax_nmI hf (fun y10 hf => ?_)
        refine ax_istore_n B (lv' := [(1, ax_I y10), (4, ax_I y4), (3, ax_I q1.1), (0, ax_O v0), (2, ax_I v2)]) d_V_shareUnits_62 rfl (by rw [hn]; decide) rfl ?_
        refine ax_iincN B (j := 4) (lv' := fun y => [(2, ax_I y), (1, ax_I y10), (4, ax_I y4), (3, ax_I q1.1), (0, ax_O v0)]) d_V_shareUnits_63 rfl hf rfl (by rw [hn]; decide) (fun _ => rfl) (fun y11 hf => ?_)
        refine ax_goto B (tgt := 7) d_V_shareUnits_66 (by decide) ?_
        refine ax_sub [4, 1, 0] rfl ?_
        exact hr7 M9 v0 y10 y11 hf
def F_V_shareUnits_7  : Nat → ax_M → Option Nat → Int32 → Int32 → Option (ax_M)
  | 0 => fun _ _ _ _ => none
  | n + 1 => G_V_shareUnits_7 (F_V_shareUnits_7  n)
set_option maxRecDepth 100000 in
set_option maxHeartbeats 4000000 in
theorem L_V_shareUnits_7 {Z : ax_Z} {ad0 ad : Nat → Nat} {q : ax_M} (B : ax_B Z "VoteAuctions" b_V_shareUnits none) (hn : Z.2.2.2.2.2.2.2.2.2.2.2.1 = 5) (hR : ax_R Z 2 0 0) (hE : ax_E Z ad0 [] 0 0 none q) (hag : ∀ a, a ∉ ([] : List Nat) → ad a = ad0 a)   : ∀ (n : Nat) (M : ax_M) (v0 : Option Nat) (v1 : Int32) (v2 : Int32), F_V_shareUnits_7  n M v0 v1 v2 = some q → ax_W Z ad 0 0 7 [(0, ax_O v0), (1, ax_I v1), (2, ax_I v2)] [] M := by
  intro n
  induction n with
  | zero => intro M v0 v1 v2 hf; cases hf
  | succ n ih => exact K_V_shareUnits_7 B hn hR hE hag ih
def f_V_shareUnits (M : ax_M) (p0 : Option Nat) : Option (ax_M) := (ax_gi M 2 1 p0).bind (fun x1 => F_V_shareUnits_7 64 M p0 x1 0)
set_option maxRecDepth 100000 in
set_option maxHeartbeats 4000000 in
theorem c_V_shareUnits (l : Launch) (G : ax_G) (M : ax_M) (p0 : Option Nat) {q : ax_M} (hf : f_V_shareUnits M p0 = some q) : ax_C l G y_V_shareUnits b_V_shareUnits 5 none [] 2 0 0 [ax_O p0] M none q := by
  refine ax_ofW (by decide +kernel) (lv0 := [(0, ax_O p0)]) (Nat.le_of_ble_eq_true rfl) rfl ?_
  intro Z ad B hin _ _ hn hR hE
  have hag : ∀ a, a ∉ ([] : List Nat) → ad a = ad a := fun _ _ => rfl
  unfold f_V_shareUnits at hf
  refine ax_aload_n B d_V_shareUnits_0 rfl (j := 0) rfl ?_
  refine ax_getI B d_V_shareUnits_1 k_V_168 rfl hf (fun x1 hf => ?_)
  refine ax_istore_n B (lv' := [(1, ax_I x1), (0, ax_O p0)]) d_V_shareUnits_4 rfl (by rw [hn]; decide) rfl ?_
  refine ax_iconst B (v := 0) (by decide) d_V_shareUnits_5 ?_
  refine ax_istore_n B (lv' := [(2, ax_I 0), (1, ax_I x1), (0, ax_O p0)]) d_V_shareUnits_6 rfl (by rw [hn]; decide) rfl ?_
  refine ax_sub [2, 1, 0] rfl ?_
  exact L_V_shareUnits_7 B hn hR hE hag 64 M p0 x1 0 hf
def f_A_costOf (M : ax_M) (x0 : Option Nat) (p0 : Int32) : Option (Int64 × ax_M) := (ax_gr M 2 8 x0).bind (fun x1 => (ax_ri M 0 x1 p0).bind (fun x2 => (ax_gr M 2 9 x0).bind (fun x3 => (ax_ri M 0 x3 p0).bind (fun x4 => some (((x2.toInt64) * (x4.toInt64)), M)))))
set_option maxRecDepth 100000 in
set_option maxHeartbeats 4000000 in
theorem c_A_costOf (l : Launch) (G : ax_G) (M : ax_M) (x0 : Option Nat) (p0 : Int32) {q : Int64 × ax_M} (hf : f_A_costOf M x0 p0 = some q) : ax_C l G y_A_costOf b_A_costOf 2 (some .long) [] 0 0 0 [ax_O x0, ax_I p0] M (some (ax_L q.1)) q.2 := by
  refine ax_ofW (by decide +kernel) (lv0 := [(0, ax_O x0), (1, ax_I p0)]) (Nat.le_of_ble_eq_true rfl) rfl ?_
  intro Z ad B hin _ _ hn hR hE
  have hag : ∀ a, a ∉ ([] : List Nat) → ad a = ad a := fun _ _ => rfl
  unfold f_A_costOf at hf
  refine ax_aload_n B d_A_costOf_0 rfl (j := 0) rfl ?_
  refine ax_getR B d_A_costOf_1 k_A_38 rfl hf (fun x1 hf => ?_)
  refine ax_iload_n B d_A_costOf_4 rfl (j := 1) rfl ?_
  refine ax_iald B d_A_costOf_5 (t := 0) (by decide) rfl hf (fun x2 hf => ?_)
  refine ax_i2l B d_A_costOf_6 ?_
  refine ax_aload_n B d_A_costOf_7 rfl (j := 0) rfl ?_
  refine ax_getR B d_A_costOf_8 k_A_41 rfl hf (fun x3 hf => ?_)
  refine ax_iload_n B d_A_costOf_11 rfl (j := 1) rfl ?_
  refine ax_iald B d_A_costOf_12 (t := 0) (by decide) rfl hf (fun x4 hf => ?_)
  refine ax_i2l B d_A_costOf_13 ?_
  refine ax_lmul B d_A_costOf_14 ?_
  exact ax_lreturn B hE d_A_costOf_15 hf hag (by decide) (by decide)
def f_V_giveBack (M : ax_M) (x0 : Option Nat) (p0 : Int32) (p1 : Int64) : Option (ax_M) := (ax_gr M 0 5 x0).bind (fun x1 => (ax_rl M 1 x1 p0).bind (fun x2 => (ax_tl M 1 x1 p0 (x2 - p1)).bind (fun M3 => (ax_gr M3 0 4 x0).bind (fun x4 => (ax_rl M3 1 x4 p0).bind (fun x5 => (ax_tl M3 1 x4 p0 (x5 + p1)).bind (fun M6 => some M6))))))
set_option maxRecDepth 100000 in
set_option maxHeartbeats 4000000 in
theorem c_V_giveBack (l : Launch) (G : ax_G) (M : ax_M) (x0 : Option Nat) (p0 : Int32) (p1 : Int64) {q : ax_M} (hf : f_V_giveBack M x0 p0 p1 = some q) : ax_C l G y_V_giveBack b_V_giveBack 4 none [] 0 0 0 [ax_O x0, ax_I p0, ax_L p1] M none q := by
  refine ax_ofW (by decide +kernel) (lv0 := [(0, ax_O x0), (1, ax_I p0), (2, ax_L p1)]) (Nat.le_of_ble_eq_true rfl) rfl ?_
  intro Z ad B hin _ _ hn hR hE
  have hag : ∀ a, a ∉ ([] : List Nat) → ad a = ad a := fun _ _ => rfl
  unfold f_V_giveBack at hf
  refine ax_aload_n B d_V_giveBack_0 rfl (j := 0) rfl ?_
  refine ax_getR B d_V_giveBack_1 k_V_17 rfl hf (fun x1 hf => ?_)
  refine ax_iload_n B d_V_giveBack_4 rfl (j := 1) rfl ?_
  refine ax_dup2_11 B rfl rfl d_V_giveBack_5 ?_
  refine ax_lald B d_V_giveBack_6 (t := 1) (by decide) rfl hf (fun x2 hf => ?_)
  refine ax_lload_n B d_V_giveBack_7 rfl (j := 2) rfl ?_
  refine ax_lsub B d_V_giveBack_8 ?_
  refine ax_last B d_V_giveBack_9 (t := 1) (by decide) rfl hf (fun M3 hf => ?_)
  refine ax_aload_n B d_V_giveBack_10 rfl (j := 0) rfl ?_
  refine ax_getR B d_V_giveBack_11 k_V_13 rfl hf (fun x4 hf => ?_)
  refine ax_iload_n B d_V_giveBack_14 rfl (j := 1) rfl ?_
  refine ax_dup2_11 B rfl rfl d_V_giveBack_15 ?_
  refine ax_lald B d_V_giveBack_16 (t := 1) (by decide) rfl hf (fun x5 hf => ?_)
  refine ax_lload_n B d_V_giveBack_17 rfl (j := 2) rfl ?_
  refine ax_ladd B d_V_giveBack_18 ?_
  refine ax_last B d_V_giveBack_19 (t := 1) (by decide) rfl hf (fun M6 hf => ?_)
  exact ax_vreturn B hE d_V_giveBack_20 hf hag (by decide) (by decide)
def G_V_settleBids_2 (rec2 : ax_M → Option Nat → Option Nat → Int32 → Option (ax_M)) (M : ax_M) (v0 : Option Nat) (v1 : Option Nat) (v2 : Int32) : Option (ax_M) := if 8 ≤ v2 then some M else (ax_ob M 2 v1).bind (fun _ => (f_A_costOf M v1 v2).bind (fun q1 => (ax_gr q1.2 2 10 v1).bind (fun x2 => (ax_ri q1.2 0 x2 v2).bind (fun x3 => (ax_gi q1.2 2 13 v1).bind (fun x4 => (some ((x3.toInt64) * (x4.toInt64))).bind (fun y5 => (ax_ob q1.2 0 v0).bind (fun _ => (f_V_payAside q1.2 v0 v2 y5).bind (fun q6 => (ax_ob q6 0 v0).bind (fun _ => (f_V_giveBack q6 v0 v2 (q1.1 - y5)).bind (fun q7 => (some (v2 + 1)).bind (fun y8 => rec2 q7 v0 v1 y8)))))))))))
set_option maxRecDepth 100000 in
set_option maxHeartbeats 4000000 in
theorem K_V_settleBids_2 {Z : ax_Z} {ad0 ad : Nat → Nat} {q : ax_M} (B : ax_B Z "VoteAuctions" b_V_settleBids none) (hn : Z.2.2.2.2.2.2.2.2.2.2.2.1 = 7) (hR : ax_R Z 1 0 0) (hE : ax_E Z ad0 [] 0 0 none q) (hag : ∀ a, a ∉ ([] : List Nat) → ad a = ad0 a) {rec2 : ax_M → Option Nat → Option Nat → Int32 → Option (ax_M)} (hr2 : ∀ (M : ax_M) (v0 : Option Nat) (v1 : Option Nat) (v2 : Int32), rec2 M v0 v1 v2 = some q → ax_W Z ad 0 0 2 [(0, ax_O v0), (1, ax_O v1), (2, ax_I v2)] [] M) : ∀ (M : ax_M) (v0 : Option Nat) (v1 : Option Nat) (v2 : Int32), G_V_settleBids_2 rec2 M v0 v1 v2 = some q → ax_W Z ad 0 0 2 [(0, ax_O v0), (1, ax_O v1), (2, ax_I v2)] [] M := by
  intro M v0 v1 v2 hf
  unfold G_V_settleBids_2 at hf
  refine ax_iload_n B d_V_settleBids_2 rfl (j := 2) rfl ?_
  refine ax_bipush B (v := 8) (by decide) d_V_settleBids_3 ?_
  refine ax_icmp_ge B (tgt := 51) d_V_settleBids_5 (by decide) hf (fun hf => ?_) (fun hf => ?_)
  · exact ax_vreturn B hE d_V_settleBids_51 hf hag (by decide) (by decide)
  · refine ax_aload_n B d_V_settleBids_8 rfl (j := 1) rfl ?_
    refine ax_iload_n B d_V_settleBids_9 rfl (j := 2) rfl ?_
    refine ax_cVV B hR (as := [ax_I v2]) (V := fun q => ax_L q.1) (N := fun q => q.2) d_V_settleBids_10 l_V_180 m_A_costOf hf (fun q h => c_A_costOf _ _ _ _ _ h) rfl rfl (by decide) (by decide) (by decide) (by decide) (Nat.le_of_ble_eq_true rfl) (fun q1 hf => ?_)
    refine ax_lstore_n B (lv' := [(3, ax_L q1.1), (0, ax_O v0), (1, ax_O v1), (2, ax_I v2)]) d_V_settleBids_13 rfl (by rw [hn]; decide) rfl ?_
    refine ax_aload_n B d_V_settleBids_14 rfl (j := 2) rfl ?_
    refine ax_getR B d_V_settleBids_15 k_V_226 rfl hf (fun x2 hf => ?_)
    refine ax_iload_n B d_V_settleBids_18 rfl (j := 3) rfl ?_
    refine ax_iald B d_V_settleBids_19 (t := 0) (by decide) rfl hf (fun x3 hf => ?_)
    refine ax_i2l B d_V_settleBids_20 ?_
    refine ax_aload_n B d_V_settleBids_21 rfl (j := 2) rfl ?_
    refine ax_getI B d_V_settleBids_22 k_V_191 rfl hf (fun x4 hf => ?_)
    refine ax_i2l B d_V_settleBids_25 ?_
    refine ax_lmul B d_V_settleBids_26 ?_
    refine ax_nmL hf (fun y5 hf => ?_)
    refine ax_lstore B (lv' := [(5, ax_L y5), (3, ax_L q1.1), (0, ax_O v0), (1, ax_O v1), (2, ax_I v2)]) d_V_settleBids_27 (by rw [hn]; decide) rfl ?_
    refine ax_aload_n B d_V_settleBids_29 rfl (j := 2) rfl ?_
    refine ax_iload_n B d_V_settleBids_30 rfl (j := 4) rfl ?_
    refine ax_lload B (j := 0) d_V_settleBids_31 rfl ?_
    refine ax_cVN B hR (as := [ax_I v2, ax_L y5]) (N := fun q => q) d_V_settleBids_33 l_V_223 m_V_payAside hf (fun q h => c_V_payAside _ _ _ _ _ _ h) rfl rfl (by decide) (by decide) (by decide) (by decide) (Nat.le_of_ble_eq_true rfl) (fun q6 hf => ?_)
    refine ax_aload_n B d_V_settleBids_36 rfl (j := 2) rfl ?_
    refine ax_iload_n B d_V_settleBids_37 rfl (j := 4) rfl ?_
    refine ax_lload_n B d_V_settleBids_38 rfl (j := 1) rfl ?_
    refine ax_lload B (j := 0) d_V_settleBids_39 rfl ?_
    refine ax_lsub B d_V_settleBids_41 ?_
    refine ax_cVN B hR (as := [ax_I v2, ax_L (q1.1 - y5)]) (N := fun q => q) d_V_settleBids_42 l_V_216 m_V_giveBack hf (fun q h => c_V_giveBack _ _ _ _ _ _ h) rfl rfl (by decide) (by decide) (by decide) (by decide) (Nat.le_of_ble_eq_true rfl) (fun q7 hf => ?_)
    refine ax_iincN B (j := 4) (lv' := fun y => [(2, ax_I y), (5, ax_L y5), (3, ax_L q1.1), (0, ax_O v0), (1, ax_O v1)]) d_V_settleBids_45 rfl hf rfl (by rw [hn]; decide) (fun _ => rfl) (fun y8 hf => ?_)
    refine ax_goto B (tgt := 2) d_V_settleBids_48 (by decide) ?_
    refine ax_sub [3, 4, 0] rfl ?_
    exact hr2 q7 v0 v1 y8 hf
def F_V_settleBids_2  : Nat → ax_M → Option Nat → Option Nat → Int32 → Option (ax_M)
  | 0 => fun _ _ _ _ => none
  | n + 1 => G_V_settleBids_2 (F_V_settleBids_2  n)
set_option maxRecDepth 100000 in
set_option maxHeartbeats 4000000 in
theorem L_V_settleBids_2 {Z : ax_Z} {ad0 ad : Nat → Nat} {q : ax_M} (B : ax_B Z "VoteAuctions" b_V_settleBids none) (hn : Z.2.2.2.2.2.2.2.2.2.2.2.1 = 7) (hR : ax_R Z 1 0 0) (hE : ax_E Z ad0 [] 0 0 none q) (hag : ∀ a, a ∉ ([] : List Nat) → ad a = ad0 a)   : ∀ (n : Nat) (M : ax_M) (v0 : Option Nat) (v1 : Option Nat) (v2 : Int32), F_V_settleBids_2  n M v0 v1 v2 = some q → ax_W Z ad 0 0 2 [(0, ax_O v0), (1, ax_O v1), (2, ax_I v2)] [] M := by
  intro n
  induction n with
  | zero => intro M v0 v1 v2 hf; cases hf
  | succ n ih => exact K_V_settleBids_2 B hn hR hE hag ih
def f_V_settleBids (M : ax_M) (x0 : Option Nat) (p0 : Option Nat) : Option (ax_M) := F_V_settleBids_2 64 M x0 p0 0
set_option maxRecDepth 100000 in
set_option maxHeartbeats 4000000 in
theorem c_V_settleBids (l : Launch) (G : ax_G) (M : ax_M) (x0 : Option Nat) (p0 : Option Nat) {q : ax_M} (hf : f_V_settleBids M x0 p0 = some q) : ax_C l G y_V_settleBids b_V_settleBids 7 none [] 1 0 0 [ax_O x0, ax_O p0] M none q := by
  refine ax_ofW (by decide +kernel) (lv0 := [(0, ax_O x0), (1, ax_O p0)]) (Nat.le_of_ble_eq_true rfl) rfl ?_
  intro Z ad B hin _ _ hn hR hE
  have hag : ∀ a, a ∉ ([] : List Nat) → ad a = ad a := fun _ _ => rfl
  unfold f_V_settleBids at hf
  refine ax_iconst B (v := 0) (by decide) d_V_settleBids_0 ?_
  refine ax_istore_n B (lv' := [(2, ax_I 0), (0, ax_O x0), (1, ax_O p0)]) d_V_settleBids_1 rfl (by rw [hn]; decide) rfl ?_
  refine ax_sub [1, 2, 0] rfl ?_
  exact L_V_settleBids_2 B hn hR hE hag 64 M x0 p0 0 hf
end
